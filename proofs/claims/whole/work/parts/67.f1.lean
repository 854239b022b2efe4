/-! ===== refusals of both (laid by wip/whole/src/f1.py) ===== -/
section
variable {X : x_X} {I : Nat → Nat → Int32} {L : Nat → Nat → Int64} {R : Nat → Nat → Option Nat}
theorem np1 {x : Int32} {n : Nat} (hn : n ≤ 30) (h : x = Int32.ofNat n) : (1 ≤ x) ↔ ¬ x = 0 := by
  rw [h, kn_1, kn_0, n_le (by omega) (by omega), n_eq (by omega) (by omega)]
  omega
theorem nm35 {x : Int32} {n : Nat} (hn : n < 36) (h : x = Int32.ofNat n) : (x < 35) ↔ ¬ x = 35 := by
  rw [h, kn_35, n_lt (by omega) (by omega), n_eq (by omega) (by omega)]
  omega
theorem pj_ok {M : Nat} (h : 1 ≤ M ∧ M ≤ 12) : (1 : Int32) ≤ Int32.ofNat M ∧ Int32.ofNat M ≤ 12 := by
  rw [kn_1, kn_12, n_le (by omega) (by omega), n_le (by omega) (by omega)]
  exact h
theorem pj_of {m : Int32} (h : 1 ≤ m ∧ m ≤ 12) : ∃ M, (1 ≤ M ∧ M ≤ 12) ∧ m = Int32.ofNat M := by
  have h1 := t_le.mp h.1
  have h2 := t_le.mp h.2
  rw [show (1 : Int32).toInt = 1 from by decide] at h1
  rw [show (12 : Int32).toInt = 12 from by decide] at h2
  exact ⟨m.toInt.toNat, by omega, t_nat (by omega)⟩
theorem kf_removePlot_0 {N β : Nat} {a : Nat → Int32} {b : Nat → Int64} (H : y_CS N I L R β a b) {Ns Np Nl Nm : Nat} (Z : y_Z a Ns Np Nl Nm) {v : Int32} (h0 : ¬ (0 ≤ v ∧ v ≤ a 9 - 1)) : x_Cv X mX8_removePlot [.ref 0, .int v] (I, L, R) 233 (.inr 2, (I, L, R), 233) := by
  obtain ⟨hNs, hn, hNp, hp, hNl, hl, hNm, hmm⟩ := Z
  have hR := h_R H
  have hβ := h_β H
  have hS := h_S H
  show x_Ev X mX8_removePlot 0 [some (.ref 0), some (.int v)] [] ((I, L, R), 233, 0, 0) _
  refine f_iload_n (M := mX8_removePlot) 1 dX8_removePlot_0 rfl rfl ?_
  refine f_iconst (M := mX8_removePlot) 2 dX8_removePlot_1 ki_0 rfl ?_
  refine f_aload_n (M := mX8_removePlot) 3 dX8_removePlot_2 rfl rfl ?_
  refine e_getR (M := mX8_removePlot) dX8_removePlot_3 fl_8026 (x_kk rfl) (x_kk rfl) rfl hS ?_
  refine e_getR (M := mX8_removePlot) dX8_removePlot_6 fl_8070 (x_kk rfl) (sl_lt hβ 0 rfl) (sl_s hβ 0 rfl rfl) (wf_6_2 hR hβ) ?_
  refine e_getI (M := mX8_removePlot) dX8_removePlot_9 fl_8074 (x_kk rfl) (sl_lt hβ 5 rfl) (sl_s hβ 5 rfl rfl) ?_
  refine f_iconst (M := mX8_removePlot) 13 dX8_removePlot_12 ki_1 rfl ?_
  refine f_isub (M := mX8_removePlot) 14 dX8_removePlot_13 rfl ?_
  refine e_cS (M := mX8_removePlot) [_] 0 0 dX8_removePlot_14 pa_8049 cc_8049 rfl rfl rfl rfl rfl (x_kk rfl) (x_kk rfl) rfl (c_X8_isIn (lo := 0)) rfl ?_
  exact e_cSX (M := mX8_removePlot) 1 6 dX8_removePlot_17 pa_8103 cc_8103 rfl rfl rfl rfl rfl (x_kk rfl) (x_kk rfl) rfl (c_X8_requireExisting_x (x_b0 (by rw [(h_C H).1]; exact h0))) rfl
theorem kf_removePlot_1 {N β : Nat} {a : Nat → Int32} {b : Nat → Int64} (H : y_CS N I L R β a b) {Ns Np Nl Nm : Nat} (Z : y_Z a Ns Np Nl Nm) {p : Nat} (hpp : p < Np) (h1 : ¬ (a 0 = 0)) : x_Cv X mX8_removePlot [.ref 0, .int (Int32.ofNat p)] (I, L, R) 233 (.inr 0, (I, L, R), 233) := by
  obtain ⟨hNs, hn, hNp, hp, hNl, hl, hNm, hmm⟩ := Z
  have hR := h_R H
  have hβ := h_β H
  have hS := h_S H
  show x_Ev X mX8_removePlot 0 [some (.ref 0), some (.int (Int32.ofNat p))] [] ((I, L, R), 233, 0, 0) _
  refine f_iload_n (M := mX8_removePlot) 1 dX8_removePlot_0 rfl rfl ?_
  refine f_iconst (M := mX8_removePlot) 2 dX8_removePlot_1 ki_0 rfl ?_
  refine f_aload_n (M := mX8_removePlot) 3 dX8_removePlot_2 rfl rfl ?_
  refine e_getR (M := mX8_removePlot) dX8_removePlot_3 fl_8026 (x_kk rfl) (x_kk rfl) rfl hS ?_
  refine e_getR (M := mX8_removePlot) dX8_removePlot_6 fl_8070 (x_kk rfl) (sl_lt hβ 0 rfl) (sl_s hβ 0 rfl rfl) (wf_6_2 hR hβ) ?_
  refine e_getI (M := mX8_removePlot) dX8_removePlot_9 fl_8074 (x_kk rfl) (sl_lt hβ 5 rfl) (sl_s hβ 5 rfl rfl) ?_
  refine f_iconst (M := mX8_removePlot) 13 dX8_removePlot_12 ki_1 rfl ?_
  refine f_isub (M := mX8_removePlot) 14 dX8_removePlot_13 rfl ?_
  refine e_cS (M := mX8_removePlot) [_] 0 0 dX8_removePlot_14 pa_8049 cc_8049 rfl rfl rfl rfl rfl (x_kk rfl) (x_kk rfl) rfl (c_X8_isIn (lo := 0)) rfl ?_
  refine e_cS (M := mX8_removePlot) [] 1 6 dX8_removePlot_17 pa_8103 cc_8103 rfl rfl rfl rfl rfl (x_kk rfl) (x_kk rfl) rfl (c_X8_requireExisting (x_bn (by rw [(h_C H).1]; exact (in_ok hp (by omega) hpp)))) rfl ?_
  refine f_aload_n (M := mX8_removePlot) 21 dX8_removePlot_20 rfl rfl ?_
  refine e_getR (M := mX8_removePlot) dX8_removePlot_21 fl_8026 (x_kk rfl) (x_kk rfl) rfl hS ?_
  refine e_getI (M := mX8_removePlot) dX8_removePlot_24 fl_8067 (x_kk rfl) (sl_lt hβ 0 rfl) (sl_s hβ 0 rfl rfl) ?_
  refine e_if_neT (M := mX8_removePlot) 34 dX8_removePlot_27 rfl (by rw [h_ph H]; exact h1) ?_
  refine f_iconst (M := mX8_removePlot) 35 dX8_removePlot_34 ki_0 rfl ?_
  exact e_cSX (M := mX8_removePlot) 2 12 dX8_removePlot_35 pa_8037 cc_8037 rfl rfl rfl rfl rfl (x_kk rfl) (x_kk rfl) rfl (c_X8_requireState_x rfl) rfl
theorem mf_removePlot_0 (hR : x_wf R) {Ns Np Nl Nm : Nat} (Z : y_Z (I 226) Ns Np Nl Nm) {v : Int32} (h0 : ¬ (0 ≤ v ∧ v ≤ I 226 9 - 1)) : x_Cv X mX9_removePlot [.ref 225, .int v] (I, L, R) 233 (.inl (some (.int (0))), (x_tw I 1, L, R), 233) := by
  obtain ⟨hNs, hn, hNp, hp, hNl, hl, hNm, hmm⟩ := Z
  show x_Ev X mX9_removePlot 0 [some (.ref 225), some (.int v), none] [] ((I, L, R), 233, 0, 0) _
  refine f_aload_n (M := mX9_removePlot) 1 dX9_removePlot_0 rfl rfl ?_
  refine f_iload_n (M := mX9_removePlot) 2 dX9_removePlot_1 rfl rfl ?_
  refine f_i2l (M := mX9_removePlot) 3 dX9_removePlot_2 rfl ?_
  refine f_lconst (M := mX9_removePlot) 4 dX9_removePlot_3 kl_0 rfl ?_
  refine f_aload_n (M := mX9_removePlot) 5 dX9_removePlot_4 rfl rfl ?_
  refine e_getR (M := mX9_removePlot) dX9_removePlot_5 fl_9007 (x_kk rfl) (x_kk rfl) rfl (wf_9_0 hR) ?_
  refine f_bipush (M := mX9_removePlot) 10 dX9_removePlot_8 kb_9 rfl ?_
  refine e_ild (M := mX9_removePlot) (w := 606) (j := 9) dX9_removePlot_10 (x_kk rfl) rfl kn_9 (by omega) (by omega) ?_
  refine f_iconst (M := mX9_removePlot) 12 dX9_removePlot_11 ki_1 rfl ?_
  refine f_isub (M := mX9_removePlot) 13 dX9_removePlot_12 rfl ?_
  refine f_i2l (M := mX9_removePlot) 14 dX9_removePlot_13 rfl ?_
  refine e_cS (M := mX9_removePlot) [_, _] 0 0 dX9_removePlot_14 pa_9074 cc_9074 rfl rfl rfl rfl rfl (x_kk rfl) (x_kk rfl) rfl (c_X9_isInI (lo := 0)) rfl ?_
  refine e_if_neF (M := mX9_removePlot) 24 dX9_removePlot_17 rfl (x_bnn h0) ?_
  refine f_iconst (M := mX9_removePlot) 21 dX9_removePlot_20 ki_1 rfl ?_
  refine f_goto (M := mX9_removePlot) 38 dX9_removePlot_21 rfl ?_
  refine e_putI (M := mX9_removePlot) dX9_removePlot_38 fl_9033 (x_kk rfl) (x_kk rfl) rfl (fun q9 => Bool.noConfusion q9) ?_
  refine f_aload_n (M := mX9_removePlot) 42 dX9_removePlot_41 rfl rfl ?_
  refine e_getI (M := mX9_removePlot) dX9_removePlot_42 fl_9033 (x_kk rfl) (x_kk rfl) rfl ?_
  refine e_if_leF (M := mX9_removePlot) 50 dX9_removePlot_45 rfl (show ¬ ((1 : Int32) ≤ 0) by decide) ?_
  refine f_iconst (M := mX9_removePlot) 49 dX9_removePlot_48 ki_0 rfl ?_
  refine e_ri (M := mX9_removePlot) dX9_removePlot_49 rfl (x_kk rfl) (x_kk rfl) ?_
  rfl
theorem mf_removePlot_1 (hR : x_wf R) {Ns Np Nl Nm : Nat} (Z : y_Z (I 226) Ns Np Nl Nm) {p : Nat} (hpp : p < Np) (h1 : ¬ (I 226 0 = 0)) : x_Cv X mX9_removePlot [.ref 225, .int (Int32.ofNat p)] (I, L, R) 233 (.inl (some (.int (0))), (x_tw I 2, L, R), 233) := by
  obtain ⟨hNs, hn, hNp, hp, hNl, hl, hNm, hmm⟩ := Z
  show x_Ev X mX9_removePlot 0 [some (.ref 225), some (.int (Int32.ofNat p)), none] [] ((I, L, R), 233, 0, 0) _
  refine f_aload_n (M := mX9_removePlot) 1 dX9_removePlot_0 rfl rfl ?_
  refine f_iload_n (M := mX9_removePlot) 2 dX9_removePlot_1 rfl rfl ?_
  refine f_i2l (M := mX9_removePlot) 3 dX9_removePlot_2 rfl ?_
  refine f_lconst (M := mX9_removePlot) 4 dX9_removePlot_3 kl_0 rfl ?_
  refine f_aload_n (M := mX9_removePlot) 5 dX9_removePlot_4 rfl rfl ?_
  refine e_getR (M := mX9_removePlot) dX9_removePlot_5 fl_9007 (x_kk rfl) (x_kk rfl) rfl (wf_9_0 hR) ?_
  refine f_bipush (M := mX9_removePlot) 10 dX9_removePlot_8 kb_9 rfl ?_
  refine e_ild (M := mX9_removePlot) (w := 606) (j := 9) dX9_removePlot_10 (x_kk rfl) rfl kn_9 (by omega) (by omega) ?_
  refine f_iconst (M := mX9_removePlot) 12 dX9_removePlot_11 ki_1 rfl ?_
  refine f_isub (M := mX9_removePlot) 13 dX9_removePlot_12 rfl ?_
  refine f_i2l (M := mX9_removePlot) 14 dX9_removePlot_13 rfl ?_
  refine e_cS (M := mX9_removePlot) [_, _] 0 0 dX9_removePlot_14 pa_9074 cc_9074 rfl rfl rfl rfl rfl (x_kk rfl) (x_kk rfl) rfl (c_X9_isInI (lo := 0)) rfl ?_
  refine e_if_neT (M := mX9_removePlot) 24 dX9_removePlot_17 rfl (x_bn (in_ok hp (by omega) hpp)) ?_
  refine f_aload_n (M := mX9_removePlot) 25 dX9_removePlot_24 rfl rfl ?_
  refine e_getR (M := mX9_removePlot) dX9_removePlot_25 fl_9007 (x_kk rfl) (x_kk rfl) rfl (wf_9_0 hR) ?_
  refine f_iconst (M := mX9_removePlot) 29 dX9_removePlot_28 ki_0 rfl ?_
  refine e_ild (M := mX9_removePlot) (w := 606) (j := 0) dX9_removePlot_29 (x_kk rfl) rfl kn_0 (by omega) (by omega) ?_
  refine e_if_eqF (M := mX9_removePlot) 37 dX9_removePlot_30 rfl h1 ?_
  refine f_iconst (M := mX9_removePlot) 34 dX9_removePlot_33 ki_2 rfl ?_
  refine f_goto (M := mX9_removePlot) 38 dX9_removePlot_34 rfl ?_
  refine e_putI (M := mX9_removePlot) dX9_removePlot_38 fl_9033 (x_kk rfl) (x_kk rfl) rfl (fun q9 => Bool.noConfusion q9) ?_
  refine f_aload_n (M := mX9_removePlot) 42 dX9_removePlot_41 rfl rfl ?_
  refine e_getI (M := mX9_removePlot) dX9_removePlot_42 fl_9033 (x_kk rfl) (x_kk rfl) rfl ?_
  refine e_if_leF (M := mX9_removePlot) 50 dX9_removePlot_45 rfl (show ¬ ((2 : Int32) ≤ 0) by decide) ?_
  refine f_iconst (M := mX9_removePlot) 49 dX9_removePlot_48 ki_0 rfl ?_
  refine e_ri (M := mX9_removePlot) dX9_removePlot_49 rfl (x_kk rfl) (x_kk rfl) ?_
  rfl
theorem kf_estimate_0 {N β : Nat} {a : Nat → Int32} {b : Nat → Int64} (H : y_CS N I L R β a b) {Ns Np Nl Nm : Nat} (Z : y_Z a Ns Np Nl Nm) {v : Int32} {d : Int32} (h0 : ¬ (v = -1 ∨ (0 ≤ v ∧ v ≤ a 8 - 1))) : x_Cv X mX8_estimate [.ref 0, .int v, .int d] (I, L, R) 233 (.inr 2, (I, L, R), 233) := by
  obtain ⟨hNs, hn, hNp, hp, hNl, hl, hNm, hmm⟩ := Z
  have hR := h_R H
  have hβ := h_β H
  have hS := h_S H
  show x_Ev X mX8_estimate 0 [some (.ref 0), some (.int v), some (.int d), none, none] [] ((I, L, R), 233, 0, 0) _
  refine f_aload_n (M := mX8_estimate) 1 dX8_estimate_0 rfl rfl ?_
  refine f_iload_n (M := mX8_estimate) 2 dX8_estimate_1 rfl rfl ?_
  refine e_cV (M := mX8_estimate) [_] 0 0 dX8_estimate_2 pa_8109 pb_8109 cc_8109 rfl rfl rfl rfl rfl (x_kk rfl) (x_kk rfl) rfl (k_isAny H) rfl ?_
  exact e_cSX (M := mX8_estimate) 1 6 dX8_estimate_5 pa_8103 cc_8103 rfl rfl rfl rfl rfl (x_kk rfl) (x_kk rfl) rfl (c_X8_requireExisting_x (x_b0 h0)) rfl
theorem kf_estimate_1 {N β : Nat} {a : Nat → Int32} {b : Nat → Int64} (H : y_CS N I L R β a b) {Ns Np Nl Nm : Nat} (Z : y_Z a Ns Np Nl Nm) {v : Int32} {d : Int32} (h0 : v = -1 ∨ (0 ≤ v ∧ v ≤ a 8 - 1)) (h1 : ¬ (¬ a 9 = 0)) : x_Cv X mX8_estimate [.ref 0, .int v, .int d] (I, L, R) 233 (.inr 0, (I, L, R), 233) := by
  obtain ⟨hNs, hn, hNp, hp, hNl, hl, hNm, hmm⟩ := Z
  have hR := h_R H
  have hβ := h_β H
  have hS := h_S H
  show x_Ev X mX8_estimate 0 [some (.ref 0), some (.int v), some (.int d), none, none] [] ((I, L, R), 233, 0, 0) _
  refine f_aload_n (M := mX8_estimate) 1 dX8_estimate_0 rfl rfl ?_
  refine f_iload_n (M := mX8_estimate) 2 dX8_estimate_1 rfl rfl ?_
  refine e_cV (M := mX8_estimate) [_] 0 0 dX8_estimate_2 pa_8109 pb_8109 cc_8109 rfl rfl rfl rfl rfl (x_kk rfl) (x_kk rfl) rfl (k_isAny H) rfl ?_
  refine e_cS (M := mX8_estimate) [] 1 6 dX8_estimate_5 pa_8103 cc_8103 rfl rfl rfl rfl rfl (x_kk rfl) (x_kk rfl) rfl (c_X8_requireExisting (x_bn h0)) rfl ?_
  refine f_aload_n (M := mX8_estimate) 9 dX8_estimate_8 rfl rfl ?_
  refine e_getR (M := mX8_estimate) dX8_estimate_9 fl_8026 (x_kk rfl) (x_kk rfl) rfl hS ?_
  refine e_getR (M := mX8_estimate) dX8_estimate_12 fl_8070 (x_kk rfl) (sl_lt hβ 0 rfl) (sl_s hβ 0 rfl rfl) (wf_6_2 hR hβ) ?_
  refine e_getI (M := mX8_estimate) dX8_estimate_15 fl_8074 (x_kk rfl) (sl_lt hβ 5 rfl) (sl_s hβ 5 rfl rfl) ?_
  refine f_iconst (M := mX8_estimate) 19 dX8_estimate_18 ki_1 rfl ?_
  refine e_icmp_ltT (M := mX8_estimate) 26 dX8_estimate_19 rfl (i_nle.mp (by rw [(h_C H).1]; exact fun z => h1 ((np1 hNp hp).mp z))) ?_
  refine f_iconst (M := mX8_estimate) 27 dX8_estimate_26 ki_0 rfl ?_
  exact e_cSX (M := mX8_estimate) 2 12 dX8_estimate_27 pa_8037 cc_8037 rfl rfl rfl rfl rfl (x_kk rfl) (x_kk rfl) rfl (c_X8_requireState_x rfl) rfl
theorem mf_estimate_0 (hR : x_wf R) {Ns Np Nl Nm : Nat} (Z : y_Z (I 226) Ns Np Nl Nm) {v : Int32} {d : Int32} (h0 : ¬ (v = -1 ∨ (0 ≤ v ∧ v ≤ I 226 8 - 1))) : x_Cv X mX9_estimate [.ref 225, .int v, .int d] (I, L, R) 233 (.inl (some (.long (0))), (x_tw I 1, L, R), 233) := by
  obtain ⟨hNs, hn, hNp, hp, hNl, hl, hNm, hmm⟩ := Z
  show x_Ev X mX9_estimate 0 [some (.ref 225), some (.int v), some (.int d)] [] ((I, L, R), 233, 0, 0) _
  refine f_aload_n (M := mX9_estimate) 1 dX9_estimate_0 rfl rfl ?_
  refine f_aload_n (M := mX9_estimate) 2 dX9_estimate_1 rfl rfl ?_
  refine f_iload_n (M := mX9_estimate) 3 dX9_estimate_2 rfl rfl ?_
  refine e_cV (M := mX9_estimate) [_, _] 0 0 dX9_estimate_3 pa_9151 pb_9151 cc_9151 rfl rfl rfl rfl rfl (x_kk rfl) (x_kk rfl) rfl (c_X9_isAny hR) rfl ?_
  refine e_if_neF (M := mX9_estimate) 13 dX9_estimate_6 rfl (x_bnn h0) ?_
  refine f_iconst (M := mX9_estimate) 10 dX9_estimate_9 ki_1 rfl ?_
  refine f_goto (M := mX9_estimate) 28 dX9_estimate_10 rfl ?_
  refine e_putI (M := mX9_estimate) dX9_estimate_28 fl_9033 (x_kk rfl) (x_kk rfl) rfl (fun q9 => Bool.noConfusion q9) ?_
  refine f_aload_n (M := mX9_estimate) 32 dX9_estimate_31 rfl rfl ?_
  refine e_getI (M := mX9_estimate) dX9_estimate_32 fl_9033 (x_kk rfl) (x_kk rfl) rfl ?_
  refine e_if_leF (M := mX9_estimate) 42 dX9_estimate_35 rfl (show ¬ ((1 : Int32) ≤ 0) by decide) ?_
  refine f_lconst (M := mX9_estimate) 39 dX9_estimate_38 kl_0 rfl ?_
  refine f_goto (M := mX9_estimate) 67 dX9_estimate_39 rfl ?_
  refine e_rl (M := mX9_estimate) dX9_estimate_67 rfl (x_kk rfl) (x_kk rfl) ?_
  rfl
theorem mf_estimate_1 (hR : x_wf R) {Ns Np Nl Nm : Nat} (Z : y_Z (I 226) Ns Np Nl Nm) {v : Int32} {d : Int32} (h0 : v = -1 ∨ (0 ≤ v ∧ v ≤ I 226 8 - 1)) (h1 : ¬ (¬ I 226 9 = 0)) : x_Cv X mX9_estimate [.ref 225, .int v, .int d] (I, L, R) 233 (.inl (some (.long (0))), (x_tw I 2, L, R), 233) := by
  obtain ⟨hNs, hn, hNp, hp, hNl, hl, hNm, hmm⟩ := Z
  show x_Ev X mX9_estimate 0 [some (.ref 225), some (.int v), some (.int d)] [] ((I, L, R), 233, 0, 0) _
  refine f_aload_n (M := mX9_estimate) 1 dX9_estimate_0 rfl rfl ?_
  refine f_aload_n (M := mX9_estimate) 2 dX9_estimate_1 rfl rfl ?_
  refine f_iload_n (M := mX9_estimate) 3 dX9_estimate_2 rfl rfl ?_
  refine e_cV (M := mX9_estimate) [_, _] 0 0 dX9_estimate_3 pa_9151 pb_9151 cc_9151 rfl rfl rfl rfl rfl (x_kk rfl) (x_kk rfl) rfl (c_X9_isAny hR) rfl ?_
  refine e_if_neT (M := mX9_estimate) 13 dX9_estimate_6 rfl (x_bn h0) ?_
  refine f_aload_n (M := mX9_estimate) 14 dX9_estimate_13 rfl rfl ?_
  refine e_getR (M := mX9_estimate) dX9_estimate_14 fl_9007 (x_kk rfl) (x_kk rfl) rfl (wf_9_0 hR) ?_
  refine f_bipush (M := mX9_estimate) 19 dX9_estimate_17 kb_9 rfl ?_
  refine e_ild (M := mX9_estimate) (w := 606) (j := 9) dX9_estimate_19 (x_kk rfl) rfl kn_9 (by omega) (by omega) ?_
  refine e_if_neF (M := mX9_estimate) 27 dX9_estimate_20 rfl h1 ?_
  refine f_iconst (M := mX9_estimate) 24 dX9_estimate_23 ki_2 rfl ?_
  refine f_goto (M := mX9_estimate) 28 dX9_estimate_24 rfl ?_
  refine e_putI (M := mX9_estimate) dX9_estimate_28 fl_9033 (x_kk rfl) (x_kk rfl) rfl (fun q9 => Bool.noConfusion q9) ?_
  refine f_aload_n (M := mX9_estimate) 32 dX9_estimate_31 rfl rfl ?_
  refine e_getI (M := mX9_estimate) dX9_estimate_32 fl_9033 (x_kk rfl) (x_kk rfl) rfl ?_
  refine e_if_leF (M := mX9_estimate) 42 dX9_estimate_35 rfl (show ¬ ((2 : Int32) ≤ 0) by decide) ?_
  refine f_lconst (M := mX9_estimate) 39 dX9_estimate_38 kl_0 rfl ?_
  refine f_goto (M := mX9_estimate) 67 dX9_estimate_39 rfl ?_
  refine e_rl (M := mX9_estimate) dX9_estimate_67 rfl (x_kk rfl) (x_kk rfl) ?_
  rfl
theorem kf_squaredError_0 {N β : Nat} {a : Nat → Int32} {b : Nat → Int64} (H : y_CS N I L R β a b) {Ns Np Nl Nm : Nat} (Z : y_Z a Ns Np Nl Nm) {v : Int32} {d : Int32} (h0 : ¬ (v = -1 ∨ (0 ≤ v ∧ v ≤ a 8 - 1))) : x_Cv X mX8_squaredError [.ref 0, .int v, .int d] (I, L, R) 233 (.inr 2, (I, L, R), 233) := by
  obtain ⟨hNs, hn, hNp, hp, hNl, hl, hNm, hmm⟩ := Z
  have hR := h_R H
  have hβ := h_β H
  have hS := h_S H
  show x_Ev X mX8_squaredError 0 [some (.ref 0), some (.int v), some (.int d), none, none, none, none, none, none] [] ((I, L, R), 233, 0, 0) _
  refine f_aload_n (M := mX8_squaredError) 1 dX8_squaredError_0 rfl rfl ?_
  refine f_iload_n (M := mX8_squaredError) 2 dX8_squaredError_1 rfl rfl ?_
  refine e_cV (M := mX8_squaredError) [_] 0 0 dX8_squaredError_2 pa_8109 pb_8109 cc_8109 rfl rfl rfl rfl rfl (x_kk rfl) (x_kk rfl) rfl (k_isAny H) rfl ?_
  exact e_cSX (M := mX8_squaredError) 1 6 dX8_squaredError_5 pa_8103 cc_8103 rfl rfl rfl rfl rfl (x_kk rfl) (x_kk rfl) rfl (c_X8_requireExisting_x (x_b0 h0)) rfl
theorem kf_squaredError_1 {N β : Nat} {a : Nat → Int32} {b : Nat → Int64} (H : y_CS N I L R β a b) {Ns Np Nl Nm : Nat} (Z : y_Z a Ns Np Nl Nm) {v : Int32} {d : Int32} (h0 : v = -1 ∨ (0 ≤ v ∧ v ≤ a 8 - 1)) (h1 : ¬ (2 ≤ a 9)) : x_Cv X mX8_squaredError [.ref 0, .int v, .int d] (I, L, R) 233 (.inr 0, (I, L, R), 233) := by
  obtain ⟨hNs, hn, hNp, hp, hNl, hl, hNm, hmm⟩ := Z
  have hR := h_R H
  have hβ := h_β H
  have hS := h_S H
  show x_Ev X mX8_squaredError 0 [some (.ref 0), some (.int v), some (.int d), none, none, none, none, none, none] [] ((I, L, R), 233, 0, 0) _
  refine f_aload_n (M := mX8_squaredError) 1 dX8_squaredError_0 rfl rfl ?_
  refine f_iload_n (M := mX8_squaredError) 2 dX8_squaredError_1 rfl rfl ?_
  refine e_cV (M := mX8_squaredError) [_] 0 0 dX8_squaredError_2 pa_8109 pb_8109 cc_8109 rfl rfl rfl rfl rfl (x_kk rfl) (x_kk rfl) rfl (k_isAny H) rfl ?_
  refine e_cS (M := mX8_squaredError) [] 1 6 dX8_squaredError_5 pa_8103 cc_8103 rfl rfl rfl rfl rfl (x_kk rfl) (x_kk rfl) rfl (c_X8_requireExisting (x_bn h0)) rfl ?_
  refine f_aload_n (M := mX8_squaredError) 9 dX8_squaredError_8 rfl rfl ?_
  refine e_getR (M := mX8_squaredError) dX8_squaredError_9 fl_8026 (x_kk rfl) (x_kk rfl) rfl hS ?_
  refine e_getR (M := mX8_squaredError) dX8_squaredError_12 fl_8070 (x_kk rfl) (sl_lt hβ 0 rfl) (sl_s hβ 0 rfl rfl) (wf_6_2 hR hβ) ?_
  refine e_getI (M := mX8_squaredError) dX8_squaredError_15 fl_8074 (x_kk rfl) (sl_lt hβ 5 rfl) (sl_s hβ 5 rfl rfl) ?_
  refine f_iconst (M := mX8_squaredError) 19 dX8_squaredError_18 ki_2 rfl ?_
  refine e_icmp_ltT (M := mX8_squaredError) 26 dX8_squaredError_19 rfl (i_nle.mp (by rw [(h_C H).1]; exact h1)) ?_
  refine f_iconst (M := mX8_squaredError) 27 dX8_squaredError_26 ki_0 rfl ?_
  exact e_cSX (M := mX8_squaredError) 2 12 dX8_squaredError_27 pa_8037 cc_8037 rfl rfl rfl rfl rfl (x_kk rfl) (x_kk rfl) rfl (c_X8_requireState_x rfl) rfl
theorem mf_squaredError_0 (hR : x_wf R) {Ns Np Nl Nm : Nat} (Z : y_Z (I 226) Ns Np Nl Nm) {v : Int32} {d : Int32} (h0 : ¬ (v = -1 ∨ (0 ≤ v ∧ v ≤ I 226 8 - 1))) : x_Cv X mX9_squaredError [.ref 225, .int v, .int d] (I, L, R) 233 (.inl (some (.long (0))), (x_tw I 1, L, R), 233) := by
  obtain ⟨hNs, hn, hNp, hp, hNl, hl, hNm, hmm⟩ := Z
  show x_Ev X mX9_squaredError 0 [some (.ref 225), some (.int v), some (.int d), none, none] [] ((I, L, R), 233, 0, 0) _
  refine f_aload_n (M := mX9_squaredError) 1 dX9_squaredError_0 rfl rfl ?_
  refine f_aload_n (M := mX9_squaredError) 2 dX9_squaredError_1 rfl rfl ?_
  refine f_iload_n (M := mX9_squaredError) 3 dX9_squaredError_2 rfl rfl ?_
  refine e_cV (M := mX9_squaredError) [_, _] 0 0 dX9_squaredError_3 pa_9151 pb_9151 cc_9151 rfl rfl rfl rfl rfl (x_kk rfl) (x_kk rfl) rfl (c_X9_isAny hR) rfl ?_
  refine e_if_neF (M := mX9_squaredError) 13 dX9_squaredError_6 rfl (x_bnn h0) ?_
  refine f_iconst (M := mX9_squaredError) 10 dX9_squaredError_9 ki_1 rfl ?_
  refine f_goto (M := mX9_squaredError) 29 dX9_squaredError_10 rfl ?_
  refine e_putI (M := mX9_squaredError) dX9_squaredError_29 fl_9033 (x_kk rfl) (x_kk rfl) rfl (fun q9 => Bool.noConfusion q9) ?_
  refine f_aload_n (M := mX9_squaredError) 33 dX9_squaredError_32 rfl rfl ?_
  refine e_getI (M := mX9_squaredError) dX9_squaredError_33 fl_9033 (x_kk rfl) (x_kk rfl) rfl ?_
  refine e_if_leF (M := mX9_squaredError) 41 dX9_squaredError_36 rfl (show ¬ ((1 : Int32) ≤ 0) by decide) ?_
  refine f_lconst (M := mX9_squaredError) 40 dX9_squaredError_39 kl_0 rfl ?_
  refine e_rl (M := mX9_squaredError) dX9_squaredError_40 rfl (x_kk rfl) (x_kk rfl) ?_
  rfl
theorem mf_squaredError_1 (hR : x_wf R) {Ns Np Nl Nm : Nat} (Z : y_Z (I 226) Ns Np Nl Nm) {v : Int32} {d : Int32} (h0 : v = -1 ∨ (0 ≤ v ∧ v ≤ I 226 8 - 1)) (h1 : ¬ (2 ≤ I 226 9)) : x_Cv X mX9_squaredError [.ref 225, .int v, .int d] (I, L, R) 233 (.inl (some (.long (0))), (x_tw I 2, L, R), 233) := by
  obtain ⟨hNs, hn, hNp, hp, hNl, hl, hNm, hmm⟩ := Z
  show x_Ev X mX9_squaredError 0 [some (.ref 225), some (.int v), some (.int d), none, none] [] ((I, L, R), 233, 0, 0) _
  refine f_aload_n (M := mX9_squaredError) 1 dX9_squaredError_0 rfl rfl ?_
  refine f_aload_n (M := mX9_squaredError) 2 dX9_squaredError_1 rfl rfl ?_
  refine f_iload_n (M := mX9_squaredError) 3 dX9_squaredError_2 rfl rfl ?_
  refine e_cV (M := mX9_squaredError) [_, _] 0 0 dX9_squaredError_3 pa_9151 pb_9151 cc_9151 rfl rfl rfl rfl rfl (x_kk rfl) (x_kk rfl) rfl (c_X9_isAny hR) rfl ?_
  refine e_if_neT (M := mX9_squaredError) 13 dX9_squaredError_6 rfl (x_bn h0) ?_
  refine f_aload_n (M := mX9_squaredError) 14 dX9_squaredError_13 rfl rfl ?_
  refine e_getR (M := mX9_squaredError) dX9_squaredError_14 fl_9007 (x_kk rfl) (x_kk rfl) rfl (wf_9_0 hR) ?_
  refine f_bipush (M := mX9_squaredError) 19 dX9_squaredError_17 kb_9 rfl ?_
  refine e_ild (M := mX9_squaredError) (w := 606) (j := 9) dX9_squaredError_19 (x_kk rfl) rfl kn_9 (by omega) (by omega) ?_
  refine f_iconst (M := mX9_squaredError) 21 dX9_squaredError_20 ki_2 rfl ?_
  refine e_icmp_geF (M := mX9_squaredError) 28 dX9_squaredError_21 rfl h1 ?_
  refine f_iconst (M := mX9_squaredError) 25 dX9_squaredError_24 ki_2 rfl ?_
  refine f_goto (M := mX9_squaredError) 29 dX9_squaredError_25 rfl ?_
  refine e_putI (M := mX9_squaredError) dX9_squaredError_29 fl_9033 (x_kk rfl) (x_kk rfl) rfl (fun q9 => Bool.noConfusion q9) ?_
  refine f_aload_n (M := mX9_squaredError) 33 dX9_squaredError_32 rfl rfl ?_
  refine e_getI (M := mX9_squaredError) dX9_squaredError_33 fl_9033 (x_kk rfl) (x_kk rfl) rfl ?_
  refine e_if_leF (M := mX9_squaredError) 41 dX9_squaredError_36 rfl (show ¬ ((2 : Int32) ≤ 0) by decide) ?_
  refine f_lconst (M := mX9_squaredError) 40 dX9_squaredError_39 kl_0 rfl ?_
  refine e_rl (M := mX9_squaredError) dX9_squaredError_40 rfl (x_kk rfl) (x_kk rfl) ?_
  rfl
theorem kf_mostInfluentialPlot_0 {N β : Nat} {a : Nat → Int32} {b : Nat → Int64} (H : y_CS N I L R β a b) {Ns Np Nl Nm : Nat} (Z : y_Z a Ns Np Nl Nm) {v : Int32} (h0 : ¬ (v = -1 ∨ (0 ≤ v ∧ v ≤ a 8 - 1))) : x_Cv X mX8_mostInfluentialPlot [.ref 0, .int v] (I, L, R) 233 (.inr 2, (I, L, R), 233) := by
  obtain ⟨hNs, hn, hNp, hp, hNl, hl, hNm, hmm⟩ := Z
  have hR := h_R H
  have hβ := h_β H
  have hS := h_S H
  show x_Ev X mX8_mostInfluentialPlot 0 [some (.ref 0), some (.int v)] [] ((I, L, R), 233, 0, 0) _
  refine f_aload_n (M := mX8_mostInfluentialPlot) 1 dX8_mostInfluentialPlot_0 rfl rfl ?_
  refine f_iload_n (M := mX8_mostInfluentialPlot) 2 dX8_mostInfluentialPlot_1 rfl rfl ?_
  refine e_cV (M := mX8_mostInfluentialPlot) [_] 0 0 dX8_mostInfluentialPlot_2 pa_8109 pb_8109 cc_8109 rfl rfl rfl rfl rfl (x_kk rfl) (x_kk rfl) rfl (k_isAny H) rfl ?_
  exact e_cSX (M := mX8_mostInfluentialPlot) 1 6 dX8_mostInfluentialPlot_5 pa_8103 cc_8103 rfl rfl rfl rfl rfl (x_kk rfl) (x_kk rfl) rfl (c_X8_requireExisting_x (x_b0 h0)) rfl
theorem kf_mostInfluentialPlot_1 {N β : Nat} {a : Nat → Int32} {b : Nat → Int64} (H : y_CS N I L R β a b) {Ns Np Nl Nm : Nat} (Z : y_Z a Ns Np Nl Nm) {v : Int32} (h0 : v = -1 ∨ (0 ≤ v ∧ v ≤ a 8 - 1)) (h1 : ¬ (2 ≤ a 9)) : x_Cv X mX8_mostInfluentialPlot [.ref 0, .int v] (I, L, R) 233 (.inr 0, (I, L, R), 233) := by
  obtain ⟨hNs, hn, hNp, hp, hNl, hl, hNm, hmm⟩ := Z
  have hR := h_R H
  have hβ := h_β H
  have hS := h_S H
  show x_Ev X mX8_mostInfluentialPlot 0 [some (.ref 0), some (.int v)] [] ((I, L, R), 233, 0, 0) _
  refine f_aload_n (M := mX8_mostInfluentialPlot) 1 dX8_mostInfluentialPlot_0 rfl rfl ?_
  refine f_iload_n (M := mX8_mostInfluentialPlot) 2 dX8_mostInfluentialPlot_1 rfl rfl ?_
  refine e_cV (M := mX8_mostInfluentialPlot) [_] 0 0 dX8_mostInfluentialPlot_2 pa_8109 pb_8109 cc_8109 rfl rfl rfl rfl rfl (x_kk rfl) (x_kk rfl) rfl (k_isAny H) rfl ?_
  refine e_cS (M := mX8_mostInfluentialPlot) [] 1 6 dX8_mostInfluentialPlot_5 pa_8103 cc_8103 rfl rfl rfl rfl rfl (x_kk rfl) (x_kk rfl) rfl (c_X8_requireExisting (x_bn h0)) rfl ?_
  refine f_aload_n (M := mX8_mostInfluentialPlot) 9 dX8_mostInfluentialPlot_8 rfl rfl ?_
  refine e_getR (M := mX8_mostInfluentialPlot) dX8_mostInfluentialPlot_9 fl_8026 (x_kk rfl) (x_kk rfl) rfl hS ?_
  refine e_getR (M := mX8_mostInfluentialPlot) dX8_mostInfluentialPlot_12 fl_8070 (x_kk rfl) (sl_lt hβ 0 rfl) (sl_s hβ 0 rfl rfl) (wf_6_2 hR hβ) ?_
  refine e_getI (M := mX8_mostInfluentialPlot) dX8_mostInfluentialPlot_15 fl_8074 (x_kk rfl) (sl_lt hβ 5 rfl) (sl_s hβ 5 rfl rfl) ?_
  refine f_iconst (M := mX8_mostInfluentialPlot) 19 dX8_mostInfluentialPlot_18 ki_2 rfl ?_
  refine e_icmp_ltT (M := mX8_mostInfluentialPlot) 26 dX8_mostInfluentialPlot_19 rfl (i_nle.mp (by rw [(h_C H).1]; exact h1)) ?_
  refine f_iconst (M := mX8_mostInfluentialPlot) 27 dX8_mostInfluentialPlot_26 ki_0 rfl ?_
  exact e_cSX (M := mX8_mostInfluentialPlot) 2 12 dX8_mostInfluentialPlot_27 pa_8037 cc_8037 rfl rfl rfl rfl rfl (x_kk rfl) (x_kk rfl) rfl (c_X8_requireState_x rfl) rfl
theorem mf_mostInfluentialPlot_0 (hR : x_wf R) {Ns Np Nl Nm : Nat} (Z : y_Z (I 226) Ns Np Nl Nm) {v : Int32} (h0 : ¬ (v = -1 ∨ (0 ≤ v ∧ v ≤ I 226 8 - 1))) : x_Cv X mX9_mostInfluentialPlot [.ref 225, .int v] (I, L, R) 233 (.inl (some (.int (0))), (x_tw I 1, L, R), 233) := by
  obtain ⟨hNs, hn, hNp, hp, hNl, hl, hNm, hmm⟩ := Z
  show x_Ev X mX9_mostInfluentialPlot 0 [some (.ref 225), some (.int v), none, none, none, none, none, none] [] ((I, L, R), 233, 0, 0) _
  refine f_aload_n (M := mX9_mostInfluentialPlot) 1 dX9_mostInfluentialPlot_0 rfl rfl ?_
  refine f_aload_n (M := mX9_mostInfluentialPlot) 2 dX9_mostInfluentialPlot_1 rfl rfl ?_
  refine f_iload_n (M := mX9_mostInfluentialPlot) 3 dX9_mostInfluentialPlot_2 rfl rfl ?_
  refine e_cV (M := mX9_mostInfluentialPlot) [_, _] 0 0 dX9_mostInfluentialPlot_3 pa_9151 pb_9151 cc_9151 rfl rfl rfl rfl rfl (x_kk rfl) (x_kk rfl) rfl (c_X9_isAny hR) rfl ?_
  refine e_if_neF (M := mX9_mostInfluentialPlot) 13 dX9_mostInfluentialPlot_6 rfl (x_bnn h0) ?_
  refine f_iconst (M := mX9_mostInfluentialPlot) 10 dX9_mostInfluentialPlot_9 ki_1 rfl ?_
  refine f_goto (M := mX9_mostInfluentialPlot) 29 dX9_mostInfluentialPlot_10 rfl ?_
  refine e_putI (M := mX9_mostInfluentialPlot) dX9_mostInfluentialPlot_29 fl_9033 (x_kk rfl) (x_kk rfl) rfl (fun q9 => Bool.noConfusion q9) ?_
  refine f_aload_n (M := mX9_mostInfluentialPlot) 33 dX9_mostInfluentialPlot_32 rfl rfl ?_
  refine e_getI (M := mX9_mostInfluentialPlot) dX9_mostInfluentialPlot_33 fl_9033 (x_kk rfl) (x_kk rfl) rfl ?_
  refine e_if_leF (M := mX9_mostInfluentialPlot) 41 dX9_mostInfluentialPlot_36 rfl (show ¬ ((1 : Int32) ≤ 0) by decide) ?_
  refine f_iconst (M := mX9_mostInfluentialPlot) 40 dX9_mostInfluentialPlot_39 ki_0 rfl ?_
  refine e_ri (M := mX9_mostInfluentialPlot) dX9_mostInfluentialPlot_40 rfl (x_kk rfl) (x_kk rfl) ?_
  rfl
theorem mf_mostInfluentialPlot_1 (hR : x_wf R) {Ns Np Nl Nm : Nat} (Z : y_Z (I 226) Ns Np Nl Nm) {v : Int32} (h0 : v = -1 ∨ (0 ≤ v ∧ v ≤ I 226 8 - 1)) (h1 : ¬ (2 ≤ I 226 9)) : x_Cv X mX9_mostInfluentialPlot [.ref 225, .int v] (I, L, R) 233 (.inl (some (.int (0))), (x_tw I 2, L, R), 233) := by
  obtain ⟨hNs, hn, hNp, hp, hNl, hl, hNm, hmm⟩ := Z
  show x_Ev X mX9_mostInfluentialPlot 0 [some (.ref 225), some (.int v), none, none, none, none, none, none] [] ((I, L, R), 233, 0, 0) _
  refine f_aload_n (M := mX9_mostInfluentialPlot) 1 dX9_mostInfluentialPlot_0 rfl rfl ?_
  refine f_aload_n (M := mX9_mostInfluentialPlot) 2 dX9_mostInfluentialPlot_1 rfl rfl ?_
  refine f_iload_n (M := mX9_mostInfluentialPlot) 3 dX9_mostInfluentialPlot_2 rfl rfl ?_
  refine e_cV (M := mX9_mostInfluentialPlot) [_, _] 0 0 dX9_mostInfluentialPlot_3 pa_9151 pb_9151 cc_9151 rfl rfl rfl rfl rfl (x_kk rfl) (x_kk rfl) rfl (c_X9_isAny hR) rfl ?_
  refine e_if_neT (M := mX9_mostInfluentialPlot) 13 dX9_mostInfluentialPlot_6 rfl (x_bn h0) ?_
  refine f_aload_n (M := mX9_mostInfluentialPlot) 14 dX9_mostInfluentialPlot_13 rfl rfl ?_
  refine e_getR (M := mX9_mostInfluentialPlot) dX9_mostInfluentialPlot_14 fl_9007 (x_kk rfl) (x_kk rfl) rfl (wf_9_0 hR) ?_
  refine f_bipush (M := mX9_mostInfluentialPlot) 19 dX9_mostInfluentialPlot_17 kb_9 rfl ?_
  refine e_ild (M := mX9_mostInfluentialPlot) (w := 606) (j := 9) dX9_mostInfluentialPlot_19 (x_kk rfl) rfl kn_9 (by omega) (by omega) ?_
  refine f_iconst (M := mX9_mostInfluentialPlot) 21 dX9_mostInfluentialPlot_20 ki_2 rfl ?_
  refine e_icmp_geF (M := mX9_mostInfluentialPlot) 28 dX9_mostInfluentialPlot_21 rfl h1 ?_
  refine f_iconst (M := mX9_mostInfluentialPlot) 25 dX9_mostInfluentialPlot_24 ki_2 rfl ?_
  refine f_goto (M := mX9_mostInfluentialPlot) 29 dX9_mostInfluentialPlot_25 rfl ?_
  refine e_putI (M := mX9_mostInfluentialPlot) dX9_mostInfluentialPlot_29 fl_9033 (x_kk rfl) (x_kk rfl) rfl (fun q9 => Bool.noConfusion q9) ?_
  refine f_aload_n (M := mX9_mostInfluentialPlot) 33 dX9_mostInfluentialPlot_32 rfl rfl ?_
  refine e_getI (M := mX9_mostInfluentialPlot) dX9_mostInfluentialPlot_33 fl_9033 (x_kk rfl) (x_kk rfl) rfl ?_
  refine e_if_leF (M := mX9_mostInfluentialPlot) 41 dX9_mostInfluentialPlot_36 rfl (show ¬ ((2 : Int32) ≤ 0) by decide) ?_
  refine f_iconst (M := mX9_mostInfluentialPlot) 40 dX9_mostInfluentialPlot_39 ki_0 rfl ?_
  refine e_ri (M := mX9_mostInfluentialPlot) dX9_mostInfluentialPlot_40 rfl (x_kk rfl) (x_kk rfl) ?_
  rfl
theorem kf_volume_0 {N β : Nat} {a : Nat → Int32} {b : Nat → Int64} (H : y_CS N I L R β a b) {Ns Np Nl Nm : Nat} (Z : y_Z a Ns Np Nl Nm) {v : Int32} (h0 : ¬ (0 ≤ v ∧ v ≤ a 8 - 1)) : x_Cv X mX8_volume [.ref 0, .int v] (I, L, R) 233 (.inr 2, (I, L, R), 233) := by
  obtain ⟨hNs, hn, hNp, hp, hNl, hl, hNm, hmm⟩ := Z
  have hR := h_R H
  have hβ := h_β H
  have hS := h_S H
  show x_Ev X mX8_volume 0 [some (.ref 0), some (.int v)] [] ((I, L, R), 233, 0, 0) _
  refine f_aload_n (M := mX8_volume) 1 dX8_volume_0 rfl rfl ?_
  refine f_iload_n (M := mX8_volume) 2 dX8_volume_1 rfl rfl ?_
  refine e_cV (M := mX8_volume) [_] 0 0 dX8_volume_2 pa_8161 pb_8161 cc_8161 rfl rfl rfl rfl rfl (x_kk rfl) (x_kk rfl) rfl (k_isSpecies H) rfl ?_
  exact e_cSX (M := mX8_volume) 1 6 dX8_volume_5 pa_8103 cc_8103 rfl rfl rfl rfl rfl (x_kk rfl) (x_kk rfl) rfl (c_X8_requireExisting_x (x_b0 h0)) rfl
theorem kf_volume_1 {N β : Nat} {a : Nat → Int32} {b : Nat → Int64} (H : y_CS N I L R β a b) {Ns Np Nl Nm : Nat} (Z : y_Z a Ns Np Nl Nm) {s : Nat} (hs : s < Ns) (h1 : ¬ (¬ a 0 = 0)) : x_Cv X mX8_volume [.ref 0, .int (Int32.ofNat s)] (I, L, R) 233 (.inr 0, (I, L, R), 233) := by
  obtain ⟨hNs, hn, hNp, hp, hNl, hl, hNm, hmm⟩ := Z
  have hR := h_R H
  have hβ := h_β H
  have hS := h_S H
  show x_Ev X mX8_volume 0 [some (.ref 0), some (.int (Int32.ofNat s))] [] ((I, L, R), 233, 0, 0) _
  refine f_aload_n (M := mX8_volume) 1 dX8_volume_0 rfl rfl ?_
  refine f_iload_n (M := mX8_volume) 2 dX8_volume_1 rfl rfl ?_
  refine e_cV (M := mX8_volume) [_] 0 0 dX8_volume_2 pa_8161 pb_8161 cc_8161 rfl rfl rfl rfl rfl (x_kk rfl) (x_kk rfl) rfl (k_isSpecies H) rfl ?_
  refine e_cS (M := mX8_volume) [] 1 6 dX8_volume_5 pa_8103 cc_8103 rfl rfl rfl rfl rfl (x_kk rfl) (x_kk rfl) rfl (c_X8_requireExisting (x_bn (in_ok hn (by omega) hs))) rfl ?_
  refine f_aload_n (M := mX8_volume) 9 dX8_volume_8 rfl rfl ?_
  refine e_getR (M := mX8_volume) dX8_volume_9 fl_8026 (x_kk rfl) (x_kk rfl) rfl hS ?_
  refine e_getI (M := mX8_volume) dX8_volume_12 fl_8067 (x_kk rfl) (sl_lt hβ 0 rfl) (sl_s hβ 0 rfl rfl) ?_
  refine e_if_eqT (M := mX8_volume) 22 dX8_volume_15 rfl ((h_ph H).trans (x_dn h1)) ?_
  refine f_iconst (M := mX8_volume) 23 dX8_volume_22 ki_0 rfl ?_
  exact e_cSX (M := mX8_volume) 2 12 dX8_volume_23 pa_8037 cc_8037 rfl rfl rfl rfl rfl (x_kk rfl) (x_kk rfl) rfl (c_X8_requireState_x rfl) rfl
theorem mf_volume_0 (hR : x_wf R) {Ns Np Nl Nm : Nat} (Z : y_Z (I 226) Ns Np Nl Nm) {v : Int32} (h0 : ¬ (0 ≤ v ∧ v ≤ I 226 8 - 1)) : x_Cv X mX9_volume [.ref 225, .int v] (I, L, R) 233 (.inl (some (.int (0))), (x_tw I 1, L, R), 233) := by
  obtain ⟨hNs, hn, hNp, hp, hNl, hl, hNm, hmm⟩ := Z
  show x_Ev X mX9_volume 0 [some (.ref 225), some (.int v)] [] ((I, L, R), 233, 0, 0) _
  refine f_aload_n (M := mX9_volume) 1 dX9_volume_0 rfl rfl ?_
  refine f_aload_n (M := mX9_volume) 2 dX9_volume_1 rfl rfl ?_
  refine f_iload_n (M := mX9_volume) 3 dX9_volume_2 rfl rfl ?_
  refine e_cV (M := mX9_volume) [_, _] 0 0 dX9_volume_3 pa_9137 pb_9137 cc_9137 rfl rfl rfl rfl rfl (x_kk rfl) (x_kk rfl) rfl (c_X9_isSpecies hR) rfl ?_
  refine e_if_neF (M := mX9_volume) 13 dX9_volume_6 rfl (x_bnn h0) ?_
  refine f_iconst (M := mX9_volume) 10 dX9_volume_9 ki_1 rfl ?_
  refine f_goto (M := mX9_volume) 27 dX9_volume_10 rfl ?_
  refine e_putI (M := mX9_volume) dX9_volume_27 fl_9033 (x_kk rfl) (x_kk rfl) rfl (fun q9 => Bool.noConfusion q9) ?_
  refine f_aload_n (M := mX9_volume) 31 dX9_volume_30 rfl rfl ?_
  refine e_getI (M := mX9_volume) dX9_volume_31 fl_9033 (x_kk rfl) (x_kk rfl) rfl ?_
  refine e_if_leF (M := mX9_volume) 41 dX9_volume_34 rfl (show ¬ ((1 : Int32) ≤ 0) by decide) ?_
  refine f_iconst (M := mX9_volume) 38 dX9_volume_37 ki_0 rfl ?_
  refine f_goto (M := mX9_volume) 46 dX9_volume_38 rfl ?_
  refine e_ri (M := mX9_volume) dX9_volume_46 rfl (x_kk rfl) (x_kk rfl) ?_
  rfl
theorem mf_volume_1 (hR : x_wf R) {Ns Np Nl Nm : Nat} (Z : y_Z (I 226) Ns Np Nl Nm) {s : Nat} (hs : s < Ns) (h1 : ¬ (¬ I 226 0 = 0)) : x_Cv X mX9_volume [.ref 225, .int (Int32.ofNat s)] (I, L, R) 233 (.inl (some (.int (0))), (x_tw I 2, L, R), 233) := by
  obtain ⟨hNs, hn, hNp, hp, hNl, hl, hNm, hmm⟩ := Z
  show x_Ev X mX9_volume 0 [some (.ref 225), some (.int (Int32.ofNat s))] [] ((I, L, R), 233, 0, 0) _
  refine f_aload_n (M := mX9_volume) 1 dX9_volume_0 rfl rfl ?_
  refine f_aload_n (M := mX9_volume) 2 dX9_volume_1 rfl rfl ?_
  refine f_iload_n (M := mX9_volume) 3 dX9_volume_2 rfl rfl ?_
  refine e_cV (M := mX9_volume) [_, _] 0 0 dX9_volume_3 pa_9137 pb_9137 cc_9137 rfl rfl rfl rfl rfl (x_kk rfl) (x_kk rfl) rfl (c_X9_isSpecies hR) rfl ?_
  refine e_if_neT (M := mX9_volume) 13 dX9_volume_6 rfl (x_bn (in_ok hn (by omega) hs)) ?_
  refine f_aload_n (M := mX9_volume) 14 dX9_volume_13 rfl rfl ?_
  refine e_getR (M := mX9_volume) dX9_volume_14 fl_9007 (x_kk rfl) (x_kk rfl) rfl (wf_9_0 hR) ?_
  refine f_iconst (M := mX9_volume) 18 dX9_volume_17 ki_0 rfl ?_
  refine e_ild (M := mX9_volume) (w := 606) (j := 0) dX9_volume_18 (x_kk rfl) rfl kn_0 (by omega) (by omega) ?_
  refine e_if_neF (M := mX9_volume) 26 dX9_volume_19 rfl h1 ?_
  refine f_iconst (M := mX9_volume) 23 dX9_volume_22 ki_2 rfl ?_
  refine f_goto (M := mX9_volume) 27 dX9_volume_23 rfl ?_
  refine e_putI (M := mX9_volume) dX9_volume_27 fl_9033 (x_kk rfl) (x_kk rfl) rfl (fun q9 => Bool.noConfusion q9) ?_
  refine f_aload_n (M := mX9_volume) 31 dX9_volume_30 rfl rfl ?_
  refine e_getI (M := mX9_volume) dX9_volume_31 fl_9033 (x_kk rfl) (x_kk rfl) rfl ?_
  refine e_if_leF (M := mX9_volume) 41 dX9_volume_34 rfl (show ¬ ((2 : Int32) ≤ 0) by decide) ?_
  refine f_iconst (M := mX9_volume) 38 dX9_volume_37 ki_0 rfl ?_
  refine f_goto (M := mX9_volume) 46 dX9_volume_38 rfl ?_
  refine e_ri (M := mX9_volume) dX9_volume_46 rfl (x_kk rfl) (x_kk rfl) ?_
  rfl
theorem kf_offer_0 {N β : Nat} {a : Nat → Int32} {b : Nat → Int64} (H : y_CS N I L R β a b) {Ns Np Nl Nm : Nat} (Z : y_Z a Ns Np Nl Nm) {u : Int32} {v : Int32} {w : Int32} (h0 : ¬ (0 ≤ u ∧ u ≤ 7)) : x_Cv X mX8_offer [.ref 0, .int u, .int v, .int w] (I, L, R) 233 (.inr 2, (I, L, R), 233) := by
  obtain ⟨hNs, hn, hNp, hp, hNl, hl, hNm, hmm⟩ := Z
  have hR := h_R H
  have hβ := h_β H
  have hS := h_S H
  show x_Ev X mX8_offer 0 [some (.ref 0), some (.int u), some (.int v), some (.int w), none] [] ((I, L, R), 233, 0, 0) _
  refine f_iload_n (M := mX8_offer) 1 dX8_offer_0 rfl rfl ?_
  refine e_cS (M := mX8_offer) [_] 0 0 dX8_offer_1 pa_8164 cc_8164 rfl rfl rfl rfl rfl (x_kk rfl) (x_kk rfl) rfl (c_X8_isBidder) rfl ?_
  refine e_if_eqT (M := mX8_offer) 19 dX8_offer_4 rfl (x_b0 h0) ?_
  refine f_iconst (M := mX8_offer) 20 dX8_offer_19 ki_0 rfl ?_
  exact e_cSX (M := mX8_offer) 1 6 dX8_offer_20 pa_8103 cc_8103 rfl rfl rfl rfl rfl (x_kk rfl) (x_kk rfl) rfl (c_X8_requireExisting_x rfl) rfl
theorem kf_offer_1 {N β : Nat} {a : Nat → Int32} {b : Nat → Int64} (H : y_CS N I L R β a b) {Ns Np Nl Nm : Nat} (Z : y_Z a Ns Np Nl Nm) {v : Int32} {w : Int32} {q : Nat} (hq : q < 8) (h1 : ¬ (0 ≤ v ∧ v ≤ a 8 - 1)) : x_Cv X mX8_offer [.ref 0, .int (Int32.ofNat q), .int v, .int w] (I, L, R) 233 (.inr 2, (I, L, R), 233) := by
  obtain ⟨hNs, hn, hNp, hp, hNl, hl, hNm, hmm⟩ := Z
  have hR := h_R H
  have hβ := h_β H
  have hS := h_S H
  show x_Ev X mX8_offer 0 [some (.ref 0), some (.int (Int32.ofNat q)), some (.int v), some (.int w), none] [] ((I, L, R), 233, 0, 0) _
  refine f_iload_n (M := mX8_offer) 1 dX8_offer_0 rfl rfl ?_
  refine e_cS (M := mX8_offer) [_] 0 0 dX8_offer_1 pa_8164 cc_8164 rfl rfl rfl rfl rfl (x_kk rfl) (x_kk rfl) rfl (c_X8_isBidder) rfl ?_
  refine e_if_eqF (M := mX8_offer) 19 dX8_offer_4 rfl (x_bn (ib_ok kn_7 (by omega) (by omega))) ?_
  refine f_aload_n (M := mX8_offer) 8 dX8_offer_7 rfl rfl ?_
  refine f_iload_n (M := mX8_offer) 9 dX8_offer_8 rfl rfl ?_
  refine e_cV (M := mX8_offer) [_] 0 0 dX8_offer_9 pa_8161 pb_8161 cc_8161 rfl rfl rfl rfl rfl (x_kk rfl) (x_kk rfl) rfl (k_isSpecies H) rfl ?_
  refine e_if_eqT (M := mX8_offer) 19 dX8_offer_12 rfl (x_b0 h1) ?_
  refine f_iconst (M := mX8_offer) 20 dX8_offer_19 ki_0 rfl ?_
  exact e_cSX (M := mX8_offer) 1 6 dX8_offer_20 pa_8103 cc_8103 rfl rfl rfl rfl rfl (x_kk rfl) (x_kk rfl) rfl (c_X8_requireExisting_x rfl) rfl
theorem kf_offer_2 {N β : Nat} {a : Nat → Int32} {b : Nat → Int64} (H : y_CS N I L R β a b) {Ns Np Nl Nm : Nat} (Z : y_Z a Ns Np Nl Nm) {w : Int32} {q : Nat} (hq : q < 8) {s : Nat} (hs : s < Ns) (h2 : ¬ (0 ≤ w ∧ w ≤ 1000000)) : x_Cv X mX8_offer [.ref 0, .int (Int32.ofNat q), .int (Int32.ofNat s), .int w] (I, L, R) 233 (.inr 1, (I, L, R), 233) := by
  obtain ⟨hNs, hn, hNp, hp, hNl, hl, hNm, hmm⟩ := Z
  have hR := h_R H
  have hβ := h_β H
  have hS := h_S H
  show x_Ev X mX8_offer 0 [some (.ref 0), some (.int (Int32.ofNat q)), some (.int (Int32.ofNat s)), some (.int w), none] [] ((I, L, R), 233, 0, 0) _
  refine f_iload_n (M := mX8_offer) 1 dX8_offer_0 rfl rfl ?_
  refine e_cS (M := mX8_offer) [_] 0 0 dX8_offer_1 pa_8164 cc_8164 rfl rfl rfl rfl rfl (x_kk rfl) (x_kk rfl) rfl (c_X8_isBidder) rfl ?_
  refine e_if_eqF (M := mX8_offer) 19 dX8_offer_4 rfl (x_bn (ib_ok kn_7 (by omega) (by omega))) ?_
  refine f_aload_n (M := mX8_offer) 8 dX8_offer_7 rfl rfl ?_
  refine f_iload_n (M := mX8_offer) 9 dX8_offer_8 rfl rfl ?_
  refine e_cV (M := mX8_offer) [_] 0 0 dX8_offer_9 pa_8161 pb_8161 cc_8161 rfl rfl rfl rfl rfl (x_kk rfl) (x_kk rfl) rfl (k_isSpecies H) rfl ?_
  refine e_if_eqF (M := mX8_offer) 19 dX8_offer_12 rfl (x_bn (in_ok hn (by omega) hs)) ?_
  refine f_iconst (M := mX8_offer) 16 dX8_offer_15 ki_1 rfl ?_
  refine f_goto (M := mX8_offer) 20 dX8_offer_16 rfl ?_
  refine e_cS (M := mX8_offer) [] 1 6 dX8_offer_20 pa_8103 cc_8103 rfl rfl rfl rfl rfl (x_kk rfl) (x_kk rfl) rfl (c_X8_requireExisting (by decide)) rfl ?_
  refine f_iload_n (M := mX8_offer) 24 dX8_offer_23 rfl rfl ?_
  refine f_iconst (M := mX8_offer) 25 dX8_offer_24 ki_0 rfl ?_
  refine f_ldcI (M := mX8_offer) 27 dX8_offer_25 (x_kk rfl) cst_8167 rfl ?_
  refine e_cS (M := mX8_offer) [_] 1 6 dX8_offer_27 pa_8049 cc_8049 rfl rfl rfl rfl rfl (x_kk rfl) (x_kk rfl) rfl (c_X8_isIn (lo := 0) (hi := 1000000)) rfl ?_
  exact e_cSX (M := mX8_offer) 2 12 dX8_offer_30 pa_8053 cc_8053 rfl rfl rfl rfl rfl (x_kk rfl) (x_kk rfl) rfl (c_X8_requireArgument_x (x_b0 h2)) rfl
theorem kf_offer_3 {N β : Nat} {a : Nat → Int32} {b : Nat → Int64} (H : y_CS N I L R β a b) {Ns Np Nl Nm : Nat} (Z : y_Z a Ns Np Nl Nm) {w : Int32} {q : Nat} (hq : q < 8) {s : Nat} (hs : s < Ns) (h2 : 0 ≤ w ∧ w ≤ 1000000) (h3 : ¬ (a 0 = 1 ∨ a 0 = 6)) : x_Cv X mX8_offer [.ref 0, .int (Int32.ofNat q), .int (Int32.ofNat s), .int w] (I, L, R) 233 (.inr 0, (I, L, R), 233) := by
  obtain ⟨hNs, hn, hNp, hp, hNl, hl, hNm, hmm⟩ := Z
  have hR := h_R H
  have hβ := h_β H
  have hS := h_S H
  show x_Ev X mX8_offer 0 [some (.ref 0), some (.int (Int32.ofNat q)), some (.int (Int32.ofNat s)), some (.int w), none] [] ((I, L, R), 233, 0, 0) _
  refine f_iload_n (M := mX8_offer) 1 dX8_offer_0 rfl rfl ?_
  refine e_cS (M := mX8_offer) [_] 0 0 dX8_offer_1 pa_8164 cc_8164 rfl rfl rfl rfl rfl (x_kk rfl) (x_kk rfl) rfl (c_X8_isBidder) rfl ?_
  refine e_if_eqF (M := mX8_offer) 19 dX8_offer_4 rfl (x_bn (ib_ok kn_7 (by omega) (by omega))) ?_
  refine f_aload_n (M := mX8_offer) 8 dX8_offer_7 rfl rfl ?_
  refine f_iload_n (M := mX8_offer) 9 dX8_offer_8 rfl rfl ?_
  refine e_cV (M := mX8_offer) [_] 0 0 dX8_offer_9 pa_8161 pb_8161 cc_8161 rfl rfl rfl rfl rfl (x_kk rfl) (x_kk rfl) rfl (k_isSpecies H) rfl ?_
  refine e_if_eqF (M := mX8_offer) 19 dX8_offer_12 rfl (x_bn (in_ok hn (by omega) hs)) ?_
  refine f_iconst (M := mX8_offer) 16 dX8_offer_15 ki_1 rfl ?_
  refine f_goto (M := mX8_offer) 20 dX8_offer_16 rfl ?_
  refine e_cS (M := mX8_offer) [] 1 6 dX8_offer_20 pa_8103 cc_8103 rfl rfl rfl rfl rfl (x_kk rfl) (x_kk rfl) rfl (c_X8_requireExisting (by decide)) rfl ?_
  refine f_iload_n (M := mX8_offer) 24 dX8_offer_23 rfl rfl ?_
  refine f_iconst (M := mX8_offer) 25 dX8_offer_24 ki_0 rfl ?_
  refine f_ldcI (M := mX8_offer) 27 dX8_offer_25 (x_kk rfl) cst_8167 rfl ?_
  refine e_cS (M := mX8_offer) [_] 1 6 dX8_offer_27 pa_8049 cc_8049 rfl rfl rfl rfl rfl (x_kk rfl) (x_kk rfl) rfl (c_X8_isIn (lo := 0) (hi := 1000000)) rfl ?_
  refine e_cS (M := mX8_offer) [] 2 12 dX8_offer_30 pa_8053 cc_8053 rfl rfl rfl rfl rfl (x_kk rfl) (x_kk rfl) rfl (c_X8_requireArgument (x_bn h2)) rfl ?_
  refine f_aload_n (M := mX8_offer) 34 dX8_offer_33 rfl rfl ?_
  refine e_getR (M := mX8_offer) dX8_offer_34 fl_8026 (x_kk rfl) (x_kk rfl) rfl hS ?_
  refine e_cV (M := mX8_offer) [_] 2 12 dX8_offer_37 pa_8168 pb_8168 cc_8168 rfl rfl rfl rfl rfl (x_kk rfl) (x_kk rfl) (x_rcvOK (sl_lt hβ 0 rfl) (sl_s hβ 0 rfl rfl) rfl) (k_isBidding H) rfl ?_
  refine e_if_eqT (M := mX8_offer) 61 dX8_offer_40 rfl (x_b0 h3) ?_
  refine f_iconst (M := mX8_offer) 62 dX8_offer_61 ki_0 rfl ?_
  exact e_cSX (M := mX8_offer) 3 18 dX8_offer_62 pa_8037 cc_8037 rfl rfl rfl rfl rfl (x_kk rfl) (x_kk rfl) rfl (c_X8_requireState_x rfl) rfl
theorem kf_offer_4 {N β : Nat} {a : Nat → Int32} {b : Nat → Int64} (H : y_CS N I L R β a b) {Ns Np Nl Nm : Nat} (Z : y_Z a Ns Np Nl Nm) {w : Int32} {q : Nat} (hq : q < 8) {s : Nat} (hs : s < Ns) (h2 : 0 ≤ w ∧ w ≤ 1000000) (h3 : a 0 = 1 ∨ a 0 = 6) (h4 : ¬ (¬ 0 < a (224 + 8 * q + 7))) : x_Cv X mX8_offer [.ref 0, .int (Int32.ofNat q), .int (Int32.ofNat s), .int w] (I, L, R) 233 (.inr 0, (I, L, R), 233) := by
  obtain ⟨hNs, hn, hNp, hp, hNl, hl, hNm, hmm⟩ := Z
  have hR := h_R H
  have hβ := h_β H
  have hS := h_S H
  show x_Ev X mX8_offer 0 [some (.ref 0), some (.int (Int32.ofNat q)), some (.int (Int32.ofNat s)), some (.int w), none] [] ((I, L, R), 233, 0, 0) _
  refine f_iload_n (M := mX8_offer) 1 dX8_offer_0 rfl rfl ?_
  refine e_cS (M := mX8_offer) [_] 0 0 dX8_offer_1 pa_8164 cc_8164 rfl rfl rfl rfl rfl (x_kk rfl) (x_kk rfl) rfl (c_X8_isBidder) rfl ?_
  refine e_if_eqF (M := mX8_offer) 19 dX8_offer_4 rfl (x_bn (ib_ok kn_7 (by omega) (by omega))) ?_
  refine f_aload_n (M := mX8_offer) 8 dX8_offer_7 rfl rfl ?_
  refine f_iload_n (M := mX8_offer) 9 dX8_offer_8 rfl rfl ?_
  refine e_cV (M := mX8_offer) [_] 0 0 dX8_offer_9 pa_8161 pb_8161 cc_8161 rfl rfl rfl rfl rfl (x_kk rfl) (x_kk rfl) rfl (k_isSpecies H) rfl ?_
  refine e_if_eqF (M := mX8_offer) 19 dX8_offer_12 rfl (x_bn (in_ok hn (by omega) hs)) ?_
  refine f_iconst (M := mX8_offer) 16 dX8_offer_15 ki_1 rfl ?_
  refine f_goto (M := mX8_offer) 20 dX8_offer_16 rfl ?_
  refine e_cS (M := mX8_offer) [] 1 6 dX8_offer_20 pa_8103 cc_8103 rfl rfl rfl rfl rfl (x_kk rfl) (x_kk rfl) rfl (c_X8_requireExisting (by decide)) rfl ?_
  refine f_iload_n (M := mX8_offer) 24 dX8_offer_23 rfl rfl ?_
  refine f_iconst (M := mX8_offer) 25 dX8_offer_24 ki_0 rfl ?_
  refine f_ldcI (M := mX8_offer) 27 dX8_offer_25 (x_kk rfl) cst_8167 rfl ?_
  refine e_cS (M := mX8_offer) [_] 1 6 dX8_offer_27 pa_8049 cc_8049 rfl rfl rfl rfl rfl (x_kk rfl) (x_kk rfl) rfl (c_X8_isIn (lo := 0) (hi := 1000000)) rfl ?_
  refine e_cS (M := mX8_offer) [] 2 12 dX8_offer_30 pa_8053 cc_8053 rfl rfl rfl rfl rfl (x_kk rfl) (x_kk rfl) rfl (c_X8_requireArgument (x_bn h2)) rfl ?_
  refine f_aload_n (M := mX8_offer) 34 dX8_offer_33 rfl rfl ?_
  refine e_getR (M := mX8_offer) dX8_offer_34 fl_8026 (x_kk rfl) (x_kk rfl) rfl hS ?_
  refine e_cV (M := mX8_offer) [_] 2 12 dX8_offer_37 pa_8168 pb_8168 cc_8168 rfl rfl rfl rfl rfl (x_kk rfl) (x_kk rfl) (x_rcvOK (sl_lt hβ 0 rfl) (sl_s hβ 0 rfl rfl) rfl) (k_isBidding H) rfl ?_
  refine e_if_eqF (M := mX8_offer) 61 dX8_offer_40 rfl (x_bn h3) ?_
  refine f_aload_n (M := mX8_offer) 44 dX8_offer_43 rfl rfl ?_
  refine e_getR (M := mX8_offer) dX8_offer_44 fl_8026 (x_kk rfl) (x_kk rfl) rfl hS ?_
  refine e_getR (M := mX8_offer) dX8_offer_47 fl_8148 (x_kk rfl) (sl_lt hβ 0 rfl) (sl_s hβ 0 rfl rfl) (wf_6_3 hR hβ) ?_
  refine f_iload_n (M := mX8_offer) 51 dX8_offer_50 rfl rfl ?_
  refine e_cV (M := mX8_offer) [_] 2 12 dX8_offer_51 pa_8171 pb_8171 cc_8171 rfl rfl rfl rfl rfl (x_kk rfl) (x_kk rfl) (x_rcvOK (sl_lt hβ 7 rfl) (sl_s hβ 7 rfl rfl) rfl) (k_isSealed H hq) rfl ?_
  refine e_if_neT (M := mX8_offer) 61 dX8_offer_54 rfl (x_bn (x_dn h4)) ?_
  refine f_iconst (M := mX8_offer) 62 dX8_offer_61 ki_0 rfl ?_
  exact e_cSX (M := mX8_offer) 3 18 dX8_offer_62 pa_8037 cc_8037 rfl rfl rfl rfl rfl (x_kk rfl) (x_kk rfl) rfl (c_X8_requireState_x rfl) rfl
theorem mf_offer_0 (hR : x_wf R) {Ns Np Nl Nm : Nat} (Z : y_Z (I 226) Ns Np Nl Nm) {u : Int32} {v : Int32} {w : Int32} (h0 : ¬ (0 ≤ u ∧ u ≤ 7)) : x_Cv X mX9_offer [.ref 225, .int u, .int v, .int w] (I, L, R) 233 (.inl (some (.int (0))), (x_tw I 1, L, R), 233) := by
  obtain ⟨hNs, hn, hNp, hp, hNl, hl, hNm, hmm⟩ := Z
  show x_Ev X mX9_offer 0 [some (.ref 225), some (.int u), some (.int v), some (.int w)] [] ((I, L, R), 233, 0, 0) _
  refine f_aload_n (M := mX9_offer) 1 dX9_offer_0 rfl rfl ?_
  refine f_iload_n (M := mX9_offer) 2 dX9_offer_1 rfl rfl ?_
  refine e_cS (M := mX9_offer) [_, _] 0 0 dX9_offer_2 pa_9185 cc_9185 rfl rfl rfl rfl rfl (x_kk rfl) (x_kk rfl) rfl (c_X9_isBidder) rfl ?_
  refine e_if_eqT (M := mX9_offer) 16 dX9_offer_5 rfl (x_b0 h0) ?_
  refine f_iconst (M := mX9_offer) 17 dX9_offer_16 ki_1 rfl ?_
  refine f_goto (M := mX9_offer) 56 dX9_offer_17 rfl ?_
  refine e_putI (M := mX9_offer) dX9_offer_56 fl_9033 (x_kk rfl) (x_kk rfl) rfl (fun q9 => Bool.noConfusion q9) ?_
  refine f_aload_n (M := mX9_offer) 60 dX9_offer_59 rfl rfl ?_
  refine e_getI (M := mX9_offer) dX9_offer_60 fl_9033 (x_kk rfl) (x_kk rfl) rfl ?_
  refine e_if_leF (M := mX9_offer) 70 dX9_offer_63 rfl (show ¬ ((1 : Int32) ≤ 0) by decide) ?_
  refine f_iconst (M := mX9_offer) 67 dX9_offer_66 ki_0 rfl ?_
  refine f_goto (M := mX9_offer) 77 dX9_offer_67 rfl ?_
  refine e_ri (M := mX9_offer) dX9_offer_77 rfl (x_kk rfl) (x_kk rfl) ?_
  rfl
theorem mf_offer_1 (hR : x_wf R) {Ns Np Nl Nm : Nat} (Z : y_Z (I 226) Ns Np Nl Nm) {v : Int32} {w : Int32} {q : Nat} (hq : q < 8) (h1 : ¬ (0 ≤ v ∧ v ≤ I 226 8 - 1)) : x_Cv X mX9_offer [.ref 225, .int (Int32.ofNat q), .int v, .int w] (I, L, R) 233 (.inl (some (.int (0))), (x_tw I 1, L, R), 233) := by
  obtain ⟨hNs, hn, hNp, hp, hNl, hl, hNm, hmm⟩ := Z
  show x_Ev X mX9_offer 0 [some (.ref 225), some (.int (Int32.ofNat q)), some (.int v), some (.int w)] [] ((I, L, R), 233, 0, 0) _
  refine f_aload_n (M := mX9_offer) 1 dX9_offer_0 rfl rfl ?_
  refine f_iload_n (M := mX9_offer) 2 dX9_offer_1 rfl rfl ?_
  refine e_cS (M := mX9_offer) [_, _] 0 0 dX9_offer_2 pa_9185 cc_9185 rfl rfl rfl rfl rfl (x_kk rfl) (x_kk rfl) rfl (c_X9_isBidder) rfl ?_
  refine e_if_eqF (M := mX9_offer) 16 dX9_offer_5 rfl (x_bn (ib_ok kn_7 (by omega) (by omega))) ?_
  refine f_aload_n (M := mX9_offer) 9 dX9_offer_8 rfl rfl ?_
  refine f_iload_n (M := mX9_offer) 10 dX9_offer_9 rfl rfl ?_
  refine e_cV (M := mX9_offer) [_, _] 0 0 dX9_offer_10 pa_9137 pb_9137 cc_9137 rfl rfl rfl rfl rfl (x_kk rfl) (x_kk rfl) rfl (c_X9_isSpecies hR) rfl ?_
  refine e_if_neF (M := mX9_offer) 20 dX9_offer_13 rfl (x_bnn h1) ?_
  refine f_iconst (M := mX9_offer) 17 dX9_offer_16 ki_1 rfl ?_
  refine f_goto (M := mX9_offer) 56 dX9_offer_17 rfl ?_
  refine e_putI (M := mX9_offer) dX9_offer_56 fl_9033 (x_kk rfl) (x_kk rfl) rfl (fun q9 => Bool.noConfusion q9) ?_
  refine f_aload_n (M := mX9_offer) 60 dX9_offer_59 rfl rfl ?_
  refine e_getI (M := mX9_offer) dX9_offer_60 fl_9033 (x_kk rfl) (x_kk rfl) rfl ?_
  refine e_if_leF (M := mX9_offer) 70 dX9_offer_63 rfl (show ¬ ((1 : Int32) ≤ 0) by decide) ?_
  refine f_iconst (M := mX9_offer) 67 dX9_offer_66 ki_0 rfl ?_
  refine f_goto (M := mX9_offer) 77 dX9_offer_67 rfl ?_
  refine e_ri (M := mX9_offer) dX9_offer_77 rfl (x_kk rfl) (x_kk rfl) ?_
  rfl
theorem mf_offer_2 (hR : x_wf R) {Ns Np Nl Nm : Nat} (Z : y_Z (I 226) Ns Np Nl Nm) {w : Int32} {q : Nat} (hq : q < 8) {s : Nat} (hs : s < Ns) (h2 : ¬ (0 ≤ w ∧ w ≤ 1000000)) : x_Cv X mX9_offer [.ref 225, .int (Int32.ofNat q), .int (Int32.ofNat s), .int w] (I, L, R) 233 (.inl (some (.int (0))), (x_tw I 2, L, R), 233) := by
  obtain ⟨hNs, hn, hNp, hp, hNl, hl, hNm, hmm⟩ := Z
  show x_Ev X mX9_offer 0 [some (.ref 225), some (.int (Int32.ofNat q)), some (.int (Int32.ofNat s)), some (.int w)] [] ((I, L, R), 233, 0, 0) _
  refine f_aload_n (M := mX9_offer) 1 dX9_offer_0 rfl rfl ?_
  refine f_iload_n (M := mX9_offer) 2 dX9_offer_1 rfl rfl ?_
  refine e_cS (M := mX9_offer) [_, _] 0 0 dX9_offer_2 pa_9185 cc_9185 rfl rfl rfl rfl rfl (x_kk rfl) (x_kk rfl) rfl (c_X9_isBidder) rfl ?_
  refine e_if_eqF (M := mX9_offer) 16 dX9_offer_5 rfl (x_bn (ib_ok kn_7 (by omega) (by omega))) ?_
  refine f_aload_n (M := mX9_offer) 9 dX9_offer_8 rfl rfl ?_
  refine f_iload_n (M := mX9_offer) 10 dX9_offer_9 rfl rfl ?_
  refine e_cV (M := mX9_offer) [_, _] 0 0 dX9_offer_10 pa_9137 pb_9137 cc_9137 rfl rfl rfl rfl rfl (x_kk rfl) (x_kk rfl) rfl (c_X9_isSpecies hR) rfl ?_
  refine e_if_neT (M := mX9_offer) 20 dX9_offer_13 rfl (x_bn (in_ok hn (by omega) hs)) ?_
  refine f_iload_n (M := mX9_offer) 21 dX9_offer_20 rfl rfl ?_
  refine f_i2l (M := mX9_offer) 22 dX9_offer_21 rfl ?_
  refine f_lconst (M := mX9_offer) 23 dX9_offer_22 kl_0 rfl ?_
  refine f_ldc2 (M := mX9_offer) 26 dX9_offer_23 (x_kk rfl) csl_9188 rfl ?_
  refine e_cS (M := mX9_offer) [_, _] 0 0 dX9_offer_26 pa_9074 cc_9074 rfl rfl rfl rfl rfl (x_kk rfl) (x_kk rfl) rfl (c_X9_isInI (lo := 0) (hi := 1000000)) rfl ?_
  refine e_if_neF (M := mX9_offer) 36 dX9_offer_29 rfl (x_bnn h2) ?_
  refine f_iconst (M := mX9_offer) 33 dX9_offer_32 ki_2 rfl ?_
  refine f_goto (M := mX9_offer) 56 dX9_offer_33 rfl ?_
  refine e_putI (M := mX9_offer) dX9_offer_56 fl_9033 (x_kk rfl) (x_kk rfl) rfl (fun q9 => Bool.noConfusion q9) ?_
  refine f_aload_n (M := mX9_offer) 60 dX9_offer_59 rfl rfl ?_
  refine e_getI (M := mX9_offer) dX9_offer_60 fl_9033 (x_kk rfl) (x_kk rfl) rfl ?_
  refine e_if_leF (M := mX9_offer) 70 dX9_offer_63 rfl (show ¬ ((2 : Int32) ≤ 0) by decide) ?_
  refine f_iconst (M := mX9_offer) 67 dX9_offer_66 ki_0 rfl ?_
  refine f_goto (M := mX9_offer) 77 dX9_offer_67 rfl ?_
  refine e_ri (M := mX9_offer) dX9_offer_77 rfl (x_kk rfl) (x_kk rfl) ?_
  rfl
theorem mf_offer_3 (hR : x_wf R) {Ns Np Nl Nm : Nat} (Z : y_Z (I 226) Ns Np Nl Nm) {w : Int32} {q : Nat} (hq : q < 8) {s : Nat} (hs : s < Ns) (h2 : 0 ≤ w ∧ w ≤ 1000000) (h3 : ¬ (I 226 0 = 1 ∨ I 226 0 = 6)) : x_Cv X mX9_offer [.ref 225, .int (Int32.ofNat q), .int (Int32.ofNat s), .int w] (I, L, R) 233 (.inl (some (.int (0))), (x_tw I 3, L, R), 233) := by
  obtain ⟨hNs, hn, hNp, hp, hNl, hl, hNm, hmm⟩ := Z
  show x_Ev X mX9_offer 0 [some (.ref 225), some (.int (Int32.ofNat q)), some (.int (Int32.ofNat s)), some (.int w)] [] ((I, L, R), 233, 0, 0) _
  refine f_aload_n (M := mX9_offer) 1 dX9_offer_0 rfl rfl ?_
  refine f_iload_n (M := mX9_offer) 2 dX9_offer_1 rfl rfl ?_
  refine e_cS (M := mX9_offer) [_, _] 0 0 dX9_offer_2 pa_9185 cc_9185 rfl rfl rfl rfl rfl (x_kk rfl) (x_kk rfl) rfl (c_X9_isBidder) rfl ?_
  refine e_if_eqF (M := mX9_offer) 16 dX9_offer_5 rfl (x_bn (ib_ok kn_7 (by omega) (by omega))) ?_
  refine f_aload_n (M := mX9_offer) 9 dX9_offer_8 rfl rfl ?_
  refine f_iload_n (M := mX9_offer) 10 dX9_offer_9 rfl rfl ?_
  refine e_cV (M := mX9_offer) [_, _] 0 0 dX9_offer_10 pa_9137 pb_9137 cc_9137 rfl rfl rfl rfl rfl (x_kk rfl) (x_kk rfl) rfl (c_X9_isSpecies hR) rfl ?_
  refine e_if_neT (M := mX9_offer) 20 dX9_offer_13 rfl (x_bn (in_ok hn (by omega) hs)) ?_
  refine f_iload_n (M := mX9_offer) 21 dX9_offer_20 rfl rfl ?_
  refine f_i2l (M := mX9_offer) 22 dX9_offer_21 rfl ?_
  refine f_lconst (M := mX9_offer) 23 dX9_offer_22 kl_0 rfl ?_
  refine f_ldc2 (M := mX9_offer) 26 dX9_offer_23 (x_kk rfl) csl_9188 rfl ?_
  refine e_cS (M := mX9_offer) [_, _] 0 0 dX9_offer_26 pa_9074 cc_9074 rfl rfl rfl rfl rfl (x_kk rfl) (x_kk rfl) rfl (c_X9_isInI (lo := 0) (hi := 1000000)) rfl ?_
  refine e_if_neT (M := mX9_offer) 36 dX9_offer_29 rfl (x_bn h2) ?_
  refine f_aload_n (M := mX9_offer) 37 dX9_offer_36 rfl rfl ?_
  refine e_cV (M := mX9_offer) [_, _] 0 0 dX9_offer_37 pa_9190 pb_9190 cc_9190 rfl rfl rfl rfl rfl (x_kk rfl) (x_kk rfl) rfl (c_X9_isBidding hR) rfl ?_
  refine e_if_eqT (M := mX9_offer) 51 dX9_offer_40 rfl (x_b0 h3) ?_
  refine f_iconst (M := mX9_offer) 52 dX9_offer_51 ki_3 rfl ?_
  refine f_goto (M := mX9_offer) 56 dX9_offer_52 rfl ?_
  refine e_putI (M := mX9_offer) dX9_offer_56 fl_9033 (x_kk rfl) (x_kk rfl) rfl (fun q9 => Bool.noConfusion q9) ?_
  refine f_aload_n (M := mX9_offer) 60 dX9_offer_59 rfl rfl ?_
  refine e_getI (M := mX9_offer) dX9_offer_60 fl_9033 (x_kk rfl) (x_kk rfl) rfl ?_
  refine e_if_leF (M := mX9_offer) 70 dX9_offer_63 rfl (show ¬ ((3 : Int32) ≤ 0) by decide) ?_
  refine f_iconst (M := mX9_offer) 67 dX9_offer_66 ki_0 rfl ?_
  refine f_goto (M := mX9_offer) 77 dX9_offer_67 rfl ?_
  refine e_ri (M := mX9_offer) dX9_offer_77 rfl (x_kk rfl) (x_kk rfl) ?_
  rfl
theorem mf_offer_4 (hR : x_wf R) {Ns Np Nl Nm : Nat} (Z : y_Z (I 226) Ns Np Nl Nm) {w : Int32} {q : Nat} (hq : q < 8) {s : Nat} (hs : s < Ns) (h2 : 0 ≤ w ∧ w ≤ 1000000) (h3 : I 226 0 = 1 ∨ I 226 0 = 6) (h4 : ¬ (¬ 0 < I 226 (224 + 8 * q + 7))) : x_Cv X mX9_offer [.ref 225, .int (Int32.ofNat q), .int (Int32.ofNat s), .int w] (I, L, R) 233 (.inl (some (.int (0))), (x_tw I 3, L, R), 233) := by
  obtain ⟨hNs, hn, hNp, hp, hNl, hl, hNm, hmm⟩ := Z
  show x_Ev X mX9_offer 0 [some (.ref 225), some (.int (Int32.ofNat q)), some (.int (Int32.ofNat s)), some (.int w)] [] ((I, L, R), 233, 0, 0) _
  refine f_aload_n (M := mX9_offer) 1 dX9_offer_0 rfl rfl ?_
  refine f_iload_n (M := mX9_offer) 2 dX9_offer_1 rfl rfl ?_
  refine e_cS (M := mX9_offer) [_, _] 0 0 dX9_offer_2 pa_9185 cc_9185 rfl rfl rfl rfl rfl (x_kk rfl) (x_kk rfl) rfl (c_X9_isBidder) rfl ?_
  refine e_if_eqF (M := mX9_offer) 16 dX9_offer_5 rfl (x_bn (ib_ok kn_7 (by omega) (by omega))) ?_
  refine f_aload_n (M := mX9_offer) 9 dX9_offer_8 rfl rfl ?_
  refine f_iload_n (M := mX9_offer) 10 dX9_offer_9 rfl rfl ?_
  refine e_cV (M := mX9_offer) [_, _] 0 0 dX9_offer_10 pa_9137 pb_9137 cc_9137 rfl rfl rfl rfl rfl (x_kk rfl) (x_kk rfl) rfl (c_X9_isSpecies hR) rfl ?_
  refine e_if_neT (M := mX9_offer) 20 dX9_offer_13 rfl (x_bn (in_ok hn (by omega) hs)) ?_
  refine f_iload_n (M := mX9_offer) 21 dX9_offer_20 rfl rfl ?_
  refine f_i2l (M := mX9_offer) 22 dX9_offer_21 rfl ?_
  refine f_lconst (M := mX9_offer) 23 dX9_offer_22 kl_0 rfl ?_
  refine f_ldc2 (M := mX9_offer) 26 dX9_offer_23 (x_kk rfl) csl_9188 rfl ?_
  refine e_cS (M := mX9_offer) [_, _] 0 0 dX9_offer_26 pa_9074 cc_9074 rfl rfl rfl rfl rfl (x_kk rfl) (x_kk rfl) rfl (c_X9_isInI (lo := 0) (hi := 1000000)) rfl ?_
  refine e_if_neT (M := mX9_offer) 36 dX9_offer_29 rfl (x_bn h2) ?_
  refine f_aload_n (M := mX9_offer) 37 dX9_offer_36 rfl rfl ?_
  refine e_cV (M := mX9_offer) [_, _] 0 0 dX9_offer_37 pa_9190 pb_9190 cc_9190 rfl rfl rfl rfl rfl (x_kk rfl) (x_kk rfl) rfl (c_X9_isBidding hR) rfl ?_
  refine e_if_eqF (M := mX9_offer) 51 dX9_offer_40 rfl (x_bn h3) ?_
  refine f_aload_n (M := mX9_offer) 44 dX9_offer_43 rfl rfl ?_
  refine f_iload_n (M := mX9_offer) 45 dX9_offer_44 rfl rfl ?_
  refine e_cV (M := mX9_offer) [_, _] 0 0 dX9_offer_45 pa_9193 pb_9193 cc_9193 rfl rfl rfl rfl rfl (x_kk rfl) (x_kk rfl) rfl (c_X9_isSealed hR hq) rfl ?_
  refine e_if_eqF (M := mX9_offer) 55 dX9_offer_48 rfl (x_bn (x_dn h4)) ?_
  refine f_iconst (M := mX9_offer) 52 dX9_offer_51 ki_3 rfl ?_
  refine f_goto (M := mX9_offer) 56 dX9_offer_52 rfl ?_
  refine e_putI (M := mX9_offer) dX9_offer_56 fl_9033 (x_kk rfl) (x_kk rfl) rfl (fun q9 => Bool.noConfusion q9) ?_
  refine f_aload_n (M := mX9_offer) 60 dX9_offer_59 rfl rfl ?_
  refine e_getI (M := mX9_offer) dX9_offer_60 fl_9033 (x_kk rfl) (x_kk rfl) rfl ?_
  refine e_if_leF (M := mX9_offer) 70 dX9_offer_63 rfl (show ¬ ((3 : Int32) ≤ 0) by decide) ?_
  refine f_iconst (M := mX9_offer) 67 dX9_offer_66 ki_0 rfl ?_
  refine f_goto (M := mX9_offer) 77 dX9_offer_67 rfl ?_
  refine e_ri (M := mX9_offer) dX9_offer_77 rfl (x_kk rfl) (x_kk rfl) ?_
  rfl
theorem kf_setDeposit_0 {N β : Nat} {a : Nat → Int32} {b : Nat → Int64} (H : y_CS N I L R β a b) {Ns Np Nl Nm : Nat} (Z : y_Z a Ns Np Nl Nm) {u : Int32} {w : Int32} (h0 : ¬ (0 ≤ u ∧ u ≤ 7)) : x_Cv X mX8_setDeposit [.ref 0, .int u, .int w] (I, L, R) 233 (.inr 2, (I, L, R), 233) := by
  obtain ⟨hNs, hn, hNp, hp, hNl, hl, hNm, hmm⟩ := Z
  have hR := h_R H
  have hβ := h_β H
  have hS := h_S H
  show x_Ev X mX8_setDeposit 0 [some (.ref 0), some (.int u), some (.int w), none] [] ((I, L, R), 233, 0, 0) _
  refine f_iload_n (M := mX8_setDeposit) 1 dX8_setDeposit_0 rfl rfl ?_
  refine e_cS (M := mX8_setDeposit) [_] 0 0 dX8_setDeposit_1 pa_8164 cc_8164 rfl rfl rfl rfl rfl (x_kk rfl) (x_kk rfl) rfl (c_X8_isBidder) rfl ?_
  exact e_cSX (M := mX8_setDeposit) 1 6 dX8_setDeposit_4 pa_8103 cc_8103 rfl rfl rfl rfl rfl (x_kk rfl) (x_kk rfl) rfl (c_X8_requireExisting_x (x_b0 h0)) rfl
theorem kf_setDeposit_1 {N β : Nat} {a : Nat → Int32} {b : Nat → Int64} (H : y_CS N I L R β a b) {Ns Np Nl Nm : Nat} (Z : y_Z a Ns Np Nl Nm) {w : Int32} {q : Nat} (hq : q < 8) (h1 : ¬ (0 ≤ w ∧ w ≤ 1000000000)) : x_Cv X mX8_setDeposit [.ref 0, .int (Int32.ofNat q), .int w] (I, L, R) 233 (.inr 1, (I, L, R), 233) := by
  obtain ⟨hNs, hn, hNp, hp, hNl, hl, hNm, hmm⟩ := Z
  have hR := h_R H
  have hβ := h_β H
  have hS := h_S H
  show x_Ev X mX8_setDeposit 0 [some (.ref 0), some (.int (Int32.ofNat q)), some (.int w), none] [] ((I, L, R), 233, 0, 0) _
  refine f_iload_n (M := mX8_setDeposit) 1 dX8_setDeposit_0 rfl rfl ?_
  refine e_cS (M := mX8_setDeposit) [_] 0 0 dX8_setDeposit_1 pa_8164 cc_8164 rfl rfl rfl rfl rfl (x_kk rfl) (x_kk rfl) rfl (c_X8_isBidder) rfl ?_
  refine e_cS (M := mX8_setDeposit) [] 1 6 dX8_setDeposit_4 pa_8103 cc_8103 rfl rfl rfl rfl rfl (x_kk rfl) (x_kk rfl) rfl (c_X8_requireExisting (x_bn (ib_ok kn_7 (by omega) (by omega)))) rfl ?_
  refine f_iload_n (M := mX8_setDeposit) 8 dX8_setDeposit_7 rfl rfl ?_
  refine f_iconst (M := mX8_setDeposit) 9 dX8_setDeposit_8 ki_0 rfl ?_
  refine f_ldcI (M := mX8_setDeposit) 11 dX8_setDeposit_9 (x_kk rfl) cst_8181 rfl ?_
  refine e_cS (M := mX8_setDeposit) [_] 1 6 dX8_setDeposit_11 pa_8049 cc_8049 rfl rfl rfl rfl rfl (x_kk rfl) (x_kk rfl) rfl (c_X8_isIn (lo := 0) (hi := 1000000000)) rfl ?_
  exact e_cSX (M := mX8_setDeposit) 2 12 dX8_setDeposit_14 pa_8053 cc_8053 rfl rfl rfl rfl rfl (x_kk rfl) (x_kk rfl) rfl (c_X8_requireArgument_x (x_b0 h1)) rfl
theorem kf_setDeposit_2 {N β : Nat} {a : Nat → Int32} {b : Nat → Int64} (H : y_CS N I L R β a b) {Ns Np Nl Nm : Nat} (Z : y_Z a Ns Np Nl Nm) {w : Int32} {q : Nat} (hq : q < 8) (h1 : 0 ≤ w ∧ w ≤ 1000000000) (h2 : ¬ (a 0 = 1 ∨ a 0 = 6)) : x_Cv X mX8_setDeposit [.ref 0, .int (Int32.ofNat q), .int w] (I, L, R) 233 (.inr 0, (I, L, R), 233) := by
  obtain ⟨hNs, hn, hNp, hp, hNl, hl, hNm, hmm⟩ := Z
  have hR := h_R H
  have hβ := h_β H
  have hS := h_S H
  show x_Ev X mX8_setDeposit 0 [some (.ref 0), some (.int (Int32.ofNat q)), some (.int w), none] [] ((I, L, R), 233, 0, 0) _
  refine f_iload_n (M := mX8_setDeposit) 1 dX8_setDeposit_0 rfl rfl ?_
  refine e_cS (M := mX8_setDeposit) [_] 0 0 dX8_setDeposit_1 pa_8164 cc_8164 rfl rfl rfl rfl rfl (x_kk rfl) (x_kk rfl) rfl (c_X8_isBidder) rfl ?_
  refine e_cS (M := mX8_setDeposit) [] 1 6 dX8_setDeposit_4 pa_8103 cc_8103 rfl rfl rfl rfl rfl (x_kk rfl) (x_kk rfl) rfl (c_X8_requireExisting (x_bn (ib_ok kn_7 (by omega) (by omega)))) rfl ?_
  refine f_iload_n (M := mX8_setDeposit) 8 dX8_setDeposit_7 rfl rfl ?_
  refine f_iconst (M := mX8_setDeposit) 9 dX8_setDeposit_8 ki_0 rfl ?_
  refine f_ldcI (M := mX8_setDeposit) 11 dX8_setDeposit_9 (x_kk rfl) cst_8181 rfl ?_
  refine e_cS (M := mX8_setDeposit) [_] 1 6 dX8_setDeposit_11 pa_8049 cc_8049 rfl rfl rfl rfl rfl (x_kk rfl) (x_kk rfl) rfl (c_X8_isIn (lo := 0) (hi := 1000000000)) rfl ?_
  refine e_cS (M := mX8_setDeposit) [] 2 12 dX8_setDeposit_14 pa_8053 cc_8053 rfl rfl rfl rfl rfl (x_kk rfl) (x_kk rfl) rfl (c_X8_requireArgument (x_bn h1)) rfl ?_
  refine f_aload_n (M := mX8_setDeposit) 18 dX8_setDeposit_17 rfl rfl ?_
  refine e_getR (M := mX8_setDeposit) dX8_setDeposit_18 fl_8026 (x_kk rfl) (x_kk rfl) rfl hS ?_
  refine e_cV (M := mX8_setDeposit) [_] 2 12 dX8_setDeposit_21 pa_8168 pb_8168 cc_8168 rfl rfl rfl rfl rfl (x_kk rfl) (x_kk rfl) (x_rcvOK (sl_lt hβ 0 rfl) (sl_s hβ 0 rfl rfl) rfl) (k_isBidding H) rfl ?_
  refine e_if_eqT (M := mX8_setDeposit) 45 dX8_setDeposit_24 rfl (x_b0 h2) ?_
  refine f_iconst (M := mX8_setDeposit) 46 dX8_setDeposit_45 ki_0 rfl ?_
  exact e_cSX (M := mX8_setDeposit) 3 18 dX8_setDeposit_46 pa_8037 cc_8037 rfl rfl rfl rfl rfl (x_kk rfl) (x_kk rfl) rfl (c_X8_requireState_x rfl) rfl
theorem kf_setDeposit_3 {N β : Nat} {a : Nat → Int32} {b : Nat → Int64} (H : y_CS N I L R β a b) {Ns Np Nl Nm : Nat} (Z : y_Z a Ns Np Nl Nm) {w : Int32} {q : Nat} (hq : q < 8) (h1 : 0 ≤ w ∧ w ≤ 1000000000) (h2 : a 0 = 1 ∨ a 0 = 6) (h3 : ¬ (¬ 0 < a (224 + 8 * q + 7))) : x_Cv X mX8_setDeposit [.ref 0, .int (Int32.ofNat q), .int w] (I, L, R) 233 (.inr 0, (I, L, R), 233) := by
  obtain ⟨hNs, hn, hNp, hp, hNl, hl, hNm, hmm⟩ := Z
  have hR := h_R H
  have hβ := h_β H
  have hS := h_S H
  show x_Ev X mX8_setDeposit 0 [some (.ref 0), some (.int (Int32.ofNat q)), some (.int w), none] [] ((I, L, R), 233, 0, 0) _
  refine f_iload_n (M := mX8_setDeposit) 1 dX8_setDeposit_0 rfl rfl ?_
  refine e_cS (M := mX8_setDeposit) [_] 0 0 dX8_setDeposit_1 pa_8164 cc_8164 rfl rfl rfl rfl rfl (x_kk rfl) (x_kk rfl) rfl (c_X8_isBidder) rfl ?_
  refine e_cS (M := mX8_setDeposit) [] 1 6 dX8_setDeposit_4 pa_8103 cc_8103 rfl rfl rfl rfl rfl (x_kk rfl) (x_kk rfl) rfl (c_X8_requireExisting (x_bn (ib_ok kn_7 (by omega) (by omega)))) rfl ?_
  refine f_iload_n (M := mX8_setDeposit) 8 dX8_setDeposit_7 rfl rfl ?_
  refine f_iconst (M := mX8_setDeposit) 9 dX8_setDeposit_8 ki_0 rfl ?_
  refine f_ldcI (M := mX8_setDeposit) 11 dX8_setDeposit_9 (x_kk rfl) cst_8181 rfl ?_
  refine e_cS (M := mX8_setDeposit) [_] 1 6 dX8_setDeposit_11 pa_8049 cc_8049 rfl rfl rfl rfl rfl (x_kk rfl) (x_kk rfl) rfl (c_X8_isIn (lo := 0) (hi := 1000000000)) rfl ?_
  refine e_cS (M := mX8_setDeposit) [] 2 12 dX8_setDeposit_14 pa_8053 cc_8053 rfl rfl rfl rfl rfl (x_kk rfl) (x_kk rfl) rfl (c_X8_requireArgument (x_bn h1)) rfl ?_
  refine f_aload_n (M := mX8_setDeposit) 18 dX8_setDeposit_17 rfl rfl ?_
  refine e_getR (M := mX8_setDeposit) dX8_setDeposit_18 fl_8026 (x_kk rfl) (x_kk rfl) rfl hS ?_
  refine e_cV (M := mX8_setDeposit) [_] 2 12 dX8_setDeposit_21 pa_8168 pb_8168 cc_8168 rfl rfl rfl rfl rfl (x_kk rfl) (x_kk rfl) (x_rcvOK (sl_lt hβ 0 rfl) (sl_s hβ 0 rfl rfl) rfl) (k_isBidding H) rfl ?_
  refine e_if_eqF (M := mX8_setDeposit) 45 dX8_setDeposit_24 rfl (x_bn h2) ?_
  refine f_aload_n (M := mX8_setDeposit) 28 dX8_setDeposit_27 rfl rfl ?_
  refine e_getR (M := mX8_setDeposit) dX8_setDeposit_28 fl_8026 (x_kk rfl) (x_kk rfl) rfl hS ?_
  refine e_getR (M := mX8_setDeposit) dX8_setDeposit_31 fl_8148 (x_kk rfl) (sl_lt hβ 0 rfl) (sl_s hβ 0 rfl rfl) (wf_6_3 hR hβ) ?_
  refine f_iload_n (M := mX8_setDeposit) 35 dX8_setDeposit_34 rfl rfl ?_
  refine e_cV (M := mX8_setDeposit) [_] 2 12 dX8_setDeposit_35 pa_8171 pb_8171 cc_8171 rfl rfl rfl rfl rfl (x_kk rfl) (x_kk rfl) (x_rcvOK (sl_lt hβ 7 rfl) (sl_s hβ 7 rfl rfl) rfl) (k_isSealed H hq) rfl ?_
  refine e_if_neT (M := mX8_setDeposit) 45 dX8_setDeposit_38 rfl (x_bn (x_dn h3)) ?_
  refine f_iconst (M := mX8_setDeposit) 46 dX8_setDeposit_45 ki_0 rfl ?_
  exact e_cSX (M := mX8_setDeposit) 3 18 dX8_setDeposit_46 pa_8037 cc_8037 rfl rfl rfl rfl rfl (x_kk rfl) (x_kk rfl) rfl (c_X8_requireState_x rfl) rfl
theorem mf_setDeposit_0 (hR : x_wf R) {Ns Np Nl Nm : Nat} (Z : y_Z (I 226) Ns Np Nl Nm) {u : Int32} {w : Int32} (h0 : ¬ (0 ≤ u ∧ u ≤ 7)) : x_Cv X mX9_setDeposit [.ref 225, .int u, .int w] (I, L, R) 233 (.inl (some (.int (0))), (x_tw I 1, L, R), 233) := by
  obtain ⟨hNs, hn, hNp, hp, hNl, hl, hNm, hmm⟩ := Z
  show x_Ev X mX9_setDeposit 0 [some (.ref 225), some (.int u), some (.int w)] [] ((I, L, R), 233, 0, 0) _
  refine f_aload_n (M := mX9_setDeposit) 1 dX9_setDeposit_0 rfl rfl ?_
  refine f_iload_n (M := mX9_setDeposit) 2 dX9_setDeposit_1 rfl rfl ?_
  refine e_cS (M := mX9_setDeposit) [_, _] 0 0 dX9_setDeposit_2 pa_9185 cc_9185 rfl rfl rfl rfl rfl (x_kk rfl) (x_kk rfl) rfl (c_X9_isBidder) rfl ?_
  refine e_if_neF (M := mX9_setDeposit) 12 dX9_setDeposit_5 rfl (x_bnn h0) ?_
  refine f_iconst (M := mX9_setDeposit) 9 dX9_setDeposit_8 ki_1 rfl ?_
  refine f_goto (M := mX9_setDeposit) 48 dX9_setDeposit_9 rfl ?_
  refine e_putI (M := mX9_setDeposit) dX9_setDeposit_48 fl_9033 (x_kk rfl) (x_kk rfl) rfl (fun q9 => Bool.noConfusion q9) ?_
  refine f_aload_n (M := mX9_setDeposit) 52 dX9_setDeposit_51 rfl rfl ?_
  refine e_getI (M := mX9_setDeposit) dX9_setDeposit_52 fl_9033 (x_kk rfl) (x_kk rfl) rfl ?_
  refine e_if_leF (M := mX9_setDeposit) 62 dX9_setDeposit_55 rfl (show ¬ ((1 : Int32) ≤ 0) by decide) ?_
  refine f_iconst (M := mX9_setDeposit) 59 dX9_setDeposit_58 ki_0 rfl ?_
  refine f_goto (M := mX9_setDeposit) 70 dX9_setDeposit_59 rfl ?_
  refine e_ri (M := mX9_setDeposit) dX9_setDeposit_70 rfl (x_kk rfl) (x_kk rfl) ?_
  rfl
theorem mf_setDeposit_1 (hR : x_wf R) {Ns Np Nl Nm : Nat} (Z : y_Z (I 226) Ns Np Nl Nm) {w : Int32} {q : Nat} (hq : q < 8) (h1 : ¬ (0 ≤ w ∧ w ≤ 1000000000)) : x_Cv X mX9_setDeposit [.ref 225, .int (Int32.ofNat q), .int w] (I, L, R) 233 (.inl (some (.int (0))), (x_tw I 2, L, R), 233) := by
  obtain ⟨hNs, hn, hNp, hp, hNl, hl, hNm, hmm⟩ := Z
  show x_Ev X mX9_setDeposit 0 [some (.ref 225), some (.int (Int32.ofNat q)), some (.int w)] [] ((I, L, R), 233, 0, 0) _
  refine f_aload_n (M := mX9_setDeposit) 1 dX9_setDeposit_0 rfl rfl ?_
  refine f_iload_n (M := mX9_setDeposit) 2 dX9_setDeposit_1 rfl rfl ?_
  refine e_cS (M := mX9_setDeposit) [_, _] 0 0 dX9_setDeposit_2 pa_9185 cc_9185 rfl rfl rfl rfl rfl (x_kk rfl) (x_kk rfl) rfl (c_X9_isBidder) rfl ?_
  refine e_if_neT (M := mX9_setDeposit) 12 dX9_setDeposit_5 rfl (x_bn (ib_ok kn_7 (by omega) (by omega))) ?_
  refine f_iload_n (M := mX9_setDeposit) 13 dX9_setDeposit_12 rfl rfl ?_
  refine f_i2l (M := mX9_setDeposit) 14 dX9_setDeposit_13 rfl ?_
  refine f_lconst (M := mX9_setDeposit) 15 dX9_setDeposit_14 kl_0 rfl ?_
  refine f_ldc2 (M := mX9_setDeposit) 18 dX9_setDeposit_15 (x_kk rfl) csl_9200 rfl ?_
  refine e_cS (M := mX9_setDeposit) [_, _] 0 0 dX9_setDeposit_18 pa_9074 cc_9074 rfl rfl rfl rfl rfl (x_kk rfl) (x_kk rfl) rfl (c_X9_isInI (lo := 0) (hi := 1000000000)) rfl ?_
  refine e_if_neF (M := mX9_setDeposit) 28 dX9_setDeposit_21 rfl (x_bnn h1) ?_
  refine f_iconst (M := mX9_setDeposit) 25 dX9_setDeposit_24 ki_2 rfl ?_
  refine f_goto (M := mX9_setDeposit) 48 dX9_setDeposit_25 rfl ?_
  refine e_putI (M := mX9_setDeposit) dX9_setDeposit_48 fl_9033 (x_kk rfl) (x_kk rfl) rfl (fun q9 => Bool.noConfusion q9) ?_
  refine f_aload_n (M := mX9_setDeposit) 52 dX9_setDeposit_51 rfl rfl ?_
  refine e_getI (M := mX9_setDeposit) dX9_setDeposit_52 fl_9033 (x_kk rfl) (x_kk rfl) rfl ?_
  refine e_if_leF (M := mX9_setDeposit) 62 dX9_setDeposit_55 rfl (show ¬ ((2 : Int32) ≤ 0) by decide) ?_
  refine f_iconst (M := mX9_setDeposit) 59 dX9_setDeposit_58 ki_0 rfl ?_
  refine f_goto (M := mX9_setDeposit) 70 dX9_setDeposit_59 rfl ?_
  refine e_ri (M := mX9_setDeposit) dX9_setDeposit_70 rfl (x_kk rfl) (x_kk rfl) ?_
  rfl
theorem mf_setDeposit_2 (hR : x_wf R) {Ns Np Nl Nm : Nat} (Z : y_Z (I 226) Ns Np Nl Nm) {w : Int32} {q : Nat} (hq : q < 8) (h1 : 0 ≤ w ∧ w ≤ 1000000000) (h2 : ¬ (I 226 0 = 1 ∨ I 226 0 = 6)) : x_Cv X mX9_setDeposit [.ref 225, .int (Int32.ofNat q), .int w] (I, L, R) 233 (.inl (some (.int (0))), (x_tw I 3, L, R), 233) := by
  obtain ⟨hNs, hn, hNp, hp, hNl, hl, hNm, hmm⟩ := Z
  show x_Ev X mX9_setDeposit 0 [some (.ref 225), some (.int (Int32.ofNat q)), some (.int w)] [] ((I, L, R), 233, 0, 0) _
  refine f_aload_n (M := mX9_setDeposit) 1 dX9_setDeposit_0 rfl rfl ?_
  refine f_iload_n (M := mX9_setDeposit) 2 dX9_setDeposit_1 rfl rfl ?_
  refine e_cS (M := mX9_setDeposit) [_, _] 0 0 dX9_setDeposit_2 pa_9185 cc_9185 rfl rfl rfl rfl rfl (x_kk rfl) (x_kk rfl) rfl (c_X9_isBidder) rfl ?_
  refine e_if_neT (M := mX9_setDeposit) 12 dX9_setDeposit_5 rfl (x_bn (ib_ok kn_7 (by omega) (by omega))) ?_
  refine f_iload_n (M := mX9_setDeposit) 13 dX9_setDeposit_12 rfl rfl ?_
  refine f_i2l (M := mX9_setDeposit) 14 dX9_setDeposit_13 rfl ?_
  refine f_lconst (M := mX9_setDeposit) 15 dX9_setDeposit_14 kl_0 rfl ?_
  refine f_ldc2 (M := mX9_setDeposit) 18 dX9_setDeposit_15 (x_kk rfl) csl_9200 rfl ?_
  refine e_cS (M := mX9_setDeposit) [_, _] 0 0 dX9_setDeposit_18 pa_9074 cc_9074 rfl rfl rfl rfl rfl (x_kk rfl) (x_kk rfl) rfl (c_X9_isInI (lo := 0) (hi := 1000000000)) rfl ?_
  refine e_if_neT (M := mX9_setDeposit) 28 dX9_setDeposit_21 rfl (x_bn h1) ?_
  refine f_aload_n (M := mX9_setDeposit) 29 dX9_setDeposit_28 rfl rfl ?_
  refine e_cV (M := mX9_setDeposit) [_, _] 0 0 dX9_setDeposit_29 pa_9190 pb_9190 cc_9190 rfl rfl rfl rfl rfl (x_kk rfl) (x_kk rfl) rfl (c_X9_isBidding hR) rfl ?_
  refine e_if_eqT (M := mX9_setDeposit) 43 dX9_setDeposit_32 rfl (x_b0 h2) ?_
  refine f_iconst (M := mX9_setDeposit) 44 dX9_setDeposit_43 ki_3 rfl ?_
  refine f_goto (M := mX9_setDeposit) 48 dX9_setDeposit_44 rfl ?_
  refine e_putI (M := mX9_setDeposit) dX9_setDeposit_48 fl_9033 (x_kk rfl) (x_kk rfl) rfl (fun q9 => Bool.noConfusion q9) ?_
  refine f_aload_n (M := mX9_setDeposit) 52 dX9_setDeposit_51 rfl rfl ?_
  refine e_getI (M := mX9_setDeposit) dX9_setDeposit_52 fl_9033 (x_kk rfl) (x_kk rfl) rfl ?_
  refine e_if_leF (M := mX9_setDeposit) 62 dX9_setDeposit_55 rfl (show ¬ ((3 : Int32) ≤ 0) by decide) ?_
  refine f_iconst (M := mX9_setDeposit) 59 dX9_setDeposit_58 ki_0 rfl ?_
  refine f_goto (M := mX9_setDeposit) 70 dX9_setDeposit_59 rfl ?_
  refine e_ri (M := mX9_setDeposit) dX9_setDeposit_70 rfl (x_kk rfl) (x_kk rfl) ?_
  rfl
theorem mf_setDeposit_3 (hR : x_wf R) {Ns Np Nl Nm : Nat} (Z : y_Z (I 226) Ns Np Nl Nm) {w : Int32} {q : Nat} (hq : q < 8) (h1 : 0 ≤ w ∧ w ≤ 1000000000) (h2 : I 226 0 = 1 ∨ I 226 0 = 6) (h3 : ¬ (¬ 0 < I 226 (224 + 8 * q + 7))) : x_Cv X mX9_setDeposit [.ref 225, .int (Int32.ofNat q), .int w] (I, L, R) 233 (.inl (some (.int (0))), (x_tw I 3, L, R), 233) := by
  obtain ⟨hNs, hn, hNp, hp, hNl, hl, hNm, hmm⟩ := Z
  show x_Ev X mX9_setDeposit 0 [some (.ref 225), some (.int (Int32.ofNat q)), some (.int w)] [] ((I, L, R), 233, 0, 0) _
  refine f_aload_n (M := mX9_setDeposit) 1 dX9_setDeposit_0 rfl rfl ?_
  refine f_iload_n (M := mX9_setDeposit) 2 dX9_setDeposit_1 rfl rfl ?_
  refine e_cS (M := mX9_setDeposit) [_, _] 0 0 dX9_setDeposit_2 pa_9185 cc_9185 rfl rfl rfl rfl rfl (x_kk rfl) (x_kk rfl) rfl (c_X9_isBidder) rfl ?_
  refine e_if_neT (M := mX9_setDeposit) 12 dX9_setDeposit_5 rfl (x_bn (ib_ok kn_7 (by omega) (by omega))) ?_
  refine f_iload_n (M := mX9_setDeposit) 13 dX9_setDeposit_12 rfl rfl ?_
  refine f_i2l (M := mX9_setDeposit) 14 dX9_setDeposit_13 rfl ?_
  refine f_lconst (M := mX9_setDeposit) 15 dX9_setDeposit_14 kl_0 rfl ?_
  refine f_ldc2 (M := mX9_setDeposit) 18 dX9_setDeposit_15 (x_kk rfl) csl_9200 rfl ?_
  refine e_cS (M := mX9_setDeposit) [_, _] 0 0 dX9_setDeposit_18 pa_9074 cc_9074 rfl rfl rfl rfl rfl (x_kk rfl) (x_kk rfl) rfl (c_X9_isInI (lo := 0) (hi := 1000000000)) rfl ?_
  refine e_if_neT (M := mX9_setDeposit) 28 dX9_setDeposit_21 rfl (x_bn h1) ?_
  refine f_aload_n (M := mX9_setDeposit) 29 dX9_setDeposit_28 rfl rfl ?_
  refine e_cV (M := mX9_setDeposit) [_, _] 0 0 dX9_setDeposit_29 pa_9190 pb_9190 cc_9190 rfl rfl rfl rfl rfl (x_kk rfl) (x_kk rfl) rfl (c_X9_isBidding hR) rfl ?_
  refine e_if_eqF (M := mX9_setDeposit) 43 dX9_setDeposit_32 rfl (x_bn h2) ?_
  refine f_aload_n (M := mX9_setDeposit) 36 dX9_setDeposit_35 rfl rfl ?_
  refine f_iload_n (M := mX9_setDeposit) 37 dX9_setDeposit_36 rfl rfl ?_
  refine e_cV (M := mX9_setDeposit) [_, _] 0 0 dX9_setDeposit_37 pa_9193 pb_9193 cc_9193 rfl rfl rfl rfl rfl (x_kk rfl) (x_kk rfl) rfl (c_X9_isSealed hR hq) rfl ?_
  refine e_if_eqF (M := mX9_setDeposit) 47 dX9_setDeposit_40 rfl (x_bn (x_dn h3)) ?_
  refine f_iconst (M := mX9_setDeposit) 44 dX9_setDeposit_43 ki_3 rfl ?_
  refine f_goto (M := mX9_setDeposit) 48 dX9_setDeposit_44 rfl ?_
  refine e_putI (M := mX9_setDeposit) dX9_setDeposit_48 fl_9033 (x_kk rfl) (x_kk rfl) rfl (fun q9 => Bool.noConfusion q9) ?_
  refine f_aload_n (M := mX9_setDeposit) 52 dX9_setDeposit_51 rfl rfl ?_
  refine e_getI (M := mX9_setDeposit) dX9_setDeposit_52 fl_9033 (x_kk rfl) (x_kk rfl) rfl ?_
  refine e_if_leF (M := mX9_setDeposit) 62 dX9_setDeposit_55 rfl (show ¬ ((3 : Int32) ≤ 0) by decide) ?_
  refine f_iconst (M := mX9_setDeposit) 59 dX9_setDeposit_58 ki_0 rfl ?_
  refine f_goto (M := mX9_setDeposit) 70 dX9_setDeposit_59 rfl ?_
  refine e_ri (M := mX9_setDeposit) dX9_setDeposit_70 rfl (x_kk rfl) (x_kk rfl) ?_
  rfl
theorem kf_seal_0 {N β : Nat} {a : Nat → Int32} {b : Nat → Int64} (H : y_CS N I L R β a b) {Ns Np Nl Nm : Nat} (Z : y_Z a Ns Np Nl Nm) {u : Int32} (h0 : ¬ (0 ≤ u ∧ u ≤ 7)) : x_Cv X mX8_seal [.ref 0, .int u] (I, L, R) 233 (.inr 2, (I, L, R), 233) := by
  obtain ⟨hNs, hn, hNp, hp, hNl, hl, hNm, hmm⟩ := Z
  have hR := h_R H
  have hβ := h_β H
  have hS := h_S H
  show x_Ev X mX8_seal 0 [some (.ref 0), some (.int u)] [] ((I, L, R), 233, 0, 0) _
  refine f_iload_n (M := mX8_seal) 1 dX8_seal_0 rfl rfl ?_
  refine e_cS (M := mX8_seal) [_] 0 0 dX8_seal_1 pa_8164 cc_8164 rfl rfl rfl rfl rfl (x_kk rfl) (x_kk rfl) rfl (c_X8_isBidder) rfl ?_
  exact e_cSX (M := mX8_seal) 1 6 dX8_seal_4 pa_8103 cc_8103 rfl rfl rfl rfl rfl (x_kk rfl) (x_kk rfl) rfl (c_X8_requireExisting_x (x_b0 h0)) rfl
theorem kf_seal_1 {N β : Nat} {a : Nat → Int32} {b : Nat → Int64} (H : y_CS N I L R β a b) {Ns Np Nl Nm : Nat} (Z : y_Z a Ns Np Nl Nm) {q : Nat} (hq : q < 8) (h1 : ¬ (a 0 = 1 ∨ a 0 = 6)) : x_Cv X mX8_seal [.ref 0, .int (Int32.ofNat q)] (I, L, R) 233 (.inr 0, (I, L, R), 233) := by
  obtain ⟨hNs, hn, hNp, hp, hNl, hl, hNm, hmm⟩ := Z
  have hR := h_R H
  have hβ := h_β H
  have hS := h_S H
  show x_Ev X mX8_seal 0 [some (.ref 0), some (.int (Int32.ofNat q))] [] ((I, L, R), 233, 0, 0) _
  refine f_iload_n (M := mX8_seal) 1 dX8_seal_0 rfl rfl ?_
  refine e_cS (M := mX8_seal) [_] 0 0 dX8_seal_1 pa_8164 cc_8164 rfl rfl rfl rfl rfl (x_kk rfl) (x_kk rfl) rfl (c_X8_isBidder) rfl ?_
  refine e_cS (M := mX8_seal) [] 1 6 dX8_seal_4 pa_8103 cc_8103 rfl rfl rfl rfl rfl (x_kk rfl) (x_kk rfl) rfl (c_X8_requireExisting (x_bn (ib_ok kn_7 (by omega) (by omega)))) rfl ?_
  refine f_aload_n (M := mX8_seal) 8 dX8_seal_7 rfl rfl ?_
  refine e_getR (M := mX8_seal) dX8_seal_8 fl_8026 (x_kk rfl) (x_kk rfl) rfl hS ?_
  refine e_cV (M := mX8_seal) [_] 1 6 dX8_seal_11 pa_8168 pb_8168 cc_8168 rfl rfl rfl rfl rfl (x_kk rfl) (x_kk rfl) (x_rcvOK (sl_lt hβ 0 rfl) (sl_s hβ 0 rfl rfl) rfl) (k_isBidding H) rfl ?_
  refine e_if_eqT (M := mX8_seal) 35 dX8_seal_14 rfl (x_b0 h1) ?_
  refine f_iconst (M := mX8_seal) 36 dX8_seal_35 ki_0 rfl ?_
  exact e_cSX (M := mX8_seal) 2 12 dX8_seal_36 pa_8037 cc_8037 rfl rfl rfl rfl rfl (x_kk rfl) (x_kk rfl) rfl (c_X8_requireState_x rfl) rfl
theorem kf_seal_2 {N β : Nat} {a : Nat → Int32} {b : Nat → Int64} (H : y_CS N I L R β a b) {Ns Np Nl Nm : Nat} (Z : y_Z a Ns Np Nl Nm) {q : Nat} (hq : q < 8) (h1 : a 0 = 1 ∨ a 0 = 6) (h2 : ¬ (¬ 0 < a (224 + 8 * q + 7))) : x_Cv X mX8_seal [.ref 0, .int (Int32.ofNat q)] (I, L, R) 233 (.inr 0, (I, L, R), 233) := by
  obtain ⟨hNs, hn, hNp, hp, hNl, hl, hNm, hmm⟩ := Z
  have hR := h_R H
  have hβ := h_β H
  have hS := h_S H
  show x_Ev X mX8_seal 0 [some (.ref 0), some (.int (Int32.ofNat q))] [] ((I, L, R), 233, 0, 0) _
  refine f_iload_n (M := mX8_seal) 1 dX8_seal_0 rfl rfl ?_
  refine e_cS (M := mX8_seal) [_] 0 0 dX8_seal_1 pa_8164 cc_8164 rfl rfl rfl rfl rfl (x_kk rfl) (x_kk rfl) rfl (c_X8_isBidder) rfl ?_
  refine e_cS (M := mX8_seal) [] 1 6 dX8_seal_4 pa_8103 cc_8103 rfl rfl rfl rfl rfl (x_kk rfl) (x_kk rfl) rfl (c_X8_requireExisting (x_bn (ib_ok kn_7 (by omega) (by omega)))) rfl ?_
  refine f_aload_n (M := mX8_seal) 8 dX8_seal_7 rfl rfl ?_
  refine e_getR (M := mX8_seal) dX8_seal_8 fl_8026 (x_kk rfl) (x_kk rfl) rfl hS ?_
  refine e_cV (M := mX8_seal) [_] 1 6 dX8_seal_11 pa_8168 pb_8168 cc_8168 rfl rfl rfl rfl rfl (x_kk rfl) (x_kk rfl) (x_rcvOK (sl_lt hβ 0 rfl) (sl_s hβ 0 rfl rfl) rfl) (k_isBidding H) rfl ?_
  refine e_if_eqF (M := mX8_seal) 35 dX8_seal_14 rfl (x_bn h1) ?_
  refine f_aload_n (M := mX8_seal) 18 dX8_seal_17 rfl rfl ?_
  refine e_getR (M := mX8_seal) dX8_seal_18 fl_8026 (x_kk rfl) (x_kk rfl) rfl hS ?_
  refine e_getR (M := mX8_seal) dX8_seal_21 fl_8148 (x_kk rfl) (sl_lt hβ 0 rfl) (sl_s hβ 0 rfl rfl) (wf_6_3 hR hβ) ?_
  refine f_iload_n (M := mX8_seal) 25 dX8_seal_24 rfl rfl ?_
  refine e_cV (M := mX8_seal) [_] 1 6 dX8_seal_25 pa_8171 pb_8171 cc_8171 rfl rfl rfl rfl rfl (x_kk rfl) (x_kk rfl) (x_rcvOK (sl_lt hβ 7 rfl) (sl_s hβ 7 rfl rfl) rfl) (k_isSealed H hq) rfl ?_
  refine e_if_neT (M := mX8_seal) 35 dX8_seal_28 rfl (x_bn (x_dn h2)) ?_
  refine f_iconst (M := mX8_seal) 36 dX8_seal_35 ki_0 rfl ?_
  exact e_cSX (M := mX8_seal) 2 12 dX8_seal_36 pa_8037 cc_8037 rfl rfl rfl rfl rfl (x_kk rfl) (x_kk rfl) rfl (c_X8_requireState_x rfl) rfl
theorem mf_seal_0 (hR : x_wf R) {Ns Np Nl Nm : Nat} (Z : y_Z (I 226) Ns Np Nl Nm) {u : Int32} (h0 : ¬ (0 ≤ u ∧ u ≤ 7)) : x_Cv X mX9_seal [.ref 225, .int u] (I, L, R) 233 (.inl (some (.int (0))), (x_tw I 1, L, R), 233) := by
  obtain ⟨hNs, hn, hNp, hp, hNl, hl, hNm, hmm⟩ := Z
  show x_Ev X mX9_seal 0 [some (.ref 225), some (.int u)] [] ((I, L, R), 233, 0, 0) _
  refine f_aload_n (M := mX9_seal) 1 dX9_seal_0 rfl rfl ?_
  refine f_iload_n (M := mX9_seal) 2 dX9_seal_1 rfl rfl ?_
  refine e_cS (M := mX9_seal) [_, _] 0 0 dX9_seal_2 pa_9185 cc_9185 rfl rfl rfl rfl rfl (x_kk rfl) (x_kk rfl) rfl (c_X9_isBidder) rfl ?_
  refine e_if_neF (M := mX9_seal) 12 dX9_seal_5 rfl (x_bnn h0) ?_
  refine f_iconst (M := mX9_seal) 9 dX9_seal_8 ki_1 rfl ?_
  refine f_goto (M := mX9_seal) 32 dX9_seal_9 rfl ?_
  refine e_putI (M := mX9_seal) dX9_seal_32 fl_9033 (x_kk rfl) (x_kk rfl) rfl (fun q9 => Bool.noConfusion q9) ?_
  refine f_aload_n (M := mX9_seal) 36 dX9_seal_35 rfl rfl ?_
  refine e_getI (M := mX9_seal) dX9_seal_36 fl_9033 (x_kk rfl) (x_kk rfl) rfl ?_
  refine e_if_leF (M := mX9_seal) 44 dX9_seal_39 rfl (show ¬ ((1 : Int32) ≤ 0) by decide) ?_
  refine f_iconst (M := mX9_seal) 43 dX9_seal_42 ki_0 rfl ?_
  refine e_ri (M := mX9_seal) dX9_seal_43 rfl (x_kk rfl) (x_kk rfl) ?_
  rfl
theorem mf_seal_1 (hR : x_wf R) {Ns Np Nl Nm : Nat} (Z : y_Z (I 226) Ns Np Nl Nm) {q : Nat} (hq : q < 8) (h1 : ¬ (I 226 0 = 1 ∨ I 226 0 = 6)) : x_Cv X mX9_seal [.ref 225, .int (Int32.ofNat q)] (I, L, R) 233 (.inl (some (.int (0))), (x_tw I 2, L, R), 233) := by
  obtain ⟨hNs, hn, hNp, hp, hNl, hl, hNm, hmm⟩ := Z
  show x_Ev X mX9_seal 0 [some (.ref 225), some (.int (Int32.ofNat q))] [] ((I, L, R), 233, 0, 0) _
  refine f_aload_n (M := mX9_seal) 1 dX9_seal_0 rfl rfl ?_
  refine f_iload_n (M := mX9_seal) 2 dX9_seal_1 rfl rfl ?_
  refine e_cS (M := mX9_seal) [_, _] 0 0 dX9_seal_2 pa_9185 cc_9185 rfl rfl rfl rfl rfl (x_kk rfl) (x_kk rfl) rfl (c_X9_isBidder) rfl ?_
  refine e_if_neT (M := mX9_seal) 12 dX9_seal_5 rfl (x_bn (ib_ok kn_7 (by omega) (by omega))) ?_
  refine f_aload_n (M := mX9_seal) 13 dX9_seal_12 rfl rfl ?_
  refine e_cV (M := mX9_seal) [_, _] 0 0 dX9_seal_13 pa_9190 pb_9190 cc_9190 rfl rfl rfl rfl rfl (x_kk rfl) (x_kk rfl) rfl (c_X9_isBidding hR) rfl ?_
  refine e_if_eqT (M := mX9_seal) 27 dX9_seal_16 rfl (x_b0 h1) ?_
  refine f_iconst (M := mX9_seal) 28 dX9_seal_27 ki_2 rfl ?_
  refine f_goto (M := mX9_seal) 32 dX9_seal_28 rfl ?_
  refine e_putI (M := mX9_seal) dX9_seal_32 fl_9033 (x_kk rfl) (x_kk rfl) rfl (fun q9 => Bool.noConfusion q9) ?_
  refine f_aload_n (M := mX9_seal) 36 dX9_seal_35 rfl rfl ?_
  refine e_getI (M := mX9_seal) dX9_seal_36 fl_9033 (x_kk rfl) (x_kk rfl) rfl ?_
  refine e_if_leF (M := mX9_seal) 44 dX9_seal_39 rfl (show ¬ ((2 : Int32) ≤ 0) by decide) ?_
  refine f_iconst (M := mX9_seal) 43 dX9_seal_42 ki_0 rfl ?_
  refine e_ri (M := mX9_seal) dX9_seal_43 rfl (x_kk rfl) (x_kk rfl) ?_
  rfl
theorem mf_seal_2 (hR : x_wf R) {Ns Np Nl Nm : Nat} (Z : y_Z (I 226) Ns Np Nl Nm) {q : Nat} (hq : q < 8) (h1 : I 226 0 = 1 ∨ I 226 0 = 6) (h2 : ¬ (¬ 0 < I 226 (224 + 8 * q + 7))) : x_Cv X mX9_seal [.ref 225, .int (Int32.ofNat q)] (I, L, R) 233 (.inl (some (.int (0))), (x_tw I 2, L, R), 233) := by
  obtain ⟨hNs, hn, hNp, hp, hNl, hl, hNm, hmm⟩ := Z
  show x_Ev X mX9_seal 0 [some (.ref 225), some (.int (Int32.ofNat q))] [] ((I, L, R), 233, 0, 0) _
  refine f_aload_n (M := mX9_seal) 1 dX9_seal_0 rfl rfl ?_
  refine f_iload_n (M := mX9_seal) 2 dX9_seal_1 rfl rfl ?_
  refine e_cS (M := mX9_seal) [_, _] 0 0 dX9_seal_2 pa_9185 cc_9185 rfl rfl rfl rfl rfl (x_kk rfl) (x_kk rfl) rfl (c_X9_isBidder) rfl ?_
  refine e_if_neT (M := mX9_seal) 12 dX9_seal_5 rfl (x_bn (ib_ok kn_7 (by omega) (by omega))) ?_
  refine f_aload_n (M := mX9_seal) 13 dX9_seal_12 rfl rfl ?_
  refine e_cV (M := mX9_seal) [_, _] 0 0 dX9_seal_13 pa_9190 pb_9190 cc_9190 rfl rfl rfl rfl rfl (x_kk rfl) (x_kk rfl) rfl (c_X9_isBidding hR) rfl ?_
  refine e_if_eqF (M := mX9_seal) 27 dX9_seal_16 rfl (x_bn h1) ?_
  refine f_aload_n (M := mX9_seal) 20 dX9_seal_19 rfl rfl ?_
  refine f_iload_n (M := mX9_seal) 21 dX9_seal_20 rfl rfl ?_
  refine e_cV (M := mX9_seal) [_, _] 0 0 dX9_seal_21 pa_9193 pb_9193 cc_9193 rfl rfl rfl rfl rfl (x_kk rfl) (x_kk rfl) rfl (c_X9_isSealed hR hq) rfl ?_
  refine e_if_eqF (M := mX9_seal) 31 dX9_seal_24 rfl (x_bn (x_dn h2)) ?_
  refine f_iconst (M := mX9_seal) 28 dX9_seal_27 ki_2 rfl ?_
  refine f_goto (M := mX9_seal) 32 dX9_seal_28 rfl ?_
  refine e_putI (M := mX9_seal) dX9_seal_32 fl_9033 (x_kk rfl) (x_kk rfl) rfl (fun q9 => Bool.noConfusion q9) ?_
  refine f_aload_n (M := mX9_seal) 36 dX9_seal_35 rfl rfl ?_
  refine e_getI (M := mX9_seal) dX9_seal_36 fl_9033 (x_kk rfl) (x_kk rfl) rfl ?_
  refine e_if_leF (M := mX9_seal) 44 dX9_seal_39 rfl (show ¬ ((2 : Int32) ≤ 0) by decide) ?_
  refine f_iconst (M := mX9_seal) 43 dX9_seal_42 ki_0 rfl ?_
  refine e_ri (M := mX9_seal) dX9_seal_43 rfl (x_kk rfl) (x_kk rfl) ?_
  rfl
theorem kf_withdraw_0 {N β : Nat} {a : Nat → Int32} {b : Nat → Int64} (H : y_CS N I L R β a b) {Ns Np Nl Nm : Nat} (Z : y_Z a Ns Np Nl Nm) {u : Int32} (h0 : ¬ (0 ≤ u ∧ u ≤ 7)) : x_Cv X mX8_withdraw [.ref 0, .int u] (I, L, R) 233 (.inr 2, (I, L, R), 233) := by
  obtain ⟨hNs, hn, hNp, hp, hNl, hl, hNm, hmm⟩ := Z
  have hR := h_R H
  have hβ := h_β H
  have hS := h_S H
  show x_Ev X mX8_withdraw 0 [some (.ref 0), some (.int u)] [] ((I, L, R), 233, 0, 0) _
  refine f_iload_n (M := mX8_withdraw) 1 dX8_withdraw_0 rfl rfl ?_
  refine e_cS (M := mX8_withdraw) [_] 0 0 dX8_withdraw_1 pa_8164 cc_8164 rfl rfl rfl rfl rfl (x_kk rfl) (x_kk rfl) rfl (c_X8_isBidder) rfl ?_
  exact e_cSX (M := mX8_withdraw) 1 6 dX8_withdraw_4 pa_8103 cc_8103 rfl rfl rfl rfl rfl (x_kk rfl) (x_kk rfl) rfl (c_X8_requireExisting_x (x_b0 h0)) rfl
theorem kf_withdraw_1 {N β : Nat} {a : Nat → Int32} {b : Nat → Int64} (H : y_CS N I L R β a b) {Ns Np Nl Nm : Nat} (Z : y_Z a Ns Np Nl Nm) {q : Nat} (hq : q < 8) (h1 : ¬ (a 0 = 1 ∨ a 0 = 6)) : x_Cv X mX8_withdraw [.ref 0, .int (Int32.ofNat q)] (I, L, R) 233 (.inr 0, (I, L, R), 233) := by
  obtain ⟨hNs, hn, hNp, hp, hNl, hl, hNm, hmm⟩ := Z
  have hR := h_R H
  have hβ := h_β H
  have hS := h_S H
  show x_Ev X mX8_withdraw 0 [some (.ref 0), some (.int (Int32.ofNat q))] [] ((I, L, R), 233, 0, 0) _
  refine f_iload_n (M := mX8_withdraw) 1 dX8_withdraw_0 rfl rfl ?_
  refine e_cS (M := mX8_withdraw) [_] 0 0 dX8_withdraw_1 pa_8164 cc_8164 rfl rfl rfl rfl rfl (x_kk rfl) (x_kk rfl) rfl (c_X8_isBidder) rfl ?_
  refine e_cS (M := mX8_withdraw) [] 1 6 dX8_withdraw_4 pa_8103 cc_8103 rfl rfl rfl rfl rfl (x_kk rfl) (x_kk rfl) rfl (c_X8_requireExisting (x_bn (ib_ok kn_7 (by omega) (by omega)))) rfl ?_
  refine f_aload_n (M := mX8_withdraw) 8 dX8_withdraw_7 rfl rfl ?_
  refine e_getR (M := mX8_withdraw) dX8_withdraw_8 fl_8026 (x_kk rfl) (x_kk rfl) rfl hS ?_
  refine e_cV (M := mX8_withdraw) [_] 1 6 dX8_withdraw_11 pa_8168 pb_8168 cc_8168 rfl rfl rfl rfl rfl (x_kk rfl) (x_kk rfl) (x_rcvOK (sl_lt hβ 0 rfl) (sl_s hβ 0 rfl rfl) rfl) (k_isBidding H) rfl ?_
  refine e_if_eqT (M := mX8_withdraw) 35 dX8_withdraw_14 rfl (x_b0 h1) ?_
  refine f_iconst (M := mX8_withdraw) 36 dX8_withdraw_35 ki_0 rfl ?_
  exact e_cSX (M := mX8_withdraw) 2 12 dX8_withdraw_36 pa_8037 cc_8037 rfl rfl rfl rfl rfl (x_kk rfl) (x_kk rfl) rfl (c_X8_requireState_x rfl) rfl
theorem kf_withdraw_2 {N β : Nat} {a : Nat → Int32} {b : Nat → Int64} (H : y_CS N I L R β a b) {Ns Np Nl Nm : Nat} (Z : y_Z a Ns Np Nl Nm) {q : Nat} (hq : q < 8) (h1 : a 0 = 1 ∨ a 0 = 6) (h2 : ¬ (0 < a (224 + 8 * q + 7))) : x_Cv X mX8_withdraw [.ref 0, .int (Int32.ofNat q)] (I, L, R) 233 (.inr 0, (I, L, R), 233) := by
  obtain ⟨hNs, hn, hNp, hp, hNl, hl, hNm, hmm⟩ := Z
  have hR := h_R H
  have hβ := h_β H
  have hS := h_S H
  show x_Ev X mX8_withdraw 0 [some (.ref 0), some (.int (Int32.ofNat q))] [] ((I, L, R), 233, 0, 0) _
  refine f_iload_n (M := mX8_withdraw) 1 dX8_withdraw_0 rfl rfl ?_
  refine e_cS (M := mX8_withdraw) [_] 0 0 dX8_withdraw_1 pa_8164 cc_8164 rfl rfl rfl rfl rfl (x_kk rfl) (x_kk rfl) rfl (c_X8_isBidder) rfl ?_
  refine e_cS (M := mX8_withdraw) [] 1 6 dX8_withdraw_4 pa_8103 cc_8103 rfl rfl rfl rfl rfl (x_kk rfl) (x_kk rfl) rfl (c_X8_requireExisting (x_bn (ib_ok kn_7 (by omega) (by omega)))) rfl ?_
  refine f_aload_n (M := mX8_withdraw) 8 dX8_withdraw_7 rfl rfl ?_
  refine e_getR (M := mX8_withdraw) dX8_withdraw_8 fl_8026 (x_kk rfl) (x_kk rfl) rfl hS ?_
  refine e_cV (M := mX8_withdraw) [_] 1 6 dX8_withdraw_11 pa_8168 pb_8168 cc_8168 rfl rfl rfl rfl rfl (x_kk rfl) (x_kk rfl) (x_rcvOK (sl_lt hβ 0 rfl) (sl_s hβ 0 rfl rfl) rfl) (k_isBidding H) rfl ?_
  refine e_if_eqF (M := mX8_withdraw) 35 dX8_withdraw_14 rfl (x_bn h1) ?_
  refine f_aload_n (M := mX8_withdraw) 18 dX8_withdraw_17 rfl rfl ?_
  refine e_getR (M := mX8_withdraw) dX8_withdraw_18 fl_8026 (x_kk rfl) (x_kk rfl) rfl hS ?_
  refine e_getR (M := mX8_withdraw) dX8_withdraw_21 fl_8148 (x_kk rfl) (sl_lt hβ 0 rfl) (sl_s hβ 0 rfl rfl) (wf_6_3 hR hβ) ?_
  refine f_iload_n (M := mX8_withdraw) 25 dX8_withdraw_24 rfl rfl ?_
  refine e_cV (M := mX8_withdraw) [_] 1 6 dX8_withdraw_25 pa_8171 pb_8171 cc_8171 rfl rfl rfl rfl rfl (x_kk rfl) (x_kk rfl) (x_rcvOK (sl_lt hβ 7 rfl) (sl_s hβ 7 rfl rfl) rfl) (k_isSealed H hq) rfl ?_
  refine e_if_eqT (M := mX8_withdraw) 35 dX8_withdraw_28 rfl (x_b0 h2) ?_
  refine f_iconst (M := mX8_withdraw) 36 dX8_withdraw_35 ki_0 rfl ?_
  exact e_cSX (M := mX8_withdraw) 2 12 dX8_withdraw_36 pa_8037 cc_8037 rfl rfl rfl rfl rfl (x_kk rfl) (x_kk rfl) rfl (c_X8_requireState_x rfl) rfl
theorem mf_withdraw_0 (hR : x_wf R) {Ns Np Nl Nm : Nat} (Z : y_Z (I 226) Ns Np Nl Nm) {u : Int32} (h0 : ¬ (0 ≤ u ∧ u ≤ 7)) : x_Cv X mX9_withdraw [.ref 225, .int u] (I, L, R) 233 (.inl none, (x_tw I 1, L, R), 233) := by
  obtain ⟨hNs, hn, hNp, hp, hNl, hl, hNm, hmm⟩ := Z
  show x_Ev X mX9_withdraw 0 [some (.ref 225), some (.int u), none] [] ((I, L, R), 233, 0, 0) _
  refine f_aload_n (M := mX9_withdraw) 1 dX9_withdraw_0 rfl rfl ?_
  refine f_iload_n (M := mX9_withdraw) 2 dX9_withdraw_1 rfl rfl ?_
  refine e_cS (M := mX9_withdraw) [_, _] 0 0 dX9_withdraw_2 pa_9185 cc_9185 rfl rfl rfl rfl rfl (x_kk rfl) (x_kk rfl) rfl (c_X9_isBidder) rfl ?_
  refine e_if_neF (M := mX9_withdraw) 12 dX9_withdraw_5 rfl (x_bnn h0) ?_
  refine f_iconst (M := mX9_withdraw) 9 dX9_withdraw_8 ki_1 rfl ?_
  refine f_goto (M := mX9_withdraw) 32 dX9_withdraw_9 rfl ?_
  refine e_putI (M := mX9_withdraw) dX9_withdraw_32 fl_9033 (x_kk rfl) (x_kk rfl) rfl (fun q9 => Bool.noConfusion q9) ?_
  refine f_aload_n (M := mX9_withdraw) 36 dX9_withdraw_35 rfl rfl ?_
  refine e_getI (M := mX9_withdraw) dX9_withdraw_36 fl_9033 (x_kk rfl) (x_kk rfl) rfl ?_
  refine e_if_leF (M := mX9_withdraw) 43 dX9_withdraw_39 rfl (show ¬ ((1 : Int32) ≤ 0) by decide) ?_
  refine e_rv (M := mX9_withdraw) dX9_withdraw_42 rfl (x_kk rfl) (x_kk rfl) ?_
  rfl
theorem mf_withdraw_1 (hR : x_wf R) {Ns Np Nl Nm : Nat} (Z : y_Z (I 226) Ns Np Nl Nm) {q : Nat} (hq : q < 8) (h1 : ¬ (I 226 0 = 1 ∨ I 226 0 = 6)) : x_Cv X mX9_withdraw [.ref 225, .int (Int32.ofNat q)] (I, L, R) 233 (.inl none, (x_tw I 2, L, R), 233) := by
  obtain ⟨hNs, hn, hNp, hp, hNl, hl, hNm, hmm⟩ := Z
  show x_Ev X mX9_withdraw 0 [some (.ref 225), some (.int (Int32.ofNat q)), none] [] ((I, L, R), 233, 0, 0) _
  refine f_aload_n (M := mX9_withdraw) 1 dX9_withdraw_0 rfl rfl ?_
  refine f_iload_n (M := mX9_withdraw) 2 dX9_withdraw_1 rfl rfl ?_
  refine e_cS (M := mX9_withdraw) [_, _] 0 0 dX9_withdraw_2 pa_9185 cc_9185 rfl rfl rfl rfl rfl (x_kk rfl) (x_kk rfl) rfl (c_X9_isBidder) rfl ?_
  refine e_if_neT (M := mX9_withdraw) 12 dX9_withdraw_5 rfl (x_bn (ib_ok kn_7 (by omega) (by omega))) ?_
  refine f_aload_n (M := mX9_withdraw) 13 dX9_withdraw_12 rfl rfl ?_
  refine e_cV (M := mX9_withdraw) [_, _] 0 0 dX9_withdraw_13 pa_9190 pb_9190 cc_9190 rfl rfl rfl rfl rfl (x_kk rfl) (x_kk rfl) rfl (c_X9_isBidding hR) rfl ?_
  refine e_if_eqT (M := mX9_withdraw) 27 dX9_withdraw_16 rfl (x_b0 h1) ?_
  refine f_iconst (M := mX9_withdraw) 28 dX9_withdraw_27 ki_2 rfl ?_
  refine f_goto (M := mX9_withdraw) 32 dX9_withdraw_28 rfl ?_
  refine e_putI (M := mX9_withdraw) dX9_withdraw_32 fl_9033 (x_kk rfl) (x_kk rfl) rfl (fun q9 => Bool.noConfusion q9) ?_
  refine f_aload_n (M := mX9_withdraw) 36 dX9_withdraw_35 rfl rfl ?_
  refine e_getI (M := mX9_withdraw) dX9_withdraw_36 fl_9033 (x_kk rfl) (x_kk rfl) rfl ?_
  refine e_if_leF (M := mX9_withdraw) 43 dX9_withdraw_39 rfl (show ¬ ((2 : Int32) ≤ 0) by decide) ?_
  refine e_rv (M := mX9_withdraw) dX9_withdraw_42 rfl (x_kk rfl) (x_kk rfl) ?_
  rfl
theorem mf_withdraw_2 (hR : x_wf R) {Ns Np Nl Nm : Nat} (Z : y_Z (I 226) Ns Np Nl Nm) {q : Nat} (hq : q < 8) (h1 : I 226 0 = 1 ∨ I 226 0 = 6) (h2 : ¬ (0 < I 226 (224 + 8 * q + 7))) : x_Cv X mX9_withdraw [.ref 225, .int (Int32.ofNat q)] (I, L, R) 233 (.inl none, (x_tw I 2, L, R), 233) := by
  obtain ⟨hNs, hn, hNp, hp, hNl, hl, hNm, hmm⟩ := Z
  show x_Ev X mX9_withdraw 0 [some (.ref 225), some (.int (Int32.ofNat q)), none] [] ((I, L, R), 233, 0, 0) _
  refine f_aload_n (M := mX9_withdraw) 1 dX9_withdraw_0 rfl rfl ?_
  refine f_iload_n (M := mX9_withdraw) 2 dX9_withdraw_1 rfl rfl ?_
  refine e_cS (M := mX9_withdraw) [_, _] 0 0 dX9_withdraw_2 pa_9185 cc_9185 rfl rfl rfl rfl rfl (x_kk rfl) (x_kk rfl) rfl (c_X9_isBidder) rfl ?_
  refine e_if_neT (M := mX9_withdraw) 12 dX9_withdraw_5 rfl (x_bn (ib_ok kn_7 (by omega) (by omega))) ?_
  refine f_aload_n (M := mX9_withdraw) 13 dX9_withdraw_12 rfl rfl ?_
  refine e_cV (M := mX9_withdraw) [_, _] 0 0 dX9_withdraw_13 pa_9190 pb_9190 cc_9190 rfl rfl rfl rfl rfl (x_kk rfl) (x_kk rfl) rfl (c_X9_isBidding hR) rfl ?_
  refine e_if_eqF (M := mX9_withdraw) 27 dX9_withdraw_16 rfl (x_bn h1) ?_
  refine f_aload_n (M := mX9_withdraw) 20 dX9_withdraw_19 rfl rfl ?_
  refine f_iload_n (M := mX9_withdraw) 21 dX9_withdraw_20 rfl rfl ?_
  refine e_cV (M := mX9_withdraw) [_, _] 0 0 dX9_withdraw_21 pa_9193 pb_9193 cc_9193 rfl rfl rfl rfl rfl (x_kk rfl) (x_kk rfl) rfl (c_X9_isSealed hR hq) rfl ?_
  refine e_if_neF (M := mX9_withdraw) 31 dX9_withdraw_24 rfl (x_bnn h2) ?_
  refine f_iconst (M := mX9_withdraw) 28 dX9_withdraw_27 ki_2 rfl ?_
  refine f_goto (M := mX9_withdraw) 32 dX9_withdraw_28 rfl ?_
  refine e_putI (M := mX9_withdraw) dX9_withdraw_32 fl_9033 (x_kk rfl) (x_kk rfl) rfl (fun q9 => Bool.noConfusion q9) ?_
  refine f_aload_n (M := mX9_withdraw) 36 dX9_withdraw_35 rfl rfl ?_
  refine e_getI (M := mX9_withdraw) dX9_withdraw_36 fl_9033 (x_kk rfl) (x_kk rfl) rfl ?_
  refine e_if_leF (M := mX9_withdraw) 43 dX9_withdraw_39 rfl (show ¬ ((2 : Int32) ≤ 0) by decide) ?_
  refine e_rv (M := mX9_withdraw) dX9_withdraw_42 rfl (x_kk rfl) (x_kk rfl) ?_
  rfl
theorem kf_open_0 {N β : Nat} {a : Nat → Int32} {b : Nat → Int64} (H : y_CS N I L R β a b) {Ns Np Nl Nm : Nat} (Z : y_Z a Ns Np Nl Nm) (h0 : ¬ (a 0 = 1 ∨ a 0 = 6)) : x_Cv X mX8_open [.ref 0] (I, L, R) 233 (.inr 0, (I, L, R), 233) := by
  obtain ⟨hNs, hn, hNp, hp, hNl, hl, hNm, hmm⟩ := Z
  have hR := h_R H
  have hβ := h_β H
  have hS := h_S H
  show x_Ev X mX8_open 0 [some (.ref 0)] [] ((I, L, R), 233, 0, 0) _
  refine f_aload_n (M := mX8_open) 1 dX8_open_0 rfl rfl ?_
  refine e_getR (M := mX8_open) dX8_open_1 fl_8026 (x_kk rfl) (x_kk rfl) rfl hS ?_
  refine e_cV (M := mX8_open) [_] 0 0 dX8_open_4 pa_8168 pb_8168 cc_8168 rfl rfl rfl rfl rfl (x_kk rfl) (x_kk rfl) (x_rcvOK (sl_lt hβ 0 rfl) (sl_s hβ 0 rfl rfl) rfl) (k_isBidding H) rfl ?_
  exact e_cSX (M := mX8_open) 1 6 dX8_open_7 pa_8037 cc_8037 rfl rfl rfl rfl rfl (x_kk rfl) (x_kk rfl) rfl (c_X8_requireState_x (x_b0 h0)) rfl
theorem mf_open_0 (hR : x_wf R) {Ns Np Nl Nm : Nat} (Z : y_Z (I 226) Ns Np Nl Nm) (h0 : ¬ (I 226 0 = 1 ∨ I 226 0 = 6)) : x_Cv X mX9_open [.ref 225] (I, L, R) 233 (.inl (some (.int (0))), (x_tw I 1, L, R), 233) := by
  obtain ⟨hNs, hn, hNp, hp, hNl, hl, hNm, hmm⟩ := Z
  show x_Ev X mX9_open 0 [some (.ref 225), none, none] [] ((I, L, R), 233, 0, 0) _
  refine f_aload_n (M := mX9_open) 1 dX9_open_0 rfl rfl ?_
  refine f_aload_n (M := mX9_open) 2 dX9_open_1 rfl rfl ?_
  refine e_cV (M := mX9_open) [_, _] 0 0 dX9_open_2 pa_9190 pb_9190 cc_9190 rfl rfl rfl rfl rfl (x_kk rfl) (x_kk rfl) rfl (c_X9_isBidding hR) rfl ?_
  refine e_if_eqT (M := mX9_open) 12 dX9_open_5 rfl (x_b0 h0) ?_
  refine f_iconst (M := mX9_open) 13 dX9_open_12 ki_1 rfl ?_
  refine e_putI (M := mX9_open) dX9_open_13 fl_9033 (x_kk rfl) (x_kk rfl) rfl (fun q9 => Bool.noConfusion q9) ?_
  refine f_aload_n (M := mX9_open) 17 dX9_open_16 rfl rfl ?_
  refine e_getI (M := mX9_open) dX9_open_17 fl_9033 (x_kk rfl) (x_kk rfl) rfl ?_
  refine e_if_leF (M := mX9_open) 25 dX9_open_20 rfl (show ¬ ((1 : Int32) ≤ 0) by decide) ?_
  refine f_iconst (M := mX9_open) 24 dX9_open_23 ki_0 rfl ?_
  refine e_ri (M := mX9_open) dX9_open_24 rfl (x_kk rfl) (x_kk rfl) ?_
  rfl
theorem kf_setIndex_0 {N β : Nat} {a : Nat → Int32} {b : Nat → Int64} (H : y_CS N I L R β a b) {Ns Np Nl Nm : Nat} (Z : y_Z a Ns Np Nl Nm) {u : Int32} {v : Int32} {w : Int32} (h0 : ¬ (0 ≤ u ∧ u ≤ 11)) : x_Cv X mX8_setIndex [.ref 0, .int u, .int v, .int w] (I, L, R) 233 (.inr 2, (I, L, R), 233) := by
  obtain ⟨hNs, hn, hNp, hp, hNl, hl, hNm, hmm⟩ := Z
  have hR := h_R H
  have hβ := h_β H
  have hS := h_S H
  show x_Ev X mX8_setIndex 0 [some (.ref 0), some (.int u), some (.int v), some (.int w)] [] ((I, L, R), 233, 0, 0) _
  refine f_iload_n (M := mX8_setIndex) 1 dX8_setIndex_0 rfl rfl ?_
  refine e_cS (M := mX8_setIndex) [_] 0 0 dX8_setIndex_1 pa_8224 cc_8224 rfl rfl rfl rfl rfl (x_kk rfl) (x_kk rfl) rfl (c_X8_isQuarter) rfl ?_
  refine e_if_eqT (M := mX8_setIndex) 19 dX8_setIndex_4 rfl (x_b0 h0) ?_
  refine f_iconst (M := mX8_setIndex) 20 dX8_setIndex_19 ki_0 rfl ?_
  exact e_cSX (M := mX8_setIndex) 1 6 dX8_setIndex_20 pa_8103 cc_8103 rfl rfl rfl rfl rfl (x_kk rfl) (x_kk rfl) rfl (c_X8_requireExisting_x rfl) rfl
theorem kf_setIndex_1 {N β : Nat} {a : Nat → Int32} {b : Nat → Int64} (H : y_CS N I L R β a b) {Ns Np Nl Nm : Nat} (Z : y_Z a Ns Np Nl Nm) {v : Int32} {w : Int32} {Q : Nat} (hQ : Q < 12) (h1 : ¬ (0 ≤ v ∧ v ≤ a 8 - 1)) : x_Cv X mX8_setIndex [.ref 0, .int (Int32.ofNat Q), .int v, .int w] (I, L, R) 233 (.inr 2, (I, L, R), 233) := by
  obtain ⟨hNs, hn, hNp, hp, hNl, hl, hNm, hmm⟩ := Z
  have hR := h_R H
  have hβ := h_β H
  have hS := h_S H
  show x_Ev X mX8_setIndex 0 [some (.ref 0), some (.int (Int32.ofNat Q)), some (.int v), some (.int w)] [] ((I, L, R), 233, 0, 0) _
  refine f_iload_n (M := mX8_setIndex) 1 dX8_setIndex_0 rfl rfl ?_
  refine e_cS (M := mX8_setIndex) [_] 0 0 dX8_setIndex_1 pa_8224 cc_8224 rfl rfl rfl rfl rfl (x_kk rfl) (x_kk rfl) rfl (c_X8_isQuarter) rfl ?_
  refine e_if_eqF (M := mX8_setIndex) 19 dX8_setIndex_4 rfl (x_bn (ib_ok kn_11 (by omega) (by omega))) ?_
  refine f_aload_n (M := mX8_setIndex) 8 dX8_setIndex_7 rfl rfl ?_
  refine f_iload_n (M := mX8_setIndex) 9 dX8_setIndex_8 rfl rfl ?_
  refine e_cV (M := mX8_setIndex) [_] 0 0 dX8_setIndex_9 pa_8161 pb_8161 cc_8161 rfl rfl rfl rfl rfl (x_kk rfl) (x_kk rfl) rfl (k_isSpecies H) rfl ?_
  refine e_if_eqT (M := mX8_setIndex) 19 dX8_setIndex_12 rfl (x_b0 h1) ?_
  refine f_iconst (M := mX8_setIndex) 20 dX8_setIndex_19 ki_0 rfl ?_
  exact e_cSX (M := mX8_setIndex) 1 6 dX8_setIndex_20 pa_8103 cc_8103 rfl rfl rfl rfl rfl (x_kk rfl) (x_kk rfl) rfl (c_X8_requireExisting_x rfl) rfl
theorem kf_setIndex_2 {N β : Nat} {a : Nat → Int32} {b : Nat → Int64} (H : y_CS N I L R β a b) {Ns Np Nl Nm : Nat} (Z : y_Z a Ns Np Nl Nm) {w : Int32} {Q : Nat} (hQ : Q < 12) {s : Nat} (hs : s < Ns) (h2 : ¬ (1 ≤ w ∧ w ≤ 10000)) : x_Cv X mX8_setIndex [.ref 0, .int (Int32.ofNat Q), .int (Int32.ofNat s), .int w] (I, L, R) 233 (.inr 1, (I, L, R), 233) := by
  obtain ⟨hNs, hn, hNp, hp, hNl, hl, hNm, hmm⟩ := Z
  have hR := h_R H
  have hβ := h_β H
  have hS := h_S H
  show x_Ev X mX8_setIndex 0 [some (.ref 0), some (.int (Int32.ofNat Q)), some (.int (Int32.ofNat s)), some (.int w)] [] ((I, L, R), 233, 0, 0) _
  refine f_iload_n (M := mX8_setIndex) 1 dX8_setIndex_0 rfl rfl ?_
  refine e_cS (M := mX8_setIndex) [_] 0 0 dX8_setIndex_1 pa_8224 cc_8224 rfl rfl rfl rfl rfl (x_kk rfl) (x_kk rfl) rfl (c_X8_isQuarter) rfl ?_
  refine e_if_eqF (M := mX8_setIndex) 19 dX8_setIndex_4 rfl (x_bn (ib_ok kn_11 (by omega) (by omega))) ?_
  refine f_aload_n (M := mX8_setIndex) 8 dX8_setIndex_7 rfl rfl ?_
  refine f_iload_n (M := mX8_setIndex) 9 dX8_setIndex_8 rfl rfl ?_
  refine e_cV (M := mX8_setIndex) [_] 0 0 dX8_setIndex_9 pa_8161 pb_8161 cc_8161 rfl rfl rfl rfl rfl (x_kk rfl) (x_kk rfl) rfl (k_isSpecies H) rfl ?_
  refine e_if_eqF (M := mX8_setIndex) 19 dX8_setIndex_12 rfl (x_bn (in_ok hn (by omega) hs)) ?_
  refine f_iconst (M := mX8_setIndex) 16 dX8_setIndex_15 ki_1 rfl ?_
  refine f_goto (M := mX8_setIndex) 20 dX8_setIndex_16 rfl ?_
  refine e_cS (M := mX8_setIndex) [] 1 6 dX8_setIndex_20 pa_8103 cc_8103 rfl rfl rfl rfl rfl (x_kk rfl) (x_kk rfl) rfl (c_X8_requireExisting (by decide)) rfl ?_
  refine f_iload_n (M := mX8_setIndex) 24 dX8_setIndex_23 rfl rfl ?_
  refine f_iconst (M := mX8_setIndex) 25 dX8_setIndex_24 ki_1 rfl ?_
  refine f_sipush (M := mX8_setIndex) 28 dX8_setIndex_25 ks_10000 rfl ?_
  refine e_cS (M := mX8_setIndex) [_] 1 6 dX8_setIndex_28 pa_8049 cc_8049 rfl rfl rfl rfl rfl (x_kk rfl) (x_kk rfl) rfl (c_X8_isIn (lo := 1) (hi := 10000)) rfl ?_
  exact e_cSX (M := mX8_setIndex) 2 12 dX8_setIndex_31 pa_8053 cc_8053 rfl rfl rfl rfl rfl (x_kk rfl) (x_kk rfl) rfl (c_X8_requireArgument_x (x_b0 h2)) rfl
theorem kf_setIndex_3 {N β : Nat} {a : Nat → Int32} {b : Nat → Int64} (H : y_CS N I L R β a b) {Ns Np Nl Nm : Nat} (Z : y_Z a Ns Np Nl Nm) {w : Int32} {Q : Nat} (hQ : Q < 12) {s : Nat} (hs : s < Ns) (h2 : 1 ≤ w ∧ w ≤ 10000) (h3 : ¬ (a 0 = 3)) : x_Cv X mX8_setIndex [.ref 0, .int (Int32.ofNat Q), .int (Int32.ofNat s), .int w] (I, L, R) 233 (.inr 0, (I, L, R), 233) := by
  obtain ⟨hNs, hn, hNp, hp, hNl, hl, hNm, hmm⟩ := Z
  have hR := h_R H
  have hβ := h_β H
  have hS := h_S H
  show x_Ev X mX8_setIndex 0 [some (.ref 0), some (.int (Int32.ofNat Q)), some (.int (Int32.ofNat s)), some (.int w)] [] ((I, L, R), 233, 0, 0) _
  refine f_iload_n (M := mX8_setIndex) 1 dX8_setIndex_0 rfl rfl ?_
  refine e_cS (M := mX8_setIndex) [_] 0 0 dX8_setIndex_1 pa_8224 cc_8224 rfl rfl rfl rfl rfl (x_kk rfl) (x_kk rfl) rfl (c_X8_isQuarter) rfl ?_
  refine e_if_eqF (M := mX8_setIndex) 19 dX8_setIndex_4 rfl (x_bn (ib_ok kn_11 (by omega) (by omega))) ?_
  refine f_aload_n (M := mX8_setIndex) 8 dX8_setIndex_7 rfl rfl ?_
  refine f_iload_n (M := mX8_setIndex) 9 dX8_setIndex_8 rfl rfl ?_
  refine e_cV (M := mX8_setIndex) [_] 0 0 dX8_setIndex_9 pa_8161 pb_8161 cc_8161 rfl rfl rfl rfl rfl (x_kk rfl) (x_kk rfl) rfl (k_isSpecies H) rfl ?_
  refine e_if_eqF (M := mX8_setIndex) 19 dX8_setIndex_12 rfl (x_bn (in_ok hn (by omega) hs)) ?_
  refine f_iconst (M := mX8_setIndex) 16 dX8_setIndex_15 ki_1 rfl ?_
  refine f_goto (M := mX8_setIndex) 20 dX8_setIndex_16 rfl ?_
  refine e_cS (M := mX8_setIndex) [] 1 6 dX8_setIndex_20 pa_8103 cc_8103 rfl rfl rfl rfl rfl (x_kk rfl) (x_kk rfl) rfl (c_X8_requireExisting (by decide)) rfl ?_
  refine f_iload_n (M := mX8_setIndex) 24 dX8_setIndex_23 rfl rfl ?_
  refine f_iconst (M := mX8_setIndex) 25 dX8_setIndex_24 ki_1 rfl ?_
  refine f_sipush (M := mX8_setIndex) 28 dX8_setIndex_25 ks_10000 rfl ?_
  refine e_cS (M := mX8_setIndex) [_] 1 6 dX8_setIndex_28 pa_8049 cc_8049 rfl rfl rfl rfl rfl (x_kk rfl) (x_kk rfl) rfl (c_X8_isIn (lo := 1) (hi := 10000)) rfl ?_
  refine e_cS (M := mX8_setIndex) [] 2 12 dX8_setIndex_31 pa_8053 cc_8053 rfl rfl rfl rfl rfl (x_kk rfl) (x_kk rfl) rfl (c_X8_requireArgument (x_bn h2)) rfl ?_
  refine f_aload_n (M := mX8_setIndex) 35 dX8_setIndex_34 rfl rfl ?_
  refine e_getR (M := mX8_setIndex) dX8_setIndex_35 fl_8026 (x_kk rfl) (x_kk rfl) rfl hS ?_
  refine e_getI (M := mX8_setIndex) dX8_setIndex_38 fl_8067 (x_kk rfl) (sl_lt hβ 0 rfl) (sl_s hβ 0 rfl rfl) ?_
  refine f_iconst (M := mX8_setIndex) 42 dX8_setIndex_41 ki_3 rfl ?_
  refine e_icmp_neT (M := mX8_setIndex) 49 dX8_setIndex_42 rfl (by rw [h_ph H]; exact h3) ?_
  refine f_iconst (M := mX8_setIndex) 50 dX8_setIndex_49 ki_0 rfl ?_
  exact e_cSX (M := mX8_setIndex) 3 18 dX8_setIndex_50 pa_8037 cc_8037 rfl rfl rfl rfl rfl (x_kk rfl) (x_kk rfl) rfl (c_X8_requireState_x rfl) rfl
theorem mf_setIndex_0 (hR : x_wf R) {Ns Np Nl Nm : Nat} (Z : y_Z (I 226) Ns Np Nl Nm) {u : Int32} {v : Int32} {w : Int32} (h0 : ¬ (0 ≤ u ∧ u ≤ 11)) : x_Cv X mX9_setIndex [.ref 225, .int u, .int v, .int w] (I, L, R) 233 (.inl none, (x_tw I 1, L, R), 233) := by
  obtain ⟨hNs, hn, hNp, hp, hNl, hl, hNm, hmm⟩ := Z
  show x_Ev X mX9_setIndex 0 [some (.ref 225), some (.int u), some (.int v), some (.int w)] [] ((I, L, R), 233, 0, 0) _
  refine f_aload_n (M := mX9_setIndex) 1 dX9_setIndex_0 rfl rfl ?_
  refine f_iload_n (M := mX9_setIndex) 2 dX9_setIndex_1 rfl rfl ?_
  refine f_i2l (M := mX9_setIndex) 3 dX9_setIndex_2 rfl ?_
  refine f_lconst (M := mX9_setIndex) 4 dX9_setIndex_3 kl_0 rfl ?_
  refine f_ldc2 (M := mX9_setIndex) 7 dX9_setIndex_4 (x_kk rfl) csl_9239 rfl ?_
  refine e_cS (M := mX9_setIndex) [_, _] 0 0 dX9_setIndex_7 pa_9074 cc_9074 rfl rfl rfl rfl rfl (x_kk rfl) (x_kk rfl) rfl (c_X9_isInI (lo := 0) (hi := 11)) rfl ?_
  refine e_if_eqT (M := mX9_setIndex) 21 dX9_setIndex_10 rfl (x_b0 h0) ?_
  refine f_iconst (M := mX9_setIndex) 22 dX9_setIndex_21 ki_1 rfl ?_
  refine f_goto (M := mX9_setIndex) 56 dX9_setIndex_22 rfl ?_
  refine e_putI (M := mX9_setIndex) dX9_setIndex_56 fl_9033 (x_kk rfl) (x_kk rfl) rfl (fun q9 => Bool.noConfusion q9) ?_
  refine f_aload_n (M := mX9_setIndex) 60 dX9_setIndex_59 rfl rfl ?_
  refine e_getI (M := mX9_setIndex) dX9_setIndex_60 fl_9033 (x_kk rfl) (x_kk rfl) rfl ?_
  refine e_if_leF (M := mX9_setIndex) 67 dX9_setIndex_63 rfl (show ¬ ((1 : Int32) ≤ 0) by decide) ?_
  refine e_rv (M := mX9_setIndex) dX9_setIndex_66 rfl (x_kk rfl) (x_kk rfl) ?_
  rfl
theorem mf_setIndex_1 (hR : x_wf R) {Ns Np Nl Nm : Nat} (Z : y_Z (I 226) Ns Np Nl Nm) {v : Int32} {w : Int32} {Q : Nat} (hQ : Q < 12) (h1 : ¬ (0 ≤ v ∧ v ≤ I 226 8 - 1)) : x_Cv X mX9_setIndex [.ref 225, .int (Int32.ofNat Q), .int v, .int w] (I, L, R) 233 (.inl none, (x_tw I 1, L, R), 233) := by
  obtain ⟨hNs, hn, hNp, hp, hNl, hl, hNm, hmm⟩ := Z
  show x_Ev X mX9_setIndex 0 [some (.ref 225), some (.int (Int32.ofNat Q)), some (.int v), some (.int w)] [] ((I, L, R), 233, 0, 0) _
  refine f_aload_n (M := mX9_setIndex) 1 dX9_setIndex_0 rfl rfl ?_
  refine f_iload_n (M := mX9_setIndex) 2 dX9_setIndex_1 rfl rfl ?_
  refine f_i2l (M := mX9_setIndex) 3 dX9_setIndex_2 rfl ?_
  refine f_lconst (M := mX9_setIndex) 4 dX9_setIndex_3 kl_0 rfl ?_
  refine f_ldc2 (M := mX9_setIndex) 7 dX9_setIndex_4 (x_kk rfl) csl_9239 rfl ?_
  refine e_cS (M := mX9_setIndex) [_, _] 0 0 dX9_setIndex_7 pa_9074 cc_9074 rfl rfl rfl rfl rfl (x_kk rfl) (x_kk rfl) rfl (c_X9_isInI (lo := 0) (hi := 11)) rfl ?_
  refine e_if_eqF (M := mX9_setIndex) 21 dX9_setIndex_10 rfl (x_bn (ib_ok kn_11 (by omega) (by omega))) ?_
  refine f_aload_n (M := mX9_setIndex) 14 dX9_setIndex_13 rfl rfl ?_
  refine f_iload_n (M := mX9_setIndex) 15 dX9_setIndex_14 rfl rfl ?_
  refine e_cV (M := mX9_setIndex) [_, _] 0 0 dX9_setIndex_15 pa_9137 pb_9137 cc_9137 rfl rfl rfl rfl rfl (x_kk rfl) (x_kk rfl) rfl (c_X9_isSpecies hR) rfl ?_
  refine e_if_neF (M := mX9_setIndex) 25 dX9_setIndex_18 rfl (x_bnn h1) ?_
  refine f_iconst (M := mX9_setIndex) 22 dX9_setIndex_21 ki_1 rfl ?_
  refine f_goto (M := mX9_setIndex) 56 dX9_setIndex_22 rfl ?_
  refine e_putI (M := mX9_setIndex) dX9_setIndex_56 fl_9033 (x_kk rfl) (x_kk rfl) rfl (fun q9 => Bool.noConfusion q9) ?_
  refine f_aload_n (M := mX9_setIndex) 60 dX9_setIndex_59 rfl rfl ?_
  refine e_getI (M := mX9_setIndex) dX9_setIndex_60 fl_9033 (x_kk rfl) (x_kk rfl) rfl ?_
  refine e_if_leF (M := mX9_setIndex) 67 dX9_setIndex_63 rfl (show ¬ ((1 : Int32) ≤ 0) by decide) ?_
  refine e_rv (M := mX9_setIndex) dX9_setIndex_66 rfl (x_kk rfl) (x_kk rfl) ?_
  rfl
theorem mf_setIndex_2 (hR : x_wf R) {Ns Np Nl Nm : Nat} (Z : y_Z (I 226) Ns Np Nl Nm) {w : Int32} {Q : Nat} (hQ : Q < 12) {s : Nat} (hs : s < Ns) (h2 : ¬ (1 ≤ w ∧ w ≤ 10000)) : x_Cv X mX9_setIndex [.ref 225, .int (Int32.ofNat Q), .int (Int32.ofNat s), .int w] (I, L, R) 233 (.inl none, (x_tw I 2, L, R), 233) := by
  obtain ⟨hNs, hn, hNp, hp, hNl, hl, hNm, hmm⟩ := Z
  show x_Ev X mX9_setIndex 0 [some (.ref 225), some (.int (Int32.ofNat Q)), some (.int (Int32.ofNat s)), some (.int w)] [] ((I, L, R), 233, 0, 0) _
  refine f_aload_n (M := mX9_setIndex) 1 dX9_setIndex_0 rfl rfl ?_
  refine f_iload_n (M := mX9_setIndex) 2 dX9_setIndex_1 rfl rfl ?_
  refine f_i2l (M := mX9_setIndex) 3 dX9_setIndex_2 rfl ?_
  refine f_lconst (M := mX9_setIndex) 4 dX9_setIndex_3 kl_0 rfl ?_
  refine f_ldc2 (M := mX9_setIndex) 7 dX9_setIndex_4 (x_kk rfl) csl_9239 rfl ?_
  refine e_cS (M := mX9_setIndex) [_, _] 0 0 dX9_setIndex_7 pa_9074 cc_9074 rfl rfl rfl rfl rfl (x_kk rfl) (x_kk rfl) rfl (c_X9_isInI (lo := 0) (hi := 11)) rfl ?_
  refine e_if_eqF (M := mX9_setIndex) 21 dX9_setIndex_10 rfl (x_bn (ib_ok kn_11 (by omega) (by omega))) ?_
  refine f_aload_n (M := mX9_setIndex) 14 dX9_setIndex_13 rfl rfl ?_
  refine f_iload_n (M := mX9_setIndex) 15 dX9_setIndex_14 rfl rfl ?_
  refine e_cV (M := mX9_setIndex) [_, _] 0 0 dX9_setIndex_15 pa_9137 pb_9137 cc_9137 rfl rfl rfl rfl rfl (x_kk rfl) (x_kk rfl) rfl (c_X9_isSpecies hR) rfl ?_
  refine e_if_neT (M := mX9_setIndex) 25 dX9_setIndex_18 rfl (x_bn (in_ok hn (by omega) hs)) ?_
  refine f_iload_n (M := mX9_setIndex) 26 dX9_setIndex_25 rfl rfl ?_
  refine f_i2l (M := mX9_setIndex) 27 dX9_setIndex_26 rfl ?_
  refine f_lconst (M := mX9_setIndex) 28 dX9_setIndex_27 kl_1 rfl ?_
  refine f_ldc2 (M := mX9_setIndex) 31 dX9_setIndex_28 (x_kk rfl) csl_9241 rfl ?_
  refine e_cS (M := mX9_setIndex) [_, _] 0 0 dX9_setIndex_31 pa_9074 cc_9074 rfl rfl rfl rfl rfl (x_kk rfl) (x_kk rfl) rfl (c_X9_isInI (lo := 1) (hi := 10000)) rfl ?_
  refine e_if_neF (M := mX9_setIndex) 41 dX9_setIndex_34 rfl (x_bnn h2) ?_
  refine f_iconst (M := mX9_setIndex) 38 dX9_setIndex_37 ki_2 rfl ?_
  refine f_goto (M := mX9_setIndex) 56 dX9_setIndex_38 rfl ?_
  refine e_putI (M := mX9_setIndex) dX9_setIndex_56 fl_9033 (x_kk rfl) (x_kk rfl) rfl (fun q9 => Bool.noConfusion q9) ?_
  refine f_aload_n (M := mX9_setIndex) 60 dX9_setIndex_59 rfl rfl ?_
  refine e_getI (M := mX9_setIndex) dX9_setIndex_60 fl_9033 (x_kk rfl) (x_kk rfl) rfl ?_
  refine e_if_leF (M := mX9_setIndex) 67 dX9_setIndex_63 rfl (show ¬ ((2 : Int32) ≤ 0) by decide) ?_
  refine e_rv (M := mX9_setIndex) dX9_setIndex_66 rfl (x_kk rfl) (x_kk rfl) ?_
  rfl
theorem mf_setIndex_3 (hR : x_wf R) {Ns Np Nl Nm : Nat} (Z : y_Z (I 226) Ns Np Nl Nm) {w : Int32} {Q : Nat} (hQ : Q < 12) {s : Nat} (hs : s < Ns) (h2 : 1 ≤ w ∧ w ≤ 10000) (h3 : ¬ (I 226 0 = 3)) : x_Cv X mX9_setIndex [.ref 225, .int (Int32.ofNat Q), .int (Int32.ofNat s), .int w] (I, L, R) 233 (.inl none, (x_tw I 3, L, R), 233) := by
  obtain ⟨hNs, hn, hNp, hp, hNl, hl, hNm, hmm⟩ := Z
  show x_Ev X mX9_setIndex 0 [some (.ref 225), some (.int (Int32.ofNat Q)), some (.int (Int32.ofNat s)), some (.int w)] [] ((I, L, R), 233, 0, 0) _
  refine f_aload_n (M := mX9_setIndex) 1 dX9_setIndex_0 rfl rfl ?_
  refine f_iload_n (M := mX9_setIndex) 2 dX9_setIndex_1 rfl rfl ?_
  refine f_i2l (M := mX9_setIndex) 3 dX9_setIndex_2 rfl ?_
  refine f_lconst (M := mX9_setIndex) 4 dX9_setIndex_3 kl_0 rfl ?_
  refine f_ldc2 (M := mX9_setIndex) 7 dX9_setIndex_4 (x_kk rfl) csl_9239 rfl ?_
  refine e_cS (M := mX9_setIndex) [_, _] 0 0 dX9_setIndex_7 pa_9074 cc_9074 rfl rfl rfl rfl rfl (x_kk rfl) (x_kk rfl) rfl (c_X9_isInI (lo := 0) (hi := 11)) rfl ?_
  refine e_if_eqF (M := mX9_setIndex) 21 dX9_setIndex_10 rfl (x_bn (ib_ok kn_11 (by omega) (by omega))) ?_
  refine f_aload_n (M := mX9_setIndex) 14 dX9_setIndex_13 rfl rfl ?_
  refine f_iload_n (M := mX9_setIndex) 15 dX9_setIndex_14 rfl rfl ?_
  refine e_cV (M := mX9_setIndex) [_, _] 0 0 dX9_setIndex_15 pa_9137 pb_9137 cc_9137 rfl rfl rfl rfl rfl (x_kk rfl) (x_kk rfl) rfl (c_X9_isSpecies hR) rfl ?_
  refine e_if_neT (M := mX9_setIndex) 25 dX9_setIndex_18 rfl (x_bn (in_ok hn (by omega) hs)) ?_
  refine f_iload_n (M := mX9_setIndex) 26 dX9_setIndex_25 rfl rfl ?_
  refine f_i2l (M := mX9_setIndex) 27 dX9_setIndex_26 rfl ?_
  refine f_lconst (M := mX9_setIndex) 28 dX9_setIndex_27 kl_1 rfl ?_
  refine f_ldc2 (M := mX9_setIndex) 31 dX9_setIndex_28 (x_kk rfl) csl_9241 rfl ?_
  refine e_cS (M := mX9_setIndex) [_, _] 0 0 dX9_setIndex_31 pa_9074 cc_9074 rfl rfl rfl rfl rfl (x_kk rfl) (x_kk rfl) rfl (c_X9_isInI (lo := 1) (hi := 10000)) rfl ?_
  refine e_if_neT (M := mX9_setIndex) 41 dX9_setIndex_34 rfl (x_bn h2) ?_
  refine f_aload_n (M := mX9_setIndex) 42 dX9_setIndex_41 rfl rfl ?_
  refine e_getR (M := mX9_setIndex) dX9_setIndex_42 fl_9007 (x_kk rfl) (x_kk rfl) rfl (wf_9_0 hR) ?_
  refine f_iconst (M := mX9_setIndex) 46 dX9_setIndex_45 ki_0 rfl ?_
  refine e_ild (M := mX9_setIndex) (w := 606) (j := 0) dX9_setIndex_46 (x_kk rfl) rfl kn_0 (by omega) (by omega) ?_
  refine f_iconst (M := mX9_setIndex) 48 dX9_setIndex_47 ki_3 rfl ?_
  refine e_icmp_eqF (M := mX9_setIndex) 55 dX9_setIndex_48 rfl h3 ?_
  refine f_iconst (M := mX9_setIndex) 52 dX9_setIndex_51 ki_3 rfl ?_
  refine f_goto (M := mX9_setIndex) 56 dX9_setIndex_52 rfl ?_
  refine e_putI (M := mX9_setIndex) dX9_setIndex_56 fl_9033 (x_kk rfl) (x_kk rfl) rfl (fun q9 => Bool.noConfusion q9) ?_
  refine f_aload_n (M := mX9_setIndex) 60 dX9_setIndex_59 rfl rfl ?_
  refine e_getI (M := mX9_setIndex) dX9_setIndex_60 fl_9033 (x_kk rfl) (x_kk rfl) rfl ?_
  refine e_if_leF (M := mX9_setIndex) 67 dX9_setIndex_63 rfl (show ¬ ((3 : Int32) ≤ 0) by decide) ?_
  refine e_rv (M := mX9_setIndex) dX9_setIndex_66 rfl (x_kk rfl) (x_kk rfl) ?_
  rfl
theorem kf_rate_0 {N β : Nat} {a : Nat → Int32} {b : Nat → Int64} (H : y_CS N I L R β a b) {Ns Np Nl Nm : Nat} (Z : y_Z a Ns Np Nl Nm) {v : Int32} {u : Int32} (h0 : ¬ (0 ≤ v ∧ v ≤ a 8 - 1)) : x_Cv X mX8_rate [.ref 0, .int v, .int u] (I, L, R) 233 (.inr 2, (I, L, R), 233) := by
  obtain ⟨hNs, hn, hNp, hp, hNl, hl, hNm, hmm⟩ := Z
  have hR := h_R H
  have hβ := h_β H
  have hS := h_S H
  show x_Ev X mX8_rate 0 [some (.ref 0), some (.int v), some (.int u)] [] ((I, L, R), 233, 0, 0) _
  refine f_aload_n (M := mX8_rate) 1 dX8_rate_0 rfl rfl ?_
  refine f_iload_n (M := mX8_rate) 2 dX8_rate_1 rfl rfl ?_
  refine e_cV (M := mX8_rate) [_] 0 0 dX8_rate_2 pa_8161 pb_8161 cc_8161 rfl rfl rfl rfl rfl (x_kk rfl) (x_kk rfl) rfl (k_isSpecies H) rfl ?_
  refine e_if_eqT (M := mX8_rate) 19 dX8_rate_5 rfl (x_b0 h0) ?_
  refine f_iconst (M := mX8_rate) 20 dX8_rate_19 ki_0 rfl ?_
  exact e_cSX (M := mX8_rate) 1 6 dX8_rate_20 pa_8103 cc_8103 rfl rfl rfl rfl rfl (x_kk rfl) (x_kk rfl) rfl (c_X8_requireExisting_x rfl) rfl
theorem kf_rate_1 {N β : Nat} {a : Nat → Int32} {b : Nat → Int64} (H : y_CS N I L R β a b) {Ns Np Nl Nm : Nat} (Z : y_Z a Ns Np Nl Nm) {u : Int32} {s : Nat} (hs : s < Ns) (h1 : ¬ (0 ≤ u ∧ u ≤ 11)) : x_Cv X mX8_rate [.ref 0, .int (Int32.ofNat s), .int u] (I, L, R) 233 (.inr 2, (I, L, R), 233) := by
  obtain ⟨hNs, hn, hNp, hp, hNl, hl, hNm, hmm⟩ := Z
  have hR := h_R H
  have hβ := h_β H
  have hS := h_S H
  show x_Ev X mX8_rate 0 [some (.ref 0), some (.int (Int32.ofNat s)), some (.int u)] [] ((I, L, R), 233, 0, 0) _
  refine f_aload_n (M := mX8_rate) 1 dX8_rate_0 rfl rfl ?_
  refine f_iload_n (M := mX8_rate) 2 dX8_rate_1 rfl rfl ?_
  refine e_cV (M := mX8_rate) [_] 0 0 dX8_rate_2 pa_8161 pb_8161 cc_8161 rfl rfl rfl rfl rfl (x_kk rfl) (x_kk rfl) rfl (k_isSpecies H) rfl ?_
  refine e_if_eqF (M := mX8_rate) 19 dX8_rate_5 rfl (x_bn (in_ok hn (by omega) hs)) ?_
  refine f_iload_n (M := mX8_rate) 9 dX8_rate_8 rfl rfl ?_
  refine e_cS (M := mX8_rate) [_] 0 0 dX8_rate_9 pa_8224 cc_8224 rfl rfl rfl rfl rfl (x_kk rfl) (x_kk rfl) rfl (c_X8_isQuarter) rfl ?_
  refine e_if_eqT (M := mX8_rate) 19 dX8_rate_12 rfl (x_b0 h1) ?_
  refine f_iconst (M := mX8_rate) 20 dX8_rate_19 ki_0 rfl ?_
  exact e_cSX (M := mX8_rate) 1 6 dX8_rate_20 pa_8103 cc_8103 rfl rfl rfl rfl rfl (x_kk rfl) (x_kk rfl) rfl (c_X8_requireExisting_x rfl) rfl
theorem kf_rate_2 {N β : Nat} {a : Nat → Int32} {b : Nat → Int64} (H : y_CS N I L R β a b) {Ns Np Nl Nm : Nat} (Z : y_Z a Ns Np Nl Nm) {s : Nat} (hs : s < Ns) {Q : Nat} (hQ : Q < 12) (h2 : ¬ (3 ≤ a 0)) : x_Cv X mX8_rate [.ref 0, .int (Int32.ofNat s), .int (Int32.ofNat Q)] (I, L, R) 233 (.inr 0, (I, L, R), 233) := by
  obtain ⟨hNs, hn, hNp, hp, hNl, hl, hNm, hmm⟩ := Z
  have hR := h_R H
  have hβ := h_β H
  have hS := h_S H
  show x_Ev X mX8_rate 0 [some (.ref 0), some (.int (Int32.ofNat s)), some (.int (Int32.ofNat Q))] [] ((I, L, R), 233, 0, 0) _
  refine f_aload_n (M := mX8_rate) 1 dX8_rate_0 rfl rfl ?_
  refine f_iload_n (M := mX8_rate) 2 dX8_rate_1 rfl rfl ?_
  refine e_cV (M := mX8_rate) [_] 0 0 dX8_rate_2 pa_8161 pb_8161 cc_8161 rfl rfl rfl rfl rfl (x_kk rfl) (x_kk rfl) rfl (k_isSpecies H) rfl ?_
  refine e_if_eqF (M := mX8_rate) 19 dX8_rate_5 rfl (x_bn (in_ok hn (by omega) hs)) ?_
  refine f_iload_n (M := mX8_rate) 9 dX8_rate_8 rfl rfl ?_
  refine e_cS (M := mX8_rate) [_] 0 0 dX8_rate_9 pa_8224 cc_8224 rfl rfl rfl rfl rfl (x_kk rfl) (x_kk rfl) rfl (c_X8_isQuarter) rfl ?_
  refine e_if_eqF (M := mX8_rate) 19 dX8_rate_12 rfl (x_bn (ib_ok kn_11 (by omega) (by omega))) ?_
  refine f_iconst (M := mX8_rate) 16 dX8_rate_15 ki_1 rfl ?_
  refine f_goto (M := mX8_rate) 20 dX8_rate_16 rfl ?_
  refine e_cS (M := mX8_rate) [] 1 6 dX8_rate_20 pa_8103 cc_8103 rfl rfl rfl rfl rfl (x_kk rfl) (x_kk rfl) rfl (c_X8_requireExisting (by decide)) rfl ?_
  refine f_aload_n (M := mX8_rate) 24 dX8_rate_23 rfl rfl ?_
  refine e_getR (M := mX8_rate) dX8_rate_24 fl_8026 (x_kk rfl) (x_kk rfl) rfl hS ?_
  refine e_cV (M := mX8_rate) [_] 1 6 dX8_rate_27 pa_8236 pb_8236 cc_8236 rfl rfl rfl rfl rfl (x_kk rfl) (x_kk rfl) (x_rcvOK (sl_lt hβ 0 rfl) (sl_s hβ 0 rfl rfl) rfl) (k_hasContract H) rfl ?_
  exact e_cSX (M := mX8_rate) 2 12 dX8_rate_30 pa_8037 cc_8037 rfl rfl rfl rfl rfl (x_kk rfl) (x_kk rfl) rfl (c_X8_requireState_x (x_b0 h2)) rfl
theorem mf_rate_0 (hR : x_wf R) {Ns Np Nl Nm : Nat} (Z : y_Z (I 226) Ns Np Nl Nm) {v : Int32} {u : Int32} (h0 : ¬ (0 ≤ v ∧ v ≤ I 226 8 - 1)) : x_Cv X mX9_rate [.ref 225, .int v, .int u] (I, L, R) 233 (.inl (some (.int (0))), (x_tw I 1, L, R), 233) := by
  obtain ⟨hNs, hn, hNp, hp, hNl, hl, hNm, hmm⟩ := Z
  show x_Ev X mX9_rate 0 [some (.ref 225), some (.int v), some (.int u)] [] ((I, L, R), 233, 0, 0) _
  refine f_aload_n (M := mX9_rate) 1 dX9_rate_0 rfl rfl ?_
  refine f_aload_n (M := mX9_rate) 2 dX9_rate_1 rfl rfl ?_
  refine f_iload_n (M := mX9_rate) 3 dX9_rate_2 rfl rfl ?_
  refine e_cV (M := mX9_rate) [_, _] 0 0 dX9_rate_3 pa_9137 pb_9137 cc_9137 rfl rfl rfl rfl rfl (x_kk rfl) (x_kk rfl) rfl (c_X9_isSpecies hR) rfl ?_
  refine e_if_eqT (M := mX9_rate) 21 dX9_rate_6 rfl (x_b0 h0) ?_
  refine f_iconst (M := mX9_rate) 22 dX9_rate_21 ki_1 rfl ?_
  refine f_goto (M := mX9_rate) 40 dX9_rate_22 rfl ?_
  refine e_putI (M := mX9_rate) dX9_rate_40 fl_9033 (x_kk rfl) (x_kk rfl) rfl (fun q9 => Bool.noConfusion q9) ?_
  refine f_aload_n (M := mX9_rate) 44 dX9_rate_43 rfl rfl ?_
  refine e_getI (M := mX9_rate) dX9_rate_44 fl_9033 (x_kk rfl) (x_kk rfl) rfl ?_
  refine e_if_leF (M := mX9_rate) 54 dX9_rate_47 rfl (show ¬ ((1 : Int32) ≤ 0) by decide) ?_
  refine f_iconst (M := mX9_rate) 51 dX9_rate_50 ki_0 rfl ?_
  refine f_goto (M := mX9_rate) 60 dX9_rate_51 rfl ?_
  refine e_ri (M := mX9_rate) dX9_rate_60 rfl (x_kk rfl) (x_kk rfl) ?_
  rfl
theorem mf_rate_1 (hR : x_wf R) {Ns Np Nl Nm : Nat} (Z : y_Z (I 226) Ns Np Nl Nm) {u : Int32} {s : Nat} (hs : s < Ns) (h1 : ¬ (0 ≤ u ∧ u ≤ 11)) : x_Cv X mX9_rate [.ref 225, .int (Int32.ofNat s), .int u] (I, L, R) 233 (.inl (some (.int (0))), (x_tw I 1, L, R), 233) := by
  obtain ⟨hNs, hn, hNp, hp, hNl, hl, hNm, hmm⟩ := Z
  show x_Ev X mX9_rate 0 [some (.ref 225), some (.int (Int32.ofNat s)), some (.int u)] [] ((I, L, R), 233, 0, 0) _
  refine f_aload_n (M := mX9_rate) 1 dX9_rate_0 rfl rfl ?_
  refine f_aload_n (M := mX9_rate) 2 dX9_rate_1 rfl rfl ?_
  refine f_iload_n (M := mX9_rate) 3 dX9_rate_2 rfl rfl ?_
  refine e_cV (M := mX9_rate) [_, _] 0 0 dX9_rate_3 pa_9137 pb_9137 cc_9137 rfl rfl rfl rfl rfl (x_kk rfl) (x_kk rfl) rfl (c_X9_isSpecies hR) rfl ?_
  refine e_if_eqF (M := mX9_rate) 21 dX9_rate_6 rfl (x_bn (in_ok hn (by omega) hs)) ?_
  refine f_iload_n (M := mX9_rate) 10 dX9_rate_9 rfl rfl ?_
  refine f_i2l (M := mX9_rate) 11 dX9_rate_10 rfl ?_
  refine f_lconst (M := mX9_rate) 12 dX9_rate_11 kl_0 rfl ?_
  refine f_ldc2 (M := mX9_rate) 15 dX9_rate_12 (x_kk rfl) csl_9239 rfl ?_
  refine e_cS (M := mX9_rate) [_, _] 0 0 dX9_rate_15 pa_9074 cc_9074 rfl rfl rfl rfl rfl (x_kk rfl) (x_kk rfl) rfl (c_X9_isInI (lo := 0) (hi := 11)) rfl ?_
  refine e_if_neF (M := mX9_rate) 25 dX9_rate_18 rfl (x_bnn h1) ?_
  refine f_iconst (M := mX9_rate) 22 dX9_rate_21 ki_1 rfl ?_
  refine f_goto (M := mX9_rate) 40 dX9_rate_22 rfl ?_
  refine e_putI (M := mX9_rate) dX9_rate_40 fl_9033 (x_kk rfl) (x_kk rfl) rfl (fun q9 => Bool.noConfusion q9) ?_
  refine f_aload_n (M := mX9_rate) 44 dX9_rate_43 rfl rfl ?_
  refine e_getI (M := mX9_rate) dX9_rate_44 fl_9033 (x_kk rfl) (x_kk rfl) rfl ?_
  refine e_if_leF (M := mX9_rate) 54 dX9_rate_47 rfl (show ¬ ((1 : Int32) ≤ 0) by decide) ?_
  refine f_iconst (M := mX9_rate) 51 dX9_rate_50 ki_0 rfl ?_
  refine f_goto (M := mX9_rate) 60 dX9_rate_51 rfl ?_
  refine e_ri (M := mX9_rate) dX9_rate_60 rfl (x_kk rfl) (x_kk rfl) ?_
  rfl
theorem mf_rate_2 (hR : x_wf R) {Ns Np Nl Nm : Nat} (Z : y_Z (I 226) Ns Np Nl Nm) {s : Nat} (hs : s < Ns) {Q : Nat} (hQ : Q < 12) (h2 : ¬ (3 ≤ I 226 0)) : x_Cv X mX9_rate [.ref 225, .int (Int32.ofNat s), .int (Int32.ofNat Q)] (I, L, R) 233 (.inl (some (.int (0))), (x_tw I 2, L, R), 233) := by
  obtain ⟨hNs, hn, hNp, hp, hNl, hl, hNm, hmm⟩ := Z
  show x_Ev X mX9_rate 0 [some (.ref 225), some (.int (Int32.ofNat s)), some (.int (Int32.ofNat Q))] [] ((I, L, R), 233, 0, 0) _
  refine f_aload_n (M := mX9_rate) 1 dX9_rate_0 rfl rfl ?_
  refine f_aload_n (M := mX9_rate) 2 dX9_rate_1 rfl rfl ?_
  refine f_iload_n (M := mX9_rate) 3 dX9_rate_2 rfl rfl ?_
  refine e_cV (M := mX9_rate) [_, _] 0 0 dX9_rate_3 pa_9137 pb_9137 cc_9137 rfl rfl rfl rfl rfl (x_kk rfl) (x_kk rfl) rfl (c_X9_isSpecies hR) rfl ?_
  refine e_if_eqF (M := mX9_rate) 21 dX9_rate_6 rfl (x_bn (in_ok hn (by omega) hs)) ?_
  refine f_iload_n (M := mX9_rate) 10 dX9_rate_9 rfl rfl ?_
  refine f_i2l (M := mX9_rate) 11 dX9_rate_10 rfl ?_
  refine f_lconst (M := mX9_rate) 12 dX9_rate_11 kl_0 rfl ?_
  refine f_ldc2 (M := mX9_rate) 15 dX9_rate_12 (x_kk rfl) csl_9239 rfl ?_
  refine e_cS (M := mX9_rate) [_, _] 0 0 dX9_rate_15 pa_9074 cc_9074 rfl rfl rfl rfl rfl (x_kk rfl) (x_kk rfl) rfl (c_X9_isInI (lo := 0) (hi := 11)) rfl ?_
  refine e_if_neT (M := mX9_rate) 25 dX9_rate_18 rfl (x_bn (ib_ok kn_11 (by omega) (by omega))) ?_
  refine f_aload_n (M := mX9_rate) 26 dX9_rate_25 rfl rfl ?_
  refine e_getR (M := mX9_rate) dX9_rate_26 fl_9007 (x_kk rfl) (x_kk rfl) rfl (wf_9_0 hR) ?_
  refine f_iconst (M := mX9_rate) 30 dX9_rate_29 ki_0 rfl ?_
  refine e_ild (M := mX9_rate) (w := 606) (j := 0) dX9_rate_30 (x_kk rfl) rfl kn_0 (by omega) (by omega) ?_
  refine f_iconst (M := mX9_rate) 32 dX9_rate_31 ki_3 rfl ?_
  refine e_icmp_geF (M := mX9_rate) 39 dX9_rate_32 rfl h2 ?_
  refine f_iconst (M := mX9_rate) 36 dX9_rate_35 ki_2 rfl ?_
  refine f_goto (M := mX9_rate) 40 dX9_rate_36 rfl ?_
  refine e_putI (M := mX9_rate) dX9_rate_40 fl_9033 (x_kk rfl) (x_kk rfl) rfl (fun q9 => Bool.noConfusion q9) ?_
  refine f_aload_n (M := mX9_rate) 44 dX9_rate_43 rfl rfl ?_
  refine e_getI (M := mX9_rate) dX9_rate_44 fl_9033 (x_kk rfl) (x_kk rfl) rfl ?_
  refine e_if_leF (M := mX9_rate) 54 dX9_rate_47 rfl (show ¬ ((2 : Int32) ≤ 0) by decide) ?_
  refine f_iconst (M := mX9_rate) 51 dX9_rate_50 ki_0 rfl ?_
  refine f_goto (M := mX9_rate) 60 dX9_rate_51 rfl ?_
  refine e_ri (M := mX9_rate) dX9_rate_60 rfl (x_kk rfl) (x_kk rfl) ?_
  rfl
theorem kf_indexFor_0 {N β : Nat} {a : Nat → Int32} {b : Nat → Int64} (H : y_CS N I L R β a b) {Ns Np Nl Nm : Nat} (Z : y_Z a Ns Np Nl Nm) {v : Int32} {w : Int32} (h0 : ¬ (0 ≤ v ∧ v ≤ a 8 - 1)) : x_Cv X mX8_indexFor [.ref 0, .int v, .int w] (I, L, R) 233 (.inr 2, (I, L, R), 233) := by
  obtain ⟨hNs, hn, hNp, hp, hNl, hl, hNm, hmm⟩ := Z
  have hR := h_R H
  have hβ := h_β H
  have hS := h_S H
  show x_Ev X mX8_indexFor 0 [some (.ref 0), some (.int v), some (.int w), none] [] ((I, L, R), 233, 0, 0) _
  refine f_aload_n (M := mX8_indexFor) 1 dX8_indexFor_0 rfl rfl ?_
  refine f_iload_n (M := mX8_indexFor) 2 dX8_indexFor_1 rfl rfl ?_
  refine e_cV (M := mX8_indexFor) [_] 0 0 dX8_indexFor_2 pa_8161 pb_8161 cc_8161 rfl rfl rfl rfl rfl (x_kk rfl) (x_kk rfl) rfl (k_isSpecies H) rfl ?_
  exact e_cSX (M := mX8_indexFor) 1 6 dX8_indexFor_5 pa_8103 cc_8103 rfl rfl rfl rfl rfl (x_kk rfl) (x_kk rfl) rfl (c_X8_requireExisting_x (x_b0 h0)) rfl
theorem kf_indexFor_1 {N β : Nat} {a : Nat → Int32} {b : Nat → Int64} (H : y_CS N I L R β a b) {Ns Np Nl Nm : Nat} (Z : y_Z a Ns Np Nl Nm) {w : Int32} {s : Nat} (hs : s < Ns) (h1 : ¬ (0 ≤ w ∧ w ≤ 1000000)) : x_Cv X mX8_indexFor [.ref 0, .int (Int32.ofNat s), .int w] (I, L, R) 233 (.inr 1, (I, L, R), 233) := by
  obtain ⟨hNs, hn, hNp, hp, hNl, hl, hNm, hmm⟩ := Z
  have hR := h_R H
  have hβ := h_β H
  have hS := h_S H
  show x_Ev X mX8_indexFor 0 [some (.ref 0), some (.int (Int32.ofNat s)), some (.int w), none] [] ((I, L, R), 233, 0, 0) _
  refine f_aload_n (M := mX8_indexFor) 1 dX8_indexFor_0 rfl rfl ?_
  refine f_iload_n (M := mX8_indexFor) 2 dX8_indexFor_1 rfl rfl ?_
  refine e_cV (M := mX8_indexFor) [_] 0 0 dX8_indexFor_2 pa_8161 pb_8161 cc_8161 rfl rfl rfl rfl rfl (x_kk rfl) (x_kk rfl) rfl (k_isSpecies H) rfl ?_
  refine e_cS (M := mX8_indexFor) [] 1 6 dX8_indexFor_5 pa_8103 cc_8103 rfl rfl rfl rfl rfl (x_kk rfl) (x_kk rfl) rfl (c_X8_requireExisting (x_bn (in_ok hn (by omega) hs))) rfl ?_
  refine f_iload_n (M := mX8_indexFor) 9 dX8_indexFor_8 rfl rfl ?_
  refine f_iconst (M := mX8_indexFor) 10 dX8_indexFor_9 ki_0 rfl ?_
  refine f_ldcI (M := mX8_indexFor) 12 dX8_indexFor_10 (x_kk rfl) cst_8167 rfl ?_
  refine e_cS (M := mX8_indexFor) [_] 1 6 dX8_indexFor_12 pa_8049 cc_8049 rfl rfl rfl rfl rfl (x_kk rfl) (x_kk rfl) rfl (c_X8_isIn (lo := 0) (hi := 1000000)) rfl ?_
  exact e_cSX (M := mX8_indexFor) 2 12 dX8_indexFor_15 pa_8053 cc_8053 rfl rfl rfl rfl rfl (x_kk rfl) (x_kk rfl) rfl (c_X8_requireArgument_x (x_b0 h1)) rfl
theorem kf_indexFor_2 {N β : Nat} {a : Nat → Int32} {b : Nat → Int64} (H : y_CS N I L R β a b) {Ns Np Nl Nm : Nat} (Z : y_Z a Ns Np Nl Nm) {w : Int32} {s : Nat} (hs : s < Ns) (h1 : 0 ≤ w ∧ w ≤ 1000000) (h2 : ¬ (3 ≤ a 0)) : x_Cv X mX8_indexFor [.ref 0, .int (Int32.ofNat s), .int w] (I, L, R) 233 (.inr 0, (I, L, R), 233) := by
  obtain ⟨hNs, hn, hNp, hp, hNl, hl, hNm, hmm⟩ := Z
  have hR := h_R H
  have hβ := h_β H
  have hS := h_S H
  show x_Ev X mX8_indexFor 0 [some (.ref 0), some (.int (Int32.ofNat s)), some (.int w), none] [] ((I, L, R), 233, 0, 0) _
  refine f_aload_n (M := mX8_indexFor) 1 dX8_indexFor_0 rfl rfl ?_
  refine f_iload_n (M := mX8_indexFor) 2 dX8_indexFor_1 rfl rfl ?_
  refine e_cV (M := mX8_indexFor) [_] 0 0 dX8_indexFor_2 pa_8161 pb_8161 cc_8161 rfl rfl rfl rfl rfl (x_kk rfl) (x_kk rfl) rfl (k_isSpecies H) rfl ?_
  refine e_cS (M := mX8_indexFor) [] 1 6 dX8_indexFor_5 pa_8103 cc_8103 rfl rfl rfl rfl rfl (x_kk rfl) (x_kk rfl) rfl (c_X8_requireExisting (x_bn (in_ok hn (by omega) hs))) rfl ?_
  refine f_iload_n (M := mX8_indexFor) 9 dX8_indexFor_8 rfl rfl ?_
  refine f_iconst (M := mX8_indexFor) 10 dX8_indexFor_9 ki_0 rfl ?_
  refine f_ldcI (M := mX8_indexFor) 12 dX8_indexFor_10 (x_kk rfl) cst_8167 rfl ?_
  refine e_cS (M := mX8_indexFor) [_] 1 6 dX8_indexFor_12 pa_8049 cc_8049 rfl rfl rfl rfl rfl (x_kk rfl) (x_kk rfl) rfl (c_X8_isIn (lo := 0) (hi := 1000000)) rfl ?_
  refine e_cS (M := mX8_indexFor) [] 2 12 dX8_indexFor_15 pa_8053 cc_8053 rfl rfl rfl rfl rfl (x_kk rfl) (x_kk rfl) rfl (c_X8_requireArgument (x_bn h1)) rfl ?_
  refine f_aload_n (M := mX8_indexFor) 19 dX8_indexFor_18 rfl rfl ?_
  refine e_getR (M := mX8_indexFor) dX8_indexFor_19 fl_8026 (x_kk rfl) (x_kk rfl) rfl hS ?_
  refine e_cV (M := mX8_indexFor) [_] 2 12 dX8_indexFor_22 pa_8236 pb_8236 cc_8236 rfl rfl rfl rfl rfl (x_kk rfl) (x_kk rfl) (x_rcvOK (sl_lt hβ 0 rfl) (sl_s hβ 0 rfl rfl) rfl) (k_hasContract H) rfl ?_
  exact e_cSX (M := mX8_indexFor) 3 18 dX8_indexFor_25 pa_8037 cc_8037 rfl rfl rfl rfl rfl (x_kk rfl) (x_kk rfl) rfl (c_X8_requireState_x (x_b0 h2)) rfl
theorem mf_indexFor_0 (hR : x_wf R) {Ns Np Nl Nm : Nat} (Z : y_Z (I 226) Ns Np Nl Nm) {v : Int32} {w : Int32} (h0 : ¬ (0 ≤ v ∧ v ≤ I 226 8 - 1)) : x_Cv X mX9_indexFor [.ref 225, .int v, .int w] (I, L, R) 233 (.inl (some (.int (0))), (x_tw I 1, L, R), 233) := by
  obtain ⟨hNs, hn, hNp, hp, hNl, hl, hNm, hmm⟩ := Z
  show x_Ev X mX9_indexFor 0 [some (.ref 225), some (.int v), some (.int w), none] [] ((I, L, R), 233, 0, 0) _
  refine f_aload_n (M := mX9_indexFor) 1 dX9_indexFor_0 rfl rfl ?_
  refine f_aload_n (M := mX9_indexFor) 2 dX9_indexFor_1 rfl rfl ?_
  refine f_iload_n (M := mX9_indexFor) 3 dX9_indexFor_2 rfl rfl ?_
  refine e_cV (M := mX9_indexFor) [_, _] 0 0 dX9_indexFor_3 pa_9137 pb_9137 cc_9137 rfl rfl rfl rfl rfl (x_kk rfl) (x_kk rfl) rfl (c_X9_isSpecies hR) rfl ?_
  refine e_if_neF (M := mX9_indexFor) 13 dX9_indexFor_6 rfl (x_bnn h0) ?_
  refine f_iconst (M := mX9_indexFor) 10 dX9_indexFor_9 ki_1 rfl ?_
  refine f_goto (M := mX9_indexFor) 44 dX9_indexFor_10 rfl ?_
  refine e_putI (M := mX9_indexFor) dX9_indexFor_44 fl_9033 (x_kk rfl) (x_kk rfl) rfl (fun q9 => Bool.noConfusion q9) ?_
  refine f_aload_n (M := mX9_indexFor) 48 dX9_indexFor_47 rfl rfl ?_
  refine e_getI (M := mX9_indexFor) dX9_indexFor_48 fl_9033 (x_kk rfl) (x_kk rfl) rfl ?_
  refine e_if_leF (M := mX9_indexFor) 56 dX9_indexFor_51 rfl (show ¬ ((1 : Int32) ≤ 0) by decide) ?_
  refine f_iconst (M := mX9_indexFor) 55 dX9_indexFor_54 ki_0 rfl ?_
  refine e_ri (M := mX9_indexFor) dX9_indexFor_55 rfl (x_kk rfl) (x_kk rfl) ?_
  rfl
theorem mf_indexFor_1 (hR : x_wf R) {Ns Np Nl Nm : Nat} (Z : y_Z (I 226) Ns Np Nl Nm) {w : Int32} {s : Nat} (hs : s < Ns) (h1 : ¬ (0 ≤ w ∧ w ≤ 1000000)) : x_Cv X mX9_indexFor [.ref 225, .int (Int32.ofNat s), .int w] (I, L, R) 233 (.inl (some (.int (0))), (x_tw I 2, L, R), 233) := by
  obtain ⟨hNs, hn, hNp, hp, hNl, hl, hNm, hmm⟩ := Z
  show x_Ev X mX9_indexFor 0 [some (.ref 225), some (.int (Int32.ofNat s)), some (.int w), none] [] ((I, L, R), 233, 0, 0) _
  refine f_aload_n (M := mX9_indexFor) 1 dX9_indexFor_0 rfl rfl ?_
  refine f_aload_n (M := mX9_indexFor) 2 dX9_indexFor_1 rfl rfl ?_
  refine f_iload_n (M := mX9_indexFor) 3 dX9_indexFor_2 rfl rfl ?_
  refine e_cV (M := mX9_indexFor) [_, _] 0 0 dX9_indexFor_3 pa_9137 pb_9137 cc_9137 rfl rfl rfl rfl rfl (x_kk rfl) (x_kk rfl) rfl (c_X9_isSpecies hR) rfl ?_
  refine e_if_neT (M := mX9_indexFor) 13 dX9_indexFor_6 rfl (x_bn (in_ok hn (by omega) hs)) ?_
  refine f_iload_n (M := mX9_indexFor) 14 dX9_indexFor_13 rfl rfl ?_
  refine f_i2l (M := mX9_indexFor) 15 dX9_indexFor_14 rfl ?_
  refine f_lconst (M := mX9_indexFor) 16 dX9_indexFor_15 kl_0 rfl ?_
  refine f_ldc2 (M := mX9_indexFor) 19 dX9_indexFor_16 (x_kk rfl) csl_9188 rfl ?_
  refine e_cS (M := mX9_indexFor) [_, _] 0 0 dX9_indexFor_19 pa_9074 cc_9074 rfl rfl rfl rfl rfl (x_kk rfl) (x_kk rfl) rfl (c_X9_isInI (lo := 0) (hi := 1000000)) rfl ?_
  refine e_if_neF (M := mX9_indexFor) 29 dX9_indexFor_22 rfl (x_bnn h1) ?_
  refine f_iconst (M := mX9_indexFor) 26 dX9_indexFor_25 ki_2 rfl ?_
  refine f_goto (M := mX9_indexFor) 44 dX9_indexFor_26 rfl ?_
  refine e_putI (M := mX9_indexFor) dX9_indexFor_44 fl_9033 (x_kk rfl) (x_kk rfl) rfl (fun q9 => Bool.noConfusion q9) ?_
  refine f_aload_n (M := mX9_indexFor) 48 dX9_indexFor_47 rfl rfl ?_
  refine e_getI (M := mX9_indexFor) dX9_indexFor_48 fl_9033 (x_kk rfl) (x_kk rfl) rfl ?_
  refine e_if_leF (M := mX9_indexFor) 56 dX9_indexFor_51 rfl (show ¬ ((2 : Int32) ≤ 0) by decide) ?_
  refine f_iconst (M := mX9_indexFor) 55 dX9_indexFor_54 ki_0 rfl ?_
  refine e_ri (M := mX9_indexFor) dX9_indexFor_55 rfl (x_kk rfl) (x_kk rfl) ?_
  rfl
theorem mf_indexFor_2 (hR : x_wf R) {Ns Np Nl Nm : Nat} (Z : y_Z (I 226) Ns Np Nl Nm) {w : Int32} {s : Nat} (hs : s < Ns) (h1 : 0 ≤ w ∧ w ≤ 1000000) (h2 : ¬ (3 ≤ I 226 0)) : x_Cv X mX9_indexFor [.ref 225, .int (Int32.ofNat s), .int w] (I, L, R) 233 (.inl (some (.int (0))), (x_tw I 3, L, R), 233) := by
  obtain ⟨hNs, hn, hNp, hp, hNl, hl, hNm, hmm⟩ := Z
  show x_Ev X mX9_indexFor 0 [some (.ref 225), some (.int (Int32.ofNat s)), some (.int w), none] [] ((I, L, R), 233, 0, 0) _
  refine f_aload_n (M := mX9_indexFor) 1 dX9_indexFor_0 rfl rfl ?_
  refine f_aload_n (M := mX9_indexFor) 2 dX9_indexFor_1 rfl rfl ?_
  refine f_iload_n (M := mX9_indexFor) 3 dX9_indexFor_2 rfl rfl ?_
  refine e_cV (M := mX9_indexFor) [_, _] 0 0 dX9_indexFor_3 pa_9137 pb_9137 cc_9137 rfl rfl rfl rfl rfl (x_kk rfl) (x_kk rfl) rfl (c_X9_isSpecies hR) rfl ?_
  refine e_if_neT (M := mX9_indexFor) 13 dX9_indexFor_6 rfl (x_bn (in_ok hn (by omega) hs)) ?_
  refine f_iload_n (M := mX9_indexFor) 14 dX9_indexFor_13 rfl rfl ?_
  refine f_i2l (M := mX9_indexFor) 15 dX9_indexFor_14 rfl ?_
  refine f_lconst (M := mX9_indexFor) 16 dX9_indexFor_15 kl_0 rfl ?_
  refine f_ldc2 (M := mX9_indexFor) 19 dX9_indexFor_16 (x_kk rfl) csl_9188 rfl ?_
  refine e_cS (M := mX9_indexFor) [_, _] 0 0 dX9_indexFor_19 pa_9074 cc_9074 rfl rfl rfl rfl rfl (x_kk rfl) (x_kk rfl) rfl (c_X9_isInI (lo := 0) (hi := 1000000)) rfl ?_
  refine e_if_neT (M := mX9_indexFor) 29 dX9_indexFor_22 rfl (x_bn h1) ?_
  refine f_aload_n (M := mX9_indexFor) 30 dX9_indexFor_29 rfl rfl ?_
  refine e_getR (M := mX9_indexFor) dX9_indexFor_30 fl_9007 (x_kk rfl) (x_kk rfl) rfl (wf_9_0 hR) ?_
  refine f_iconst (M := mX9_indexFor) 34 dX9_indexFor_33 ki_0 rfl ?_
  refine e_ild (M := mX9_indexFor) (w := 606) (j := 0) dX9_indexFor_34 (x_kk rfl) rfl kn_0 (by omega) (by omega) ?_
  refine f_iconst (M := mX9_indexFor) 36 dX9_indexFor_35 ki_3 rfl ?_
  refine e_icmp_geF (M := mX9_indexFor) 43 dX9_indexFor_36 rfl h2 ?_
  refine f_iconst (M := mX9_indexFor) 40 dX9_indexFor_39 ki_3 rfl ?_
  refine f_goto (M := mX9_indexFor) 44 dX9_indexFor_40 rfl ?_
  refine e_putI (M := mX9_indexFor) dX9_indexFor_44 fl_9033 (x_kk rfl) (x_kk rfl) rfl (fun q9 => Bool.noConfusion q9) ?_
  refine f_aload_n (M := mX9_indexFor) 48 dX9_indexFor_47 rfl rfl ?_
  refine e_getI (M := mX9_indexFor) dX9_indexFor_48 fl_9033 (x_kk rfl) (x_kk rfl) rfl ?_
  refine e_if_leF (M := mX9_indexFor) 56 dX9_indexFor_51 rfl (show ¬ ((3 : Int32) ≤ 0) by decide) ?_
  refine f_iconst (M := mX9_indexFor) 55 dX9_indexFor_54 ki_0 rfl ?_
  refine e_ri (M := mX9_indexFor) dX9_indexFor_55 rfl (x_kk rfl) (x_kk rfl) ?_
  rfl
theorem kf_remaining_0 {N β : Nat} {a : Nat → Int32} {b : Nat → Int64} (H : y_CS N I L R β a b) {Ns Np Nl Nm : Nat} (Z : y_Z a Ns Np Nl Nm) {v : Int32} (h0 : ¬ (0 ≤ v ∧ v ≤ a 8 - 1)) : x_Cv X mX8_remaining [.ref 0, .int v] (I, L, R) 233 (.inr 2, (I, L, R), 233) := by
  obtain ⟨hNs, hn, hNp, hp, hNl, hl, hNm, hmm⟩ := Z
  have hR := h_R H
  have hβ := h_β H
  have hS := h_S H
  show x_Ev X mX8_remaining 0 [some (.ref 0), some (.int v)] [] ((I, L, R), 233, 0, 0) _
  refine f_aload_n (M := mX8_remaining) 1 dX8_remaining_0 rfl rfl ?_
  refine f_iload_n (M := mX8_remaining) 2 dX8_remaining_1 rfl rfl ?_
  refine e_cV (M := mX8_remaining) [_] 0 0 dX8_remaining_2 pa_8161 pb_8161 cc_8161 rfl rfl rfl rfl rfl (x_kk rfl) (x_kk rfl) rfl (k_isSpecies H) rfl ?_
  exact e_cSX (M := mX8_remaining) 1 6 dX8_remaining_5 pa_8103 cc_8103 rfl rfl rfl rfl rfl (x_kk rfl) (x_kk rfl) rfl (c_X8_requireExisting_x (x_b0 h0)) rfl
theorem kf_remaining_1 {N β : Nat} {a : Nat → Int32} {b : Nat → Int64} (H : y_CS N I L R β a b) {Ns Np Nl Nm : Nat} (Z : y_Z a Ns Np Nl Nm) {s : Nat} (hs : s < Ns) (h1 : ¬ (3 ≤ a 0)) : x_Cv X mX8_remaining [.ref 0, .int (Int32.ofNat s)] (I, L, R) 233 (.inr 0, (I, L, R), 233) := by
  obtain ⟨hNs, hn, hNp, hp, hNl, hl, hNm, hmm⟩ := Z
  have hR := h_R H
  have hβ := h_β H
  have hS := h_S H
  show x_Ev X mX8_remaining 0 [some (.ref 0), some (.int (Int32.ofNat s))] [] ((I, L, R), 233, 0, 0) _
  refine f_aload_n (M := mX8_remaining) 1 dX8_remaining_0 rfl rfl ?_
  refine f_iload_n (M := mX8_remaining) 2 dX8_remaining_1 rfl rfl ?_
  refine e_cV (M := mX8_remaining) [_] 0 0 dX8_remaining_2 pa_8161 pb_8161 cc_8161 rfl rfl rfl rfl rfl (x_kk rfl) (x_kk rfl) rfl (k_isSpecies H) rfl ?_
  refine e_cS (M := mX8_remaining) [] 1 6 dX8_remaining_5 pa_8103 cc_8103 rfl rfl rfl rfl rfl (x_kk rfl) (x_kk rfl) rfl (c_X8_requireExisting (x_bn (in_ok hn (by omega) hs))) rfl ?_
  refine f_aload_n (M := mX8_remaining) 9 dX8_remaining_8 rfl rfl ?_
  refine e_getR (M := mX8_remaining) dX8_remaining_9 fl_8026 (x_kk rfl) (x_kk rfl) rfl hS ?_
  refine e_cV (M := mX8_remaining) [_] 1 6 dX8_remaining_12 pa_8236 pb_8236 cc_8236 rfl rfl rfl rfl rfl (x_kk rfl) (x_kk rfl) (x_rcvOK (sl_lt hβ 0 rfl) (sl_s hβ 0 rfl rfl) rfl) (k_hasContract H) rfl ?_
  exact e_cSX (M := mX8_remaining) 2 12 dX8_remaining_15 pa_8037 cc_8037 rfl rfl rfl rfl rfl (x_kk rfl) (x_kk rfl) rfl (c_X8_requireState_x (x_b0 h1)) rfl
theorem mf_remaining_0 (hR : x_wf R) {Ns Np Nl Nm : Nat} (Z : y_Z (I 226) Ns Np Nl Nm) {v : Int32} (h0 : ¬ (0 ≤ v ∧ v ≤ I 226 8 - 1)) : x_Cv X mX9_remaining [.ref 225, .int v] (I, L, R) 233 (.inl (some (.int (0))), (x_tw I 1, L, R), 233) := by
  obtain ⟨hNs, hn, hNp, hp, hNl, hl, hNm, hmm⟩ := Z
  show x_Ev X mX9_remaining 0 [some (.ref 225), some (.int v)] [] ((I, L, R), 233, 0, 0) _
  refine f_aload_n (M := mX9_remaining) 1 dX9_remaining_0 rfl rfl ?_
  refine f_aload_n (M := mX9_remaining) 2 dX9_remaining_1 rfl rfl ?_
  refine f_iload_n (M := mX9_remaining) 3 dX9_remaining_2 rfl rfl ?_
  refine e_cV (M := mX9_remaining) [_, _] 0 0 dX9_remaining_3 pa_9137 pb_9137 cc_9137 rfl rfl rfl rfl rfl (x_kk rfl) (x_kk rfl) rfl (c_X9_isSpecies hR) rfl ?_
  refine e_if_neF (M := mX9_remaining) 13 dX9_remaining_6 rfl (x_bnn h0) ?_
  refine f_iconst (M := mX9_remaining) 10 dX9_remaining_9 ki_1 rfl ?_
  refine f_goto (M := mX9_remaining) 28 dX9_remaining_10 rfl ?_
  refine e_putI (M := mX9_remaining) dX9_remaining_28 fl_9033 (x_kk rfl) (x_kk rfl) rfl (fun q9 => Bool.noConfusion q9) ?_
  refine f_aload_n (M := mX9_remaining) 32 dX9_remaining_31 rfl rfl ?_
  refine e_getI (M := mX9_remaining) dX9_remaining_32 fl_9033 (x_kk rfl) (x_kk rfl) rfl ?_
  refine e_if_leF (M := mX9_remaining) 42 dX9_remaining_35 rfl (show ¬ ((1 : Int32) ≤ 0) by decide) ?_
  refine f_iconst (M := mX9_remaining) 39 dX9_remaining_38 ki_0 rfl ?_
  refine f_goto (M := mX9_remaining) 47 dX9_remaining_39 rfl ?_
  refine e_ri (M := mX9_remaining) dX9_remaining_47 rfl (x_kk rfl) (x_kk rfl) ?_
  rfl
theorem mf_remaining_1 (hR : x_wf R) {Ns Np Nl Nm : Nat} (Z : y_Z (I 226) Ns Np Nl Nm) {s : Nat} (hs : s < Ns) (h1 : ¬ (3 ≤ I 226 0)) : x_Cv X mX9_remaining [.ref 225, .int (Int32.ofNat s)] (I, L, R) 233 (.inl (some (.int (0))), (x_tw I 2, L, R), 233) := by
  obtain ⟨hNs, hn, hNp, hp, hNl, hl, hNm, hmm⟩ := Z
  show x_Ev X mX9_remaining 0 [some (.ref 225), some (.int (Int32.ofNat s))] [] ((I, L, R), 233, 0, 0) _
  refine f_aload_n (M := mX9_remaining) 1 dX9_remaining_0 rfl rfl ?_
  refine f_aload_n (M := mX9_remaining) 2 dX9_remaining_1 rfl rfl ?_
  refine f_iload_n (M := mX9_remaining) 3 dX9_remaining_2 rfl rfl ?_
  refine e_cV (M := mX9_remaining) [_, _] 0 0 dX9_remaining_3 pa_9137 pb_9137 cc_9137 rfl rfl rfl rfl rfl (x_kk rfl) (x_kk rfl) rfl (c_X9_isSpecies hR) rfl ?_
  refine e_if_neT (M := mX9_remaining) 13 dX9_remaining_6 rfl (x_bn (in_ok hn (by omega) hs)) ?_
  refine f_aload_n (M := mX9_remaining) 14 dX9_remaining_13 rfl rfl ?_
  refine e_getR (M := mX9_remaining) dX9_remaining_14 fl_9007 (x_kk rfl) (x_kk rfl) rfl (wf_9_0 hR) ?_
  refine f_iconst (M := mX9_remaining) 18 dX9_remaining_17 ki_0 rfl ?_
  refine e_ild (M := mX9_remaining) (w := 606) (j := 0) dX9_remaining_18 (x_kk rfl) rfl kn_0 (by omega) (by omega) ?_
  refine f_iconst (M := mX9_remaining) 20 dX9_remaining_19 ki_3 rfl ?_
  refine e_icmp_geF (M := mX9_remaining) 27 dX9_remaining_20 rfl h1 ?_
  refine f_iconst (M := mX9_remaining) 24 dX9_remaining_23 ki_2 rfl ?_
  refine f_goto (M := mX9_remaining) 28 dX9_remaining_24 rfl ?_
  refine e_putI (M := mX9_remaining) dX9_remaining_28 fl_9033 (x_kk rfl) (x_kk rfl) rfl (fun q9 => Bool.noConfusion q9) ?_
  refine f_aload_n (M := mX9_remaining) 32 dX9_remaining_31 rfl rfl ?_
  refine e_getI (M := mX9_remaining) dX9_remaining_32 fl_9033 (x_kk rfl) (x_kk rfl) rfl ?_
  refine e_if_leF (M := mX9_remaining) 42 dX9_remaining_35 rfl (show ¬ ((2 : Int32) ≤ 0) by decide) ?_
  refine f_iconst (M := mX9_remaining) 39 dX9_remaining_38 ki_0 rfl ?_
  refine f_goto (M := mX9_remaining) 47 dX9_remaining_39 rfl ?_
  refine e_ri (M := mX9_remaining) dX9_remaining_47 rfl (x_kk rfl) (x_kk rfl) ?_
  rfl
theorem kf_scaled_0 {N β : Nat} {a : Nat → Int32} {b : Nat → Int64} (H : y_CS N I L R β a b) {Ns Np Nl Nm : Nat} (Z : y_Z a Ns Np Nl Nm) {v : Int32} {f : Int32} {t : Int32} (h0 : ¬ (v = -1 ∨ (0 ≤ v ∧ v ≤ a 8 - 1))) : x_Cv X mX8_scaled [.ref 0, .int v, .int f, .int t] (I, L, R) 233 (.inr 2, (I, L, R), 233) := by
  obtain ⟨hNs, hn, hNp, hp, hNl, hl, hNm, hmm⟩ := Z
  have hR := h_R H
  have hβ := h_β H
  have hS := h_S H
  show x_Ev X mX8_scaled 0 [some (.ref 0), some (.int v), some (.int f), some (.int t)] [] ((I, L, R), 233, 0, 0) _
  refine f_aload_n (M := mX8_scaled) 1 dX8_scaled_0 rfl rfl ?_
  refine f_iload_n (M := mX8_scaled) 2 dX8_scaled_1 rfl rfl ?_
  refine e_cV (M := mX8_scaled) [_] 0 0 dX8_scaled_2 pa_8109 pb_8109 cc_8109 rfl rfl rfl rfl rfl (x_kk rfl) (x_kk rfl) rfl (k_isAny H) rfl ?_
  exact e_cSX (M := mX8_scaled) 1 6 dX8_scaled_5 pa_8103 cc_8103 rfl rfl rfl rfl rfl (x_kk rfl) (x_kk rfl) rfl (c_X8_requireExisting_x (x_b0 h0)) rfl
theorem kf_scaled_1 {N β : Nat} {a : Nat → Int32} {b : Nat → Int64} (H : y_CS N I L R β a b) {Ns Np Nl Nm : Nat} (Z : y_Z a Ns Np Nl Nm) {v : Int32} {f : Int32} {t : Int32} (h0 : v = -1 ∨ (0 ≤ v ∧ v ≤ a 8 - 1)) (h1 : ¬ (0 ≤ f ∧ f ≤ 36)) : x_Cv X mX8_scaled [.ref 0, .int v, .int f, .int t] (I, L, R) 233 (.inr 1, (I, L, R), 233) := by
  obtain ⟨hNs, hn, hNp, hp, hNl, hl, hNm, hmm⟩ := Z
  have hR := h_R H
  have hβ := h_β H
  have hS := h_S H
  show x_Ev X mX8_scaled 0 [some (.ref 0), some (.int v), some (.int f), some (.int t)] [] ((I, L, R), 233, 0, 0) _
  refine f_aload_n (M := mX8_scaled) 1 dX8_scaled_0 rfl rfl ?_
  refine f_iload_n (M := mX8_scaled) 2 dX8_scaled_1 rfl rfl ?_
  refine e_cV (M := mX8_scaled) [_] 0 0 dX8_scaled_2 pa_8109 pb_8109 cc_8109 rfl rfl rfl rfl rfl (x_kk rfl) (x_kk rfl) rfl (k_isAny H) rfl ?_
  refine e_cS (M := mX8_scaled) [] 1 6 dX8_scaled_5 pa_8103 cc_8103 rfl rfl rfl rfl rfl (x_kk rfl) (x_kk rfl) rfl (c_X8_requireExisting (x_bn h0)) rfl ?_
  refine f_iload_n (M := mX8_scaled) 9 dX8_scaled_8 rfl rfl ?_
  refine f_iconst (M := mX8_scaled) 10 dX8_scaled_9 ki_0 rfl ?_
  refine f_bipush (M := mX8_scaled) 12 dX8_scaled_10 kb_36 rfl ?_
  refine e_cS (M := mX8_scaled) [_] 1 6 dX8_scaled_12 pa_8049 cc_8049 rfl rfl rfl rfl rfl (x_kk rfl) (x_kk rfl) rfl (c_X8_isIn (lo := 0) (hi := 36)) rfl ?_
  refine e_if_eqT (M := mX8_scaled) 32 dX8_scaled_15 rfl (x_b0 h1) ?_
  refine f_iconst (M := mX8_scaled) 33 dX8_scaled_32 ki_0 rfl ?_
  exact e_cSX (M := mX8_scaled) 2 12 dX8_scaled_33 pa_8053 cc_8053 rfl rfl rfl rfl rfl (x_kk rfl) (x_kk rfl) rfl (c_X8_requireArgument_x rfl) rfl
theorem kf_scaled_2 {N β : Nat} {a : Nat → Int32} {b : Nat → Int64} (H : y_CS N I L R β a b) {Ns Np Nl Nm : Nat} (Z : y_Z a Ns Np Nl Nm) {v : Int32} {f : Int32} {t : Int32} (h0 : v = -1 ∨ (0 ≤ v ∧ v ≤ a 8 - 1)) (h1 : 0 ≤ f ∧ f ≤ 36) (h2 : ¬ (f ≤ t ∧ t ≤ 36)) : x_Cv X mX8_scaled [.ref 0, .int v, .int f, .int t] (I, L, R) 233 (.inr 1, (I, L, R), 233) := by
  obtain ⟨hNs, hn, hNp, hp, hNl, hl, hNm, hmm⟩ := Z
  have hR := h_R H
  have hβ := h_β H
  have hS := h_S H
  show x_Ev X mX8_scaled 0 [some (.ref 0), some (.int v), some (.int f), some (.int t)] [] ((I, L, R), 233, 0, 0) _
  refine f_aload_n (M := mX8_scaled) 1 dX8_scaled_0 rfl rfl ?_
  refine f_iload_n (M := mX8_scaled) 2 dX8_scaled_1 rfl rfl ?_
  refine e_cV (M := mX8_scaled) [_] 0 0 dX8_scaled_2 pa_8109 pb_8109 cc_8109 rfl rfl rfl rfl rfl (x_kk rfl) (x_kk rfl) rfl (k_isAny H) rfl ?_
  refine e_cS (M := mX8_scaled) [] 1 6 dX8_scaled_5 pa_8103 cc_8103 rfl rfl rfl rfl rfl (x_kk rfl) (x_kk rfl) rfl (c_X8_requireExisting (x_bn h0)) rfl ?_
  refine f_iload_n (M := mX8_scaled) 9 dX8_scaled_8 rfl rfl ?_
  refine f_iconst (M := mX8_scaled) 10 dX8_scaled_9 ki_0 rfl ?_
  refine f_bipush (M := mX8_scaled) 12 dX8_scaled_10 kb_36 rfl ?_
  refine e_cS (M := mX8_scaled) [_] 1 6 dX8_scaled_12 pa_8049 cc_8049 rfl rfl rfl rfl rfl (x_kk rfl) (x_kk rfl) rfl (c_X8_isIn (lo := 0) (hi := 36)) rfl ?_
  refine e_if_eqF (M := mX8_scaled) 32 dX8_scaled_15 rfl (x_bn h1) ?_
  refine f_iload_n (M := mX8_scaled) 19 dX8_scaled_18 rfl rfl ?_
  refine f_iload_n (M := mX8_scaled) 20 dX8_scaled_19 rfl rfl ?_
  refine f_bipush (M := mX8_scaled) 22 dX8_scaled_20 kb_36 rfl ?_
  refine e_cS (M := mX8_scaled) [_] 1 6 dX8_scaled_22 pa_8049 cc_8049 rfl rfl rfl rfl rfl (x_kk rfl) (x_kk rfl) rfl (c_X8_isIn (hi := 36)) rfl ?_
  refine e_if_eqT (M := mX8_scaled) 32 dX8_scaled_25 rfl (x_b0 h2) ?_
  refine f_iconst (M := mX8_scaled) 33 dX8_scaled_32 ki_0 rfl ?_
  exact e_cSX (M := mX8_scaled) 2 12 dX8_scaled_33 pa_8053 cc_8053 rfl rfl rfl rfl rfl (x_kk rfl) (x_kk rfl) rfl (c_X8_requireArgument_x rfl) rfl
theorem kf_scaled_3 {N β : Nat} {a : Nat → Int32} {b : Nat → Int64} (H : y_CS N I L R β a b) {Ns Np Nl Nm : Nat} (Z : y_Z a Ns Np Nl Nm) {v : Int32} {f : Int32} {t : Int32} (h0 : v = -1 ∨ (0 ≤ v ∧ v ≤ a 8 - 1)) (h1 : 0 ≤ f ∧ f ≤ 36) (h2 : f ≤ t ∧ t ≤ 36) (h3 : ¬ (3 ≤ a 0)) : x_Cv X mX8_scaled [.ref 0, .int v, .int f, .int t] (I, L, R) 233 (.inr 0, (I, L, R), 233) := by
  obtain ⟨hNs, hn, hNp, hp, hNl, hl, hNm, hmm⟩ := Z
  have hR := h_R H
  have hβ := h_β H
  have hS := h_S H
  show x_Ev X mX8_scaled 0 [some (.ref 0), some (.int v), some (.int f), some (.int t)] [] ((I, L, R), 233, 0, 0) _
  refine f_aload_n (M := mX8_scaled) 1 dX8_scaled_0 rfl rfl ?_
  refine f_iload_n (M := mX8_scaled) 2 dX8_scaled_1 rfl rfl ?_
  refine e_cV (M := mX8_scaled) [_] 0 0 dX8_scaled_2 pa_8109 pb_8109 cc_8109 rfl rfl rfl rfl rfl (x_kk rfl) (x_kk rfl) rfl (k_isAny H) rfl ?_
  refine e_cS (M := mX8_scaled) [] 1 6 dX8_scaled_5 pa_8103 cc_8103 rfl rfl rfl rfl rfl (x_kk rfl) (x_kk rfl) rfl (c_X8_requireExisting (x_bn h0)) rfl ?_
  refine f_iload_n (M := mX8_scaled) 9 dX8_scaled_8 rfl rfl ?_
  refine f_iconst (M := mX8_scaled) 10 dX8_scaled_9 ki_0 rfl ?_
  refine f_bipush (M := mX8_scaled) 12 dX8_scaled_10 kb_36 rfl ?_
  refine e_cS (M := mX8_scaled) [_] 1 6 dX8_scaled_12 pa_8049 cc_8049 rfl rfl rfl rfl rfl (x_kk rfl) (x_kk rfl) rfl (c_X8_isIn (lo := 0) (hi := 36)) rfl ?_
  refine e_if_eqF (M := mX8_scaled) 32 dX8_scaled_15 rfl (x_bn h1) ?_
  refine f_iload_n (M := mX8_scaled) 19 dX8_scaled_18 rfl rfl ?_
  refine f_iload_n (M := mX8_scaled) 20 dX8_scaled_19 rfl rfl ?_
  refine f_bipush (M := mX8_scaled) 22 dX8_scaled_20 kb_36 rfl ?_
  refine e_cS (M := mX8_scaled) [_] 1 6 dX8_scaled_22 pa_8049 cc_8049 rfl rfl rfl rfl rfl (x_kk rfl) (x_kk rfl) rfl (c_X8_isIn (hi := 36)) rfl ?_
  refine e_if_eqF (M := mX8_scaled) 32 dX8_scaled_25 rfl (x_bn h2) ?_
  refine f_iconst (M := mX8_scaled) 29 dX8_scaled_28 ki_1 rfl ?_
  refine f_goto (M := mX8_scaled) 33 dX8_scaled_29 rfl ?_
  refine e_cS (M := mX8_scaled) [] 2 12 dX8_scaled_33 pa_8053 cc_8053 rfl rfl rfl rfl rfl (x_kk rfl) (x_kk rfl) rfl (c_X8_requireArgument (by decide)) rfl ?_
  refine f_aload_n (M := mX8_scaled) 37 dX8_scaled_36 rfl rfl ?_
  refine e_getR (M := mX8_scaled) dX8_scaled_37 fl_8026 (x_kk rfl) (x_kk rfl) rfl hS ?_
  refine e_cV (M := mX8_scaled) [_] 2 12 dX8_scaled_40 pa_8236 pb_8236 cc_8236 rfl rfl rfl rfl rfl (x_kk rfl) (x_kk rfl) (x_rcvOK (sl_lt hβ 0 rfl) (sl_s hβ 0 rfl rfl) rfl) (k_hasContract H) rfl ?_
  exact e_cSX (M := mX8_scaled) 3 18 dX8_scaled_43 pa_8037 cc_8037 rfl rfl rfl rfl rfl (x_kk rfl) (x_kk rfl) rfl (c_X8_requireState_x (x_b0 h3)) rfl
theorem mf_scaled_0 (hR : x_wf R) {Ns Np Nl Nm : Nat} (Z : y_Z (I 226) Ns Np Nl Nm) {v : Int32} {f : Int32} {t : Int32} (h0 : ¬ (v = -1 ∨ (0 ≤ v ∧ v ≤ I 226 8 - 1))) : x_Cv X mX9_scaled [.ref 225, .int v, .int f, .int t] (I, L, R) 233 (.inl (some (.int (0))), (x_tw I 1, L, R), 233) := by
  obtain ⟨hNs, hn, hNp, hp, hNl, hl, hNm, hmm⟩ := Z
  show x_Ev X mX9_scaled 0 [some (.ref 225), some (.int v), some (.int f), some (.int t)] [] ((I, L, R), 233, 0, 0) _
  refine f_aload_n (M := mX9_scaled) 1 dX9_scaled_0 rfl rfl ?_
  refine f_aload_n (M := mX9_scaled) 2 dX9_scaled_1 rfl rfl ?_
  refine f_iload_n (M := mX9_scaled) 3 dX9_scaled_2 rfl rfl ?_
  refine e_cV (M := mX9_scaled) [_, _] 0 0 dX9_scaled_3 pa_9151 pb_9151 cc_9151 rfl rfl rfl rfl rfl (x_kk rfl) (x_kk rfl) rfl (c_X9_isAny hR) rfl ?_
  refine e_if_neF (M := mX9_scaled) 13 dX9_scaled_6 rfl (x_bnn h0) ?_
  refine f_iconst (M := mX9_scaled) 10 dX9_scaled_9 ki_1 rfl ?_
  refine f_goto (M := mX9_scaled) 57 dX9_scaled_10 rfl ?_
  refine e_putI (M := mX9_scaled) dX9_scaled_57 fl_9033 (x_kk rfl) (x_kk rfl) rfl (fun q9 => Bool.noConfusion q9) ?_
  refine f_aload_n (M := mX9_scaled) 61 dX9_scaled_60 rfl rfl ?_
  refine e_getI (M := mX9_scaled) dX9_scaled_61 fl_9033 (x_kk rfl) (x_kk rfl) rfl ?_
  refine e_if_leF (M := mX9_scaled) 71 dX9_scaled_64 rfl (show ¬ ((1 : Int32) ≤ 0) by decide) ?_
  refine f_iconst (M := mX9_scaled) 68 dX9_scaled_67 ki_0 rfl ?_
  refine f_goto (M := mX9_scaled) 78 dX9_scaled_68 rfl ?_
  refine e_ri (M := mX9_scaled) dX9_scaled_78 rfl (x_kk rfl) (x_kk rfl) ?_
  rfl
theorem mf_scaled_1 (hR : x_wf R) {Ns Np Nl Nm : Nat} (Z : y_Z (I 226) Ns Np Nl Nm) {v : Int32} {f : Int32} {t : Int32} (h0 : v = -1 ∨ (0 ≤ v ∧ v ≤ I 226 8 - 1)) (h1 : ¬ (0 ≤ f ∧ f ≤ 36)) : x_Cv X mX9_scaled [.ref 225, .int v, .int f, .int t] (I, L, R) 233 (.inl (some (.int (0))), (x_tw I 2, L, R), 233) := by
  obtain ⟨hNs, hn, hNp, hp, hNl, hl, hNm, hmm⟩ := Z
  show x_Ev X mX9_scaled 0 [some (.ref 225), some (.int v), some (.int f), some (.int t)] [] ((I, L, R), 233, 0, 0) _
  refine f_aload_n (M := mX9_scaled) 1 dX9_scaled_0 rfl rfl ?_
  refine f_aload_n (M := mX9_scaled) 2 dX9_scaled_1 rfl rfl ?_
  refine f_iload_n (M := mX9_scaled) 3 dX9_scaled_2 rfl rfl ?_
  refine e_cV (M := mX9_scaled) [_, _] 0 0 dX9_scaled_3 pa_9151 pb_9151 cc_9151 rfl rfl rfl rfl rfl (x_kk rfl) (x_kk rfl) rfl (c_X9_isAny hR) rfl ?_
  refine e_if_neT (M := mX9_scaled) 13 dX9_scaled_6 rfl (x_bn h0) ?_
  refine f_iload_n (M := mX9_scaled) 14 dX9_scaled_13 rfl rfl ?_
  refine f_i2l (M := mX9_scaled) 15 dX9_scaled_14 rfl ?_
  refine f_lconst (M := mX9_scaled) 16 dX9_scaled_15 kl_0 rfl ?_
  refine f_ldc2 (M := mX9_scaled) 19 dX9_scaled_16 (x_kk rfl) csl_9264 rfl ?_
  refine e_cS (M := mX9_scaled) [_, _] 0 0 dX9_scaled_19 pa_9074 cc_9074 rfl rfl rfl rfl rfl (x_kk rfl) (x_kk rfl) rfl (c_X9_isInI (lo := 0) (hi := 36)) rfl ?_
  refine e_if_eqT (M := mX9_scaled) 38 dX9_scaled_22 rfl (x_b0 h1) ?_
  refine f_iconst (M := mX9_scaled) 39 dX9_scaled_38 ki_2 rfl ?_
  refine f_goto (M := mX9_scaled) 57 dX9_scaled_39 rfl ?_
  refine e_putI (M := mX9_scaled) dX9_scaled_57 fl_9033 (x_kk rfl) (x_kk rfl) rfl (fun q9 => Bool.noConfusion q9) ?_
  refine f_aload_n (M := mX9_scaled) 61 dX9_scaled_60 rfl rfl ?_
  refine e_getI (M := mX9_scaled) dX9_scaled_61 fl_9033 (x_kk rfl) (x_kk rfl) rfl ?_
  refine e_if_leF (M := mX9_scaled) 71 dX9_scaled_64 rfl (show ¬ ((2 : Int32) ≤ 0) by decide) ?_
  refine f_iconst (M := mX9_scaled) 68 dX9_scaled_67 ki_0 rfl ?_
  refine f_goto (M := mX9_scaled) 78 dX9_scaled_68 rfl ?_
  refine e_ri (M := mX9_scaled) dX9_scaled_78 rfl (x_kk rfl) (x_kk rfl) ?_
  rfl
theorem mf_scaled_2 (hR : x_wf R) {Ns Np Nl Nm : Nat} (Z : y_Z (I 226) Ns Np Nl Nm) {v : Int32} {f : Int32} {t : Int32} (h0 : v = -1 ∨ (0 ≤ v ∧ v ≤ I 226 8 - 1)) (h1 : 0 ≤ f ∧ f ≤ 36) (h2 : ¬ (f ≤ t ∧ t ≤ 36)) : x_Cv X mX9_scaled [.ref 225, .int v, .int f, .int t] (I, L, R) 233 (.inl (some (.int (0))), (x_tw I 2, L, R), 233) := by
  obtain ⟨hNs, hn, hNp, hp, hNl, hl, hNm, hmm⟩ := Z
  show x_Ev X mX9_scaled 0 [some (.ref 225), some (.int v), some (.int f), some (.int t)] [] ((I, L, R), 233, 0, 0) _
  refine f_aload_n (M := mX9_scaled) 1 dX9_scaled_0 rfl rfl ?_
  refine f_aload_n (M := mX9_scaled) 2 dX9_scaled_1 rfl rfl ?_
  refine f_iload_n (M := mX9_scaled) 3 dX9_scaled_2 rfl rfl ?_
  refine e_cV (M := mX9_scaled) [_, _] 0 0 dX9_scaled_3 pa_9151 pb_9151 cc_9151 rfl rfl rfl rfl rfl (x_kk rfl) (x_kk rfl) rfl (c_X9_isAny hR) rfl ?_
  refine e_if_neT (M := mX9_scaled) 13 dX9_scaled_6 rfl (x_bn h0) ?_
  refine f_iload_n (M := mX9_scaled) 14 dX9_scaled_13 rfl rfl ?_
  refine f_i2l (M := mX9_scaled) 15 dX9_scaled_14 rfl ?_
  refine f_lconst (M := mX9_scaled) 16 dX9_scaled_15 kl_0 rfl ?_
  refine f_ldc2 (M := mX9_scaled) 19 dX9_scaled_16 (x_kk rfl) csl_9264 rfl ?_
  refine e_cS (M := mX9_scaled) [_, _] 0 0 dX9_scaled_19 pa_9074 cc_9074 rfl rfl rfl rfl rfl (x_kk rfl) (x_kk rfl) rfl (c_X9_isInI (lo := 0) (hi := 36)) rfl ?_
  refine e_if_eqF (M := mX9_scaled) 38 dX9_scaled_22 rfl (x_bn h1) ?_
  refine f_iload_n (M := mX9_scaled) 26 dX9_scaled_25 rfl rfl ?_
  refine f_i2l (M := mX9_scaled) 27 dX9_scaled_26 rfl ?_
  refine f_iload_n (M := mX9_scaled) 28 dX9_scaled_27 rfl rfl ?_
  refine f_i2l (M := mX9_scaled) 29 dX9_scaled_28 rfl ?_
  refine f_ldc2 (M := mX9_scaled) 32 dX9_scaled_29 (x_kk rfl) csl_9264 rfl ?_
  refine e_cS (M := mX9_scaled) [_, _] 0 0 dX9_scaled_32 pa_9074 cc_9074 rfl rfl rfl rfl rfl (x_kk rfl) (x_kk rfl) rfl (c_X9_isInI (hi := 36)) rfl ?_
  refine e_if_neF (M := mX9_scaled) 42 dX9_scaled_35 rfl (x_bnn h2) ?_
  refine f_iconst (M := mX9_scaled) 39 dX9_scaled_38 ki_2 rfl ?_
  refine f_goto (M := mX9_scaled) 57 dX9_scaled_39 rfl ?_
  refine e_putI (M := mX9_scaled) dX9_scaled_57 fl_9033 (x_kk rfl) (x_kk rfl) rfl (fun q9 => Bool.noConfusion q9) ?_
  refine f_aload_n (M := mX9_scaled) 61 dX9_scaled_60 rfl rfl ?_
  refine e_getI (M := mX9_scaled) dX9_scaled_61 fl_9033 (x_kk rfl) (x_kk rfl) rfl ?_
  refine e_if_leF (M := mX9_scaled) 71 dX9_scaled_64 rfl (show ¬ ((2 : Int32) ≤ 0) by decide) ?_
  refine f_iconst (M := mX9_scaled) 68 dX9_scaled_67 ki_0 rfl ?_
  refine f_goto (M := mX9_scaled) 78 dX9_scaled_68 rfl ?_
  refine e_ri (M := mX9_scaled) dX9_scaled_78 rfl (x_kk rfl) (x_kk rfl) ?_
  rfl
theorem mf_scaled_3 (hR : x_wf R) {Ns Np Nl Nm : Nat} (Z : y_Z (I 226) Ns Np Nl Nm) {v : Int32} {f : Int32} {t : Int32} (h0 : v = -1 ∨ (0 ≤ v ∧ v ≤ I 226 8 - 1)) (h1 : 0 ≤ f ∧ f ≤ 36) (h2 : f ≤ t ∧ t ≤ 36) (h3 : ¬ (3 ≤ I 226 0)) : x_Cv X mX9_scaled [.ref 225, .int v, .int f, .int t] (I, L, R) 233 (.inl (some (.int (0))), (x_tw I 3, L, R), 233) := by
  obtain ⟨hNs, hn, hNp, hp, hNl, hl, hNm, hmm⟩ := Z
  show x_Ev X mX9_scaled 0 [some (.ref 225), some (.int v), some (.int f), some (.int t)] [] ((I, L, R), 233, 0, 0) _
  refine f_aload_n (M := mX9_scaled) 1 dX9_scaled_0 rfl rfl ?_
  refine f_aload_n (M := mX9_scaled) 2 dX9_scaled_1 rfl rfl ?_
  refine f_iload_n (M := mX9_scaled) 3 dX9_scaled_2 rfl rfl ?_
  refine e_cV (M := mX9_scaled) [_, _] 0 0 dX9_scaled_3 pa_9151 pb_9151 cc_9151 rfl rfl rfl rfl rfl (x_kk rfl) (x_kk rfl) rfl (c_X9_isAny hR) rfl ?_
  refine e_if_neT (M := mX9_scaled) 13 dX9_scaled_6 rfl (x_bn h0) ?_
  refine f_iload_n (M := mX9_scaled) 14 dX9_scaled_13 rfl rfl ?_
  refine f_i2l (M := mX9_scaled) 15 dX9_scaled_14 rfl ?_
  refine f_lconst (M := mX9_scaled) 16 dX9_scaled_15 kl_0 rfl ?_
  refine f_ldc2 (M := mX9_scaled) 19 dX9_scaled_16 (x_kk rfl) csl_9264 rfl ?_
  refine e_cS (M := mX9_scaled) [_, _] 0 0 dX9_scaled_19 pa_9074 cc_9074 rfl rfl rfl rfl rfl (x_kk rfl) (x_kk rfl) rfl (c_X9_isInI (lo := 0) (hi := 36)) rfl ?_
  refine e_if_eqF (M := mX9_scaled) 38 dX9_scaled_22 rfl (x_bn h1) ?_
  refine f_iload_n (M := mX9_scaled) 26 dX9_scaled_25 rfl rfl ?_
  refine f_i2l (M := mX9_scaled) 27 dX9_scaled_26 rfl ?_
  refine f_iload_n (M := mX9_scaled) 28 dX9_scaled_27 rfl rfl ?_
  refine f_i2l (M := mX9_scaled) 29 dX9_scaled_28 rfl ?_
  refine f_ldc2 (M := mX9_scaled) 32 dX9_scaled_29 (x_kk rfl) csl_9264 rfl ?_
  refine e_cS (M := mX9_scaled) [_, _] 0 0 dX9_scaled_32 pa_9074 cc_9074 rfl rfl rfl rfl rfl (x_kk rfl) (x_kk rfl) rfl (c_X9_isInI (hi := 36)) rfl ?_
  refine e_if_neT (M := mX9_scaled) 42 dX9_scaled_35 rfl (x_bn h2) ?_
  refine f_aload_n (M := mX9_scaled) 43 dX9_scaled_42 rfl rfl ?_
  refine e_getR (M := mX9_scaled) dX9_scaled_43 fl_9007 (x_kk rfl) (x_kk rfl) rfl (wf_9_0 hR) ?_
  refine f_iconst (M := mX9_scaled) 47 dX9_scaled_46 ki_0 rfl ?_
  refine e_ild (M := mX9_scaled) (w := 606) (j := 0) dX9_scaled_47 (x_kk rfl) rfl kn_0 (by omega) (by omega) ?_
  refine f_iconst (M := mX9_scaled) 49 dX9_scaled_48 ki_3 rfl ?_
  refine e_icmp_geF (M := mX9_scaled) 56 dX9_scaled_49 rfl h3 ?_
  refine f_iconst (M := mX9_scaled) 53 dX9_scaled_52 ki_3 rfl ?_
  refine f_goto (M := mX9_scaled) 57 dX9_scaled_53 rfl ?_
  refine e_putI (M := mX9_scaled) dX9_scaled_57 fl_9033 (x_kk rfl) (x_kk rfl) rfl (fun q9 => Bool.noConfusion q9) ?_
  refine f_aload_n (M := mX9_scaled) 61 dX9_scaled_60 rfl rfl ?_
  refine e_getI (M := mX9_scaled) dX9_scaled_61 fl_9033 (x_kk rfl) (x_kk rfl) rfl ?_
  refine e_if_leF (M := mX9_scaled) 71 dX9_scaled_64 rfl (show ¬ ((3 : Int32) ≤ 0) by decide) ?_
  refine f_iconst (M := mX9_scaled) 68 dX9_scaled_67 ki_0 rfl ?_
  refine f_goto (M := mX9_scaled) 78 dX9_scaled_68 rfl ?_
  refine e_ri (M := mX9_scaled) dX9_scaled_78 rfl (x_kk rfl) (x_kk rfl) ?_
  rfl
theorem kf_cutShare_0 {N β : Nat} {a : Nat → Int32} {b : Nat → Int64} (H : y_CS N I L R β a b) {Ns Np Nl Nm : Nat} (Z : y_Z a Ns Np Nl Nm) {d : Int32} (h0 : ¬ (3 ≤ a 0)) : x_Cv X mX8_cutShare [.ref 0, .int d] (I, L, R) 233 (.inr 0, (I, L, R), 233) := by
  obtain ⟨hNs, hn, hNp, hp, hNl, hl, hNm, hmm⟩ := Z
  have hR := h_R H
  have hβ := h_β H
  have hS := h_S H
  show x_Ev X mX8_cutShare 0 [some (.ref 0), some (.int d), none, none] [] ((I, L, R), 233, 0, 0) _
  refine f_aload_n (M := mX8_cutShare) 1 dX8_cutShare_0 rfl rfl ?_
  refine e_getR (M := mX8_cutShare) dX8_cutShare_1 fl_8026 (x_kk rfl) (x_kk rfl) rfl hS ?_
  refine e_cV (M := mX8_cutShare) [_] 0 0 dX8_cutShare_4 pa_8236 pb_8236 cc_8236 rfl rfl rfl rfl rfl (x_kk rfl) (x_kk rfl) (x_rcvOK (sl_lt hβ 0 rfl) (sl_s hβ 0 rfl rfl) rfl) (k_hasContract H) rfl ?_
  exact e_cSX (M := mX8_cutShare) 1 6 dX8_cutShare_7 pa_8037 cc_8037 rfl rfl rfl rfl rfl (x_kk rfl) (x_kk rfl) rfl (c_X8_requireState_x (x_b0 h0)) rfl
theorem mf_cutShare_0 (hR : x_wf R) {Ns Np Nl Nm : Nat} (Z : y_Z (I 226) Ns Np Nl Nm) {d : Int32} (h0 : ¬ (3 ≤ I 226 0)) : x_Cv X mX9_cutShare [.ref 225, .int d] (I, L, R) 233 (.inl (some (.long (0))), (x_tw I 1, L, R), 233) := by
  obtain ⟨hNs, hn, hNp, hp, hNl, hl, hNm, hmm⟩ := Z
  show x_Ev X mX9_cutShare 0 [some (.ref 225), some (.int d), none, none, none] [] ((I, L, R), 233, 0, 0) _
  refine f_aload_n (M := mX9_cutShare) 1 dX9_cutShare_0 rfl rfl ?_
  refine f_aload_n (M := mX9_cutShare) 2 dX9_cutShare_1 rfl rfl ?_
  refine e_getR (M := mX9_cutShare) dX9_cutShare_2 fl_9007 (x_kk rfl) (x_kk rfl) rfl (wf_9_0 hR) ?_
  refine f_iconst (M := mX9_cutShare) 6 dX9_cutShare_5 ki_0 rfl ?_
  refine e_ild (M := mX9_cutShare) (w := 606) (j := 0) dX9_cutShare_6 (x_kk rfl) rfl kn_0 (by omega) (by omega) ?_
  refine f_iconst (M := mX9_cutShare) 8 dX9_cutShare_7 ki_3 rfl ?_
  refine e_icmp_geF (M := mX9_cutShare) 15 dX9_cutShare_8 rfl h0 ?_
  refine f_iconst (M := mX9_cutShare) 12 dX9_cutShare_11 ki_1 rfl ?_
  refine f_goto (M := mX9_cutShare) 16 dX9_cutShare_12 rfl ?_
  refine e_putI (M := mX9_cutShare) dX9_cutShare_16 fl_9033 (x_kk rfl) (x_kk rfl) rfl (fun q9 => Bool.noConfusion q9) ?_
  refine f_aload_n (M := mX9_cutShare) 20 dX9_cutShare_19 rfl rfl ?_
  refine e_getI (M := mX9_cutShare) dX9_cutShare_20 fl_9033 (x_kk rfl) (x_kk rfl) rfl ?_
  refine e_if_leF (M := mX9_cutShare) 28 dX9_cutShare_23 rfl (show ¬ ((1 : Int32) ≤ 0) by decide) ?_
  refine f_lconst (M := mX9_cutShare) 27 dX9_cutShare_26 kl_0 rfl ?_
  refine e_rl (M := mX9_cutShare) dX9_cutShare_27 rfl (x_kk rfl) (x_kk rfl) ?_
  rfl
theorem kf_net_0 {N β : Nat} {a : Nat → Int32} {b : Nat → Int64} (H : y_CS N I L R β a b) {Ns Np Nl Nm : Nat} (Z : y_Z a Ns Np Nl Nm) {u : Int32} (h0 : ¬ (0 ≤ u ∧ u ≤ a 14 - 1)) : x_Cv X mX8_net [.ref 0, .int u] (I, L, R) 233 (.inr 2, (I, L, R), 233) := by
  obtain ⟨hNs, hn, hNp, hp, hNl, hl, hNm, hmm⟩ := Z
  have hR := h_R H
  have hβ := h_β H
  have hS := h_S H
  show x_Ev X mX8_net 0 [some (.ref 0), some (.int u)] [] ((I, L, R), 233, 0, 0) _
  refine f_aload_n (M := mX8_net) 1 dX8_net_0 rfl rfl ?_
  refine f_iload_n (M := mX8_net) 2 dX8_net_1 rfl rfl ?_
  refine e_cV (M := mX8_net) [_] 0 0 dX8_net_2 pa_8262 pb_8262 cc_8262 rfl rfl rfl rfl rfl (x_kk rfl) (x_kk rfl) rfl (k_isLoad H) rfl ?_
  exact e_cSX (M := mX8_net) 1 6 dX8_net_5 pa_8103 cc_8103 rfl rfl rfl rfl rfl (x_kk rfl) (x_kk rfl) rfl (c_X8_requireExisting_x (x_b0 h0)) rfl
theorem mf_net_0 (hR : x_wf R) {Ns Np Nl Nm : Nat} (Z : y_Z (I 226) Ns Np Nl Nm) {u : Int32} (h0 : ¬ (0 ≤ u ∧ u ≤ I 226 14 - 1)) : x_Cv X mX9_net [.ref 225, .int u] (I, L, R) 233 (.inl (some (.int (0))), (x_tw I 1, L, R), 233) := by
  obtain ⟨hNs, hn, hNp, hp, hNl, hl, hNm, hmm⟩ := Z
  show x_Ev X mX9_net 0 [some (.ref 225), some (.int u)] [] ((I, L, R), 233, 0, 0) _
  refine f_aload_n (M := mX9_net) 1 dX9_net_0 rfl rfl ?_
  refine f_aload_n (M := mX9_net) 2 dX9_net_1 rfl rfl ?_
  refine f_iload_n (M := mX9_net) 3 dX9_net_2 rfl rfl ?_
  refine e_cV (M := mX9_net) [_, _] 0 0 dX9_net_3 pa_9255 pb_9255 cc_9255 rfl rfl rfl rfl rfl (x_kk rfl) (x_kk rfl) rfl (c_X9_isLoad hR) rfl ?_
  refine e_if_eqT (M := mX9_net) 13 dX9_net_6 rfl (x_b0 h0) ?_
  refine f_iconst (M := mX9_net) 14 dX9_net_13 ki_1 rfl ?_
  refine e_putI (M := mX9_net) dX9_net_14 fl_9033 (x_kk rfl) (x_kk rfl) rfl (fun q9 => Bool.noConfusion q9) ?_
  refine f_aload_n (M := mX9_net) 18 dX9_net_17 rfl rfl ?_
  refine e_getI (M := mX9_net) dX9_net_18 fl_9033 (x_kk rfl) (x_kk rfl) rfl ?_
  refine e_if_leF (M := mX9_net) 28 dX9_net_21 rfl (show ¬ ((1 : Int32) ≤ 0) by decide) ?_
  refine f_iconst (M := mX9_net) 25 dX9_net_24 ki_0 rfl ?_
  refine f_goto (M := mX9_net) 34 dX9_net_25 rfl ?_
  refine e_ri (M := mX9_net) dX9_net_34 rfl (x_kk rfl) (x_kk rfl) ?_
  rfl
theorem kf_projectedDebt_0 {N β : Nat} {a : Nat → Int32} {b : Nat → Int64} (H : y_CS N I L R β a b) {Ns Np Nl Nm : Nat} (Z : y_Z a Ns Np Nl Nm) {m : Int32} (h0 : ¬ (1 ≤ m ∧ m ≤ 12)) : x_Cv X mX8_projectedDebt [.ref 0, .int m] (I, L, R) 233 (.inr 1, (I, L, R), 233) := by
  obtain ⟨hNs, hn, hNp, hp, hNl, hl, hNm, hmm⟩ := Z
  have hR := h_R H
  have hβ := h_β H
  have hS := h_S H
  show x_Ev X mX8_projectedDebt 0 [some (.ref 0), some (.int m), none, none, none] [] ((I, L, R), 233, 0, 0) _
  refine f_iload_n (M := mX8_projectedDebt) 1 dX8_projectedDebt_0 rfl rfl ?_
  refine f_iconst (M := mX8_projectedDebt) 2 dX8_projectedDebt_1 ki_1 rfl ?_
  refine f_bipush (M := mX8_projectedDebt) 4 dX8_projectedDebt_2 kb_12 rfl ?_
  refine e_cS (M := mX8_projectedDebt) [_] 0 0 dX8_projectedDebt_4 pa_8049 cc_8049 rfl rfl rfl rfl rfl (x_kk rfl) (x_kk rfl) rfl (c_X8_isIn (lo := 1) (hi := 12)) rfl ?_
  exact e_cSX (M := mX8_projectedDebt) 1 6 dX8_projectedDebt_7 pa_8053 cc_8053 rfl rfl rfl rfl rfl (x_kk rfl) (x_kk rfl) rfl (c_X8_requireArgument_x (x_b0 h0)) rfl
theorem kf_projectedDebt_1 {N β : Nat} {a : Nat → Int32} {b : Nat → Int64} (H : y_CS N I L R β a b) {Ns Np Nl Nm : Nat} (Z : y_Z a Ns Np Nl Nm) {M : Nat} (hM1 : 1 ≤ M ∧ M ≤ 12) (h1 : ¬ (a 0 = 3)) : x_Cv X mX8_projectedDebt [.ref 0, .int (Int32.ofNat M)] (I, L, R) 233 (.inr 0, (I, L, R), 233) := by
  obtain ⟨hNs, hn, hNp, hp, hNl, hl, hNm, hmm⟩ := Z
  have hR := h_R H
  have hβ := h_β H
  have hS := h_S H
  show x_Ev X mX8_projectedDebt 0 [some (.ref 0), some (.int (Int32.ofNat M)), none, none, none] [] ((I, L, R), 233, 0, 0) _
  refine f_iload_n (M := mX8_projectedDebt) 1 dX8_projectedDebt_0 rfl rfl ?_
  refine f_iconst (M := mX8_projectedDebt) 2 dX8_projectedDebt_1 ki_1 rfl ?_
  refine f_bipush (M := mX8_projectedDebt) 4 dX8_projectedDebt_2 kb_12 rfl ?_
  refine e_cS (M := mX8_projectedDebt) [_] 0 0 dX8_projectedDebt_4 pa_8049 cc_8049 rfl rfl rfl rfl rfl (x_kk rfl) (x_kk rfl) rfl (c_X8_isIn (lo := 1) (hi := 12)) rfl ?_
  refine e_cS (M := mX8_projectedDebt) [] 1 6 dX8_projectedDebt_7 pa_8053 cc_8053 rfl rfl rfl rfl rfl (x_kk rfl) (x_kk rfl) rfl (c_X8_requireArgument (x_bn (pj_ok hM1))) rfl ?_
  refine f_aload_n (M := mX8_projectedDebt) 11 dX8_projectedDebt_10 rfl rfl ?_
  refine e_getR (M := mX8_projectedDebt) dX8_projectedDebt_11 fl_8026 (x_kk rfl) (x_kk rfl) rfl hS ?_
  refine e_getI (M := mX8_projectedDebt) dX8_projectedDebt_14 fl_8067 (x_kk rfl) (sl_lt hβ 0 rfl) (sl_s hβ 0 rfl rfl) ?_
  refine f_iconst (M := mX8_projectedDebt) 18 dX8_projectedDebt_17 ki_3 rfl ?_
  refine e_icmp_neT (M := mX8_projectedDebt) 25 dX8_projectedDebt_18 rfl (by rw [h_ph H]; exact h1) ?_
  refine f_iconst (M := mX8_projectedDebt) 26 dX8_projectedDebt_25 ki_0 rfl ?_
  exact e_cSX (M := mX8_projectedDebt) 2 12 dX8_projectedDebt_26 pa_8037 cc_8037 rfl rfl rfl rfl rfl (x_kk rfl) (x_kk rfl) rfl (c_X8_requireState_x rfl) rfl
theorem mf_projectedDebt_0 (hR : x_wf R) {Ns Np Nl Nm : Nat} (Z : y_Z (I 226) Ns Np Nl Nm) {m : Int32} (h0 : ¬ (1 ≤ m ∧ m ≤ 12)) : x_Cv X mX9_projectedDebt [.ref 225, .int m] (I, L, R) 233 (.inl (some (.long (0))), (x_tw I 1, L, R), 233) := by
  obtain ⟨hNs, hn, hNp, hp, hNl, hl, hNm, hmm⟩ := Z
  show x_Ev X mX9_projectedDebt 0 [some (.ref 225), some (.int m), none, none, none] [] ((I, L, R), 233, 0, 0) _
  refine f_aload_n (M := mX9_projectedDebt) 1 dX9_projectedDebt_0 rfl rfl ?_
  refine f_iload_n (M := mX9_projectedDebt) 2 dX9_projectedDebt_1 rfl rfl ?_
  refine f_i2l (M := mX9_projectedDebt) 3 dX9_projectedDebt_2 rfl ?_
  refine f_lconst (M := mX9_projectedDebt) 4 dX9_projectedDebt_3 kl_1 rfl ?_
  refine f_ldc2 (M := mX9_projectedDebt) 7 dX9_projectedDebt_4 (x_kk rfl) csl_9286 rfl ?_
  refine e_cS (M := mX9_projectedDebt) [_, _] 0 0 dX9_projectedDebt_7 pa_9074 cc_9074 rfl rfl rfl rfl rfl (x_kk rfl) (x_kk rfl) rfl (c_X9_isInI (lo := 1) (hi := 12)) rfl ?_
  refine e_if_neF (M := mX9_projectedDebt) 17 dX9_projectedDebt_10 rfl (x_bnn h0) ?_
  refine f_iconst (M := mX9_projectedDebt) 14 dX9_projectedDebt_13 ki_1 rfl ?_
  refine f_goto (M := mX9_projectedDebt) 32 dX9_projectedDebt_14 rfl ?_
  refine e_putI (M := mX9_projectedDebt) dX9_projectedDebt_32 fl_9033 (x_kk rfl) (x_kk rfl) rfl (fun q9 => Bool.noConfusion q9) ?_
  refine f_aload_n (M := mX9_projectedDebt) 36 dX9_projectedDebt_35 rfl rfl ?_
  refine e_getI (M := mX9_projectedDebt) dX9_projectedDebt_36 fl_9033 (x_kk rfl) (x_kk rfl) rfl ?_
  refine e_if_leF (M := mX9_projectedDebt) 44 dX9_projectedDebt_39 rfl (show ¬ ((1 : Int32) ≤ 0) by decide) ?_
  refine f_lconst (M := mX9_projectedDebt) 43 dX9_projectedDebt_42 kl_0 rfl ?_
  refine e_rl (M := mX9_projectedDebt) dX9_projectedDebt_43 rfl (x_kk rfl) (x_kk rfl) ?_
  rfl
theorem mf_projectedDebt_1 (hR : x_wf R) {Ns Np Nl Nm : Nat} (Z : y_Z (I 226) Ns Np Nl Nm) {M : Nat} (hM1 : 1 ≤ M ∧ M ≤ 12) (h1 : ¬ (I 226 0 = 3)) : x_Cv X mX9_projectedDebt [.ref 225, .int (Int32.ofNat M)] (I, L, R) 233 (.inl (some (.long (0))), (x_tw I 2, L, R), 233) := by
  obtain ⟨hNs, hn, hNp, hp, hNl, hl, hNm, hmm⟩ := Z
  show x_Ev X mX9_projectedDebt 0 [some (.ref 225), some (.int (Int32.ofNat M)), none, none, none] [] ((I, L, R), 233, 0, 0) _
  refine f_aload_n (M := mX9_projectedDebt) 1 dX9_projectedDebt_0 rfl rfl ?_
  refine f_iload_n (M := mX9_projectedDebt) 2 dX9_projectedDebt_1 rfl rfl ?_
  refine f_i2l (M := mX9_projectedDebt) 3 dX9_projectedDebt_2 rfl ?_
  refine f_lconst (M := mX9_projectedDebt) 4 dX9_projectedDebt_3 kl_1 rfl ?_
  refine f_ldc2 (M := mX9_projectedDebt) 7 dX9_projectedDebt_4 (x_kk rfl) csl_9286 rfl ?_
  refine e_cS (M := mX9_projectedDebt) [_, _] 0 0 dX9_projectedDebt_7 pa_9074 cc_9074 rfl rfl rfl rfl rfl (x_kk rfl) (x_kk rfl) rfl (c_X9_isInI (lo := 1) (hi := 12)) rfl ?_
  refine e_if_neT (M := mX9_projectedDebt) 17 dX9_projectedDebt_10 rfl (x_bn (pj_ok hM1)) ?_
  refine f_aload_n (M := mX9_projectedDebt) 18 dX9_projectedDebt_17 rfl rfl ?_
  refine e_getR (M := mX9_projectedDebt) dX9_projectedDebt_18 fl_9007 (x_kk rfl) (x_kk rfl) rfl (wf_9_0 hR) ?_
  refine f_iconst (M := mX9_projectedDebt) 22 dX9_projectedDebt_21 ki_0 rfl ?_
  refine e_ild (M := mX9_projectedDebt) (w := 606) (j := 0) dX9_projectedDebt_22 (x_kk rfl) rfl kn_0 (by omega) (by omega) ?_
  refine f_iconst (M := mX9_projectedDebt) 24 dX9_projectedDebt_23 ki_3 rfl ?_
  refine e_icmp_eqF (M := mX9_projectedDebt) 31 dX9_projectedDebt_24 rfl h1 ?_
  refine f_iconst (M := mX9_projectedDebt) 28 dX9_projectedDebt_27 ki_2 rfl ?_
  refine f_goto (M := mX9_projectedDebt) 32 dX9_projectedDebt_28 rfl ?_
  refine e_putI (M := mX9_projectedDebt) dX9_projectedDebt_32 fl_9033 (x_kk rfl) (x_kk rfl) rfl (fun q9 => Bool.noConfusion q9) ?_
  refine f_aload_n (M := mX9_projectedDebt) 36 dX9_projectedDebt_35 rfl rfl ?_
  refine e_getI (M := mX9_projectedDebt) dX9_projectedDebt_36 fl_9033 (x_kk rfl) (x_kk rfl) rfl ?_
  refine e_if_leF (M := mX9_projectedDebt) 44 dX9_projectedDebt_39 rfl (show ¬ ((2 : Int32) ≤ 0) by decide) ?_
  refine f_lconst (M := mX9_projectedDebt) 43 dX9_projectedDebt_42 kl_0 rfl ?_
  refine e_rl (M := mX9_projectedDebt) dX9_projectedDebt_43 rfl (x_kk rfl) (x_kk rfl) ?_
  rfl
theorem kf_charge_0 {N β : Nat} {a : Nat → Int32} {b : Nat → Int64} (H : y_CS N I L R β a b) {Ns Np Nl Nm : Nat} (Z : y_Z a Ns Np Nl Nm) {u : Int32} (h0 : ¬ (0 ≤ u ∧ u ≤ a 13)) : x_Cv X mX8_charge [.ref 0, .int u] (I, L, R) 233 (.inr 2, (I, L, R), 233) := by
  obtain ⟨hNs, hn, hNp, hp, hNl, hl, hNm, hmm⟩ := Z
  have hR := h_R H
  have hβ := h_β H
  have hS := h_S H
  show x_Ev X mX8_charge 0 [some (.ref 0), some (.int u)] [] ((I, L, R), 233, 0, 0) _
  refine f_iload_n (M := mX8_charge) 1 dX8_charge_0 rfl rfl ?_
  refine f_iconst (M := mX8_charge) 2 dX8_charge_1 ki_0 rfl ?_
  refine f_aload_n (M := mX8_charge) 3 dX8_charge_2 rfl rfl ?_
  refine e_getR (M := mX8_charge) dX8_charge_3 fl_8026 (x_kk rfl) (x_kk rfl) rfl hS ?_
  refine e_getR (M := mX8_charge) dX8_charge_6 fl_8227 (x_kk rfl) (sl_lt hβ 0 rfl) (sl_s hβ 0 rfl rfl) (wf_6_4 hR hβ) ?_
  refine e_getI (M := mX8_charge) dX8_charge_9 fl_8254 (x_kk rfl) (sl_lt hβ 12 rfl) (sl_s hβ 12 rfl rfl) ?_
  refine e_cS (M := mX8_charge) [_] 0 0 dX8_charge_12 pa_8049 cc_8049 rfl rfl rfl rfl rfl (x_kk rfl) (x_kk rfl) rfl (c_X8_isIn (lo := 0)) rfl ?_
  exact e_cSX (M := mX8_charge) 1 6 dX8_charge_15 pa_8103 cc_8103 rfl rfl rfl rfl rfl (x_kk rfl) (x_kk rfl) rfl (c_X8_requireExisting_x (x_b0 (by rw [(h_K H).2.2.2.2.2.1]; exact h0))) rfl
theorem kf_charge_1 {N β : Nat} {a : Nat → Int32} {b : Nat → Int64} (H : y_CS N I L R β a b) {Ns Np Nl Nm : Nat} (Z : y_Z a Ns Np Nl Nm) {m : Nat} (hm : m ≤ Nm) (h1 : ¬ (3 ≤ a 0)) : x_Cv X mX8_charge [.ref 0, .int (Int32.ofNat m)] (I, L, R) 233 (.inr 0, (I, L, R), 233) := by
  obtain ⟨hNs, hn, hNp, hp, hNl, hl, hNm, hmm⟩ := Z
  have hR := h_R H
  have hβ := h_β H
  have hS := h_S H
  show x_Ev X mX8_charge 0 [some (.ref 0), some (.int (Int32.ofNat m))] [] ((I, L, R), 233, 0, 0) _
  refine f_iload_n (M := mX8_charge) 1 dX8_charge_0 rfl rfl ?_
  refine f_iconst (M := mX8_charge) 2 dX8_charge_1 ki_0 rfl ?_
  refine f_aload_n (M := mX8_charge) 3 dX8_charge_2 rfl rfl ?_
  refine e_getR (M := mX8_charge) dX8_charge_3 fl_8026 (x_kk rfl) (x_kk rfl) rfl hS ?_
  refine e_getR (M := mX8_charge) dX8_charge_6 fl_8227 (x_kk rfl) (sl_lt hβ 0 rfl) (sl_s hβ 0 rfl rfl) (wf_6_4 hR hβ) ?_
  refine e_getI (M := mX8_charge) dX8_charge_9 fl_8254 (x_kk rfl) (sl_lt hβ 12 rfl) (sl_s hβ 12 rfl rfl) ?_
  refine e_cS (M := mX8_charge) [_] 0 0 dX8_charge_12 pa_8049 cc_8049 rfl rfl rfl rfl rfl (x_kk rfl) (x_kk rfl) rfl (c_X8_isIn (lo := 0)) rfl ?_
  refine e_cS (M := mX8_charge) [] 1 6 dX8_charge_15 pa_8103 cc_8103 rfl rfl rfl rfl rfl (x_kk rfl) (x_kk rfl) rfl (c_X8_requireExisting (x_bn (by rw [(h_K H).2.2.2.2.2.1]; exact (ib_ok hmm (by omega) hm)))) rfl ?_
  refine f_aload_n (M := mX8_charge) 19 dX8_charge_18 rfl rfl ?_
  refine e_getR (M := mX8_charge) dX8_charge_19 fl_8026 (x_kk rfl) (x_kk rfl) rfl hS ?_
  refine e_cV (M := mX8_charge) [_] 1 6 dX8_charge_22 pa_8236 pb_8236 cc_8236 rfl rfl rfl rfl rfl (x_kk rfl) (x_kk rfl) (x_rcvOK (sl_lt hβ 0 rfl) (sl_s hβ 0 rfl rfl) rfl) (k_hasContract H) rfl ?_
  exact e_cSX (M := mX8_charge) 2 12 dX8_charge_25 pa_8037 cc_8037 rfl rfl rfl rfl rfl (x_kk rfl) (x_kk rfl) rfl (c_X8_requireState_x (x_b0 h1)) rfl
theorem mf_charge_0 (hR : x_wf R) {Ns Np Nl Nm : Nat} (Z : y_Z (I 226) Ns Np Nl Nm) {u : Int32} (h0 : ¬ (0 ≤ u ∧ u ≤ I 226 13)) : x_Cv X mX9_charge [.ref 225, .int u] (I, L, R) 233 (.inl (some (.long (0))), (x_tw I 1, L, R), 233) := by
  obtain ⟨hNs, hn, hNp, hp, hNl, hl, hNm, hmm⟩ := Z
  show x_Ev X mX9_charge 0 [some (.ref 225), some (.int u)] [] ((I, L, R), 233, 0, 0) _
  refine f_aload_n (M := mX9_charge) 1 dX9_charge_0 rfl rfl ?_
  refine f_iload_n (M := mX9_charge) 2 dX9_charge_1 rfl rfl ?_
  refine f_i2l (M := mX9_charge) 3 dX9_charge_2 rfl ?_
  refine f_lconst (M := mX9_charge) 4 dX9_charge_3 kl_0 rfl ?_
  refine f_aload_n (M := mX9_charge) 5 dX9_charge_4 rfl rfl ?_
  refine e_getR (M := mX9_charge) dX9_charge_5 fl_9007 (x_kk rfl) (x_kk rfl) rfl (wf_9_0 hR) ?_
  refine f_bipush (M := mX9_charge) 10 dX9_charge_8 kb_13 rfl ?_
  refine e_ild (M := mX9_charge) (w := 606) (j := 13) dX9_charge_10 (x_kk rfl) rfl kn_13 (by omega) (by omega) ?_
  refine f_i2l (M := mX9_charge) 12 dX9_charge_11 rfl ?_
  refine e_cS (M := mX9_charge) [_, _] 0 0 dX9_charge_12 pa_9074 cc_9074 rfl rfl rfl rfl rfl (x_kk rfl) (x_kk rfl) rfl (c_X9_isInI (lo := 0)) rfl ?_
  refine e_if_neF (M := mX9_charge) 22 dX9_charge_15 rfl (x_bnn h0) ?_
  refine f_iconst (M := mX9_charge) 19 dX9_charge_18 ki_1 rfl ?_
  refine f_goto (M := mX9_charge) 37 dX9_charge_19 rfl ?_
  refine e_putI (M := mX9_charge) dX9_charge_37 fl_9033 (x_kk rfl) (x_kk rfl) rfl (fun q9 => Bool.noConfusion q9) ?_
  refine f_aload_n (M := mX9_charge) 41 dX9_charge_40 rfl rfl ?_
  refine e_getI (M := mX9_charge) dX9_charge_41 fl_9033 (x_kk rfl) (x_kk rfl) rfl ?_
  refine e_if_leF (M := mX9_charge) 51 dX9_charge_44 rfl (show ¬ ((1 : Int32) ≤ 0) by decide) ?_
  refine f_lconst (M := mX9_charge) 48 dX9_charge_47 kl_0 rfl ?_
  refine f_goto (M := mX9_charge) 56 dX9_charge_48 rfl ?_
  refine e_rl (M := mX9_charge) dX9_charge_56 rfl (x_kk rfl) (x_kk rfl) ?_
  rfl
theorem mf_charge_1 (hR : x_wf R) {Ns Np Nl Nm : Nat} (Z : y_Z (I 226) Ns Np Nl Nm) {m : Nat} (hm : m ≤ Nm) (h1 : ¬ (3 ≤ I 226 0)) : x_Cv X mX9_charge [.ref 225, .int (Int32.ofNat m)] (I, L, R) 233 (.inl (some (.long (0))), (x_tw I 2, L, R), 233) := by
  obtain ⟨hNs, hn, hNp, hp, hNl, hl, hNm, hmm⟩ := Z
  show x_Ev X mX9_charge 0 [some (.ref 225), some (.int (Int32.ofNat m))] [] ((I, L, R), 233, 0, 0) _
  refine f_aload_n (M := mX9_charge) 1 dX9_charge_0 rfl rfl ?_
  refine f_iload_n (M := mX9_charge) 2 dX9_charge_1 rfl rfl ?_
  refine f_i2l (M := mX9_charge) 3 dX9_charge_2 rfl ?_
  refine f_lconst (M := mX9_charge) 4 dX9_charge_3 kl_0 rfl ?_
  refine f_aload_n (M := mX9_charge) 5 dX9_charge_4 rfl rfl ?_
  refine e_getR (M := mX9_charge) dX9_charge_5 fl_9007 (x_kk rfl) (x_kk rfl) rfl (wf_9_0 hR) ?_
  refine f_bipush (M := mX9_charge) 10 dX9_charge_8 kb_13 rfl ?_
  refine e_ild (M := mX9_charge) (w := 606) (j := 13) dX9_charge_10 (x_kk rfl) rfl kn_13 (by omega) (by omega) ?_
  refine f_i2l (M := mX9_charge) 12 dX9_charge_11 rfl ?_
  refine e_cS (M := mX9_charge) [_, _] 0 0 dX9_charge_12 pa_9074 cc_9074 rfl rfl rfl rfl rfl (x_kk rfl) (x_kk rfl) rfl (c_X9_isInI (lo := 0)) rfl ?_
  refine e_if_neT (M := mX9_charge) 22 dX9_charge_15 rfl (x_bn (ib_ok hmm (by omega) hm)) ?_
  refine f_aload_n (M := mX9_charge) 23 dX9_charge_22 rfl rfl ?_
  refine e_getR (M := mX9_charge) dX9_charge_23 fl_9007 (x_kk rfl) (x_kk rfl) rfl (wf_9_0 hR) ?_
  refine f_iconst (M := mX9_charge) 27 dX9_charge_26 ki_0 rfl ?_
  refine e_ild (M := mX9_charge) (w := 606) (j := 0) dX9_charge_27 (x_kk rfl) rfl kn_0 (by omega) (by omega) ?_
  refine f_iconst (M := mX9_charge) 29 dX9_charge_28 ki_3 rfl ?_
  refine e_icmp_geF (M := mX9_charge) 36 dX9_charge_29 rfl h1 ?_
  refine f_iconst (M := mX9_charge) 33 dX9_charge_32 ki_2 rfl ?_
  refine f_goto (M := mX9_charge) 37 dX9_charge_33 rfl ?_
  refine e_putI (M := mX9_charge) dX9_charge_37 fl_9033 (x_kk rfl) (x_kk rfl) rfl (fun q9 => Bool.noConfusion q9) ?_
  refine f_aload_n (M := mX9_charge) 41 dX9_charge_40 rfl rfl ?_
  refine e_getI (M := mX9_charge) dX9_charge_41 fl_9033 (x_kk rfl) (x_kk rfl) rfl ?_
  refine e_if_leF (M := mX9_charge) 51 dX9_charge_44 rfl (show ¬ ((2 : Int32) ≤ 0) by decide) ?_
  refine f_lconst (M := mX9_charge) 48 dX9_charge_47 kl_0 rfl ?_
  refine f_goto (M := mX9_charge) 56 dX9_charge_48 rfl ?_
  refine e_rl (M := mX9_charge) dX9_charge_56 rfl (x_kk rfl) (x_kk rfl) ?_
  rfl
theorem kf_endMonth_0 {N β : Nat} {a : Nat → Int32} {b : Nat → Int64} (H : y_CS N I L R β a b) {Ns Np Nl Nm : Nat} (Z : y_Z a Ns Np Nl Nm) (h0 : ¬ (a 0 = 3)) : x_Cv X mX8_endMonth [.ref 0] (I, L, R) 233 (.inr 0, (I, L, R), 233) := by
  obtain ⟨hNs, hn, hNp, hp, hNl, hl, hNm, hmm⟩ := Z
  have hR := h_R H
  have hβ := h_β H
  have hS := h_S H
  show x_Ev X mX8_endMonth 0 [some (.ref 0)] [] ((I, L, R), 233, 0, 0) _
  refine f_aload_n (M := mX8_endMonth) 1 dX8_endMonth_0 rfl rfl ?_
  refine e_getR (M := mX8_endMonth) dX8_endMonth_1 fl_8026 (x_kk rfl) (x_kk rfl) rfl hS ?_
  refine e_getI (M := mX8_endMonth) dX8_endMonth_4 fl_8067 (x_kk rfl) (sl_lt hβ 0 rfl) (sl_s hβ 0 rfl rfl) ?_
  refine f_iconst (M := mX8_endMonth) 8 dX8_endMonth_7 ki_3 rfl ?_
  refine e_icmp_neT (M := mX8_endMonth) 30 dX8_endMonth_8 rfl (by rw [h_ph H]; exact h0) ?_
  refine f_iconst (M := mX8_endMonth) 31 dX8_endMonth_30 ki_0 rfl ?_
  exact e_cSX (M := mX8_endMonth) 1 6 dX8_endMonth_31 pa_8037 cc_8037 rfl rfl rfl rfl rfl (x_kk rfl) (x_kk rfl) rfl (c_X8_requireState_x rfl) rfl
theorem kf_endMonth_1 {N β : Nat} {a : Nat → Int32} {b : Nat → Int64} (H : y_CS N I L R β a b) {Ns Np Nl Nm : Nat} (Z : y_Z a Ns Np Nl Nm) (h0 : a 0 = 3) (h1 : ¬ (¬ a 13 = 35)) : x_Cv X mX8_endMonth [.ref 0] (I, L, R) 233 (.inr 0, (I, L, R), 233) := by
  obtain ⟨hNs, hn, hNp, hp, hNl, hl, hNm, hmm⟩ := Z
  have hR := h_R H
  have hβ := h_β H
  have hS := h_S H
  show x_Ev X mX8_endMonth 0 [some (.ref 0)] [] ((I, L, R), 233, 0, 0) _
  refine f_aload_n (M := mX8_endMonth) 1 dX8_endMonth_0 rfl rfl ?_
  refine e_getR (M := mX8_endMonth) dX8_endMonth_1 fl_8026 (x_kk rfl) (x_kk rfl) rfl hS ?_
  refine e_getI (M := mX8_endMonth) dX8_endMonth_4 fl_8067 (x_kk rfl) (sl_lt hβ 0 rfl) (sl_s hβ 0 rfl rfl) ?_
  refine f_iconst (M := mX8_endMonth) 8 dX8_endMonth_7 ki_3 rfl ?_
  refine e_icmp_neF (M := mX8_endMonth) 30 dX8_endMonth_8 rfl (fun z => z (by rw [h_ph H]; exact h0)) ?_
  refine f_aload_n (M := mX8_endMonth) 12 dX8_endMonth_11 rfl rfl ?_
  refine e_getR (M := mX8_endMonth) dX8_endMonth_12 fl_8026 (x_kk rfl) (x_kk rfl) rfl hS ?_
  refine e_getR (M := mX8_endMonth) dX8_endMonth_15 fl_8227 (x_kk rfl) (sl_lt hβ 0 rfl) (sl_s hβ 0 rfl rfl) (wf_6_4 hR hβ) ?_
  refine e_getI (M := mX8_endMonth) dX8_endMonth_18 fl_8254 (x_kk rfl) (sl_lt hβ 12 rfl) (sl_s hβ 12 rfl rfl) ?_
  refine f_bipush (M := mX8_endMonth) 23 dX8_endMonth_21 kb_35 rfl ?_
  refine e_icmp_geT (M := mX8_endMonth) 30 dX8_endMonth_23 rfl (i_nlt.mp (by rw [(h_K H).2.2.2.2.2.1]; exact fun z => h1 ((nm35 hNm hmm).mp z))) ?_
  refine f_iconst (M := mX8_endMonth) 31 dX8_endMonth_30 ki_0 rfl ?_
  exact e_cSX (M := mX8_endMonth) 1 6 dX8_endMonth_31 pa_8037 cc_8037 rfl rfl rfl rfl rfl (x_kk rfl) (x_kk rfl) rfl (c_X8_requireState_x rfl) rfl
theorem mf_endMonth_0 (hR : x_wf R) {Ns Np Nl Nm : Nat} (Z : y_Z (I 226) Ns Np Nl Nm) (h0 : ¬ (I 226 0 = 3)) : x_Cv X mX9_endMonth [.ref 225] (I, L, R) 233 (.inl (some (.long (0))), (x_tw I 1, L, R), 233) := by
  obtain ⟨hNs, hn, hNp, hp, hNl, hl, hNm, hmm⟩ := Z
  show x_Ev X mX9_endMonth 0 [some (.ref 225)] [] ((I, L, R), 233, 0, 0) _
  refine f_aload_n (M := mX9_endMonth) 1 dX9_endMonth_0 rfl rfl ?_
  refine f_aload_n (M := mX9_endMonth) 2 dX9_endMonth_1 rfl rfl ?_
  refine e_getR (M := mX9_endMonth) dX9_endMonth_2 fl_9007 (x_kk rfl) (x_kk rfl) rfl (wf_9_0 hR) ?_
  refine f_iconst (M := mX9_endMonth) 6 dX9_endMonth_5 ki_0 rfl ?_
  refine e_ild (M := mX9_endMonth) (w := 606) (j := 0) dX9_endMonth_6 (x_kk rfl) rfl kn_0 (by omega) (by omega) ?_
  refine f_iconst (M := mX9_endMonth) 8 dX9_endMonth_7 ki_3 rfl ?_
  refine e_icmp_neT (M := mX9_endMonth) 23 dX9_endMonth_8 rfl h0 ?_
  refine f_iconst (M := mX9_endMonth) 24 dX9_endMonth_23 ki_1 rfl ?_
  refine f_goto (M := mX9_endMonth) 28 dX9_endMonth_24 rfl ?_
  refine e_putI (M := mX9_endMonth) dX9_endMonth_28 fl_9033 (x_kk rfl) (x_kk rfl) rfl (fun q9 => Bool.noConfusion q9) ?_
  refine f_aload_n (M := mX9_endMonth) 32 dX9_endMonth_31 rfl rfl ?_
  refine e_getI (M := mX9_endMonth) dX9_endMonth_32 fl_9033 (x_kk rfl) (x_kk rfl) rfl ?_
  refine e_if_leF (M := mX9_endMonth) 40 dX9_endMonth_35 rfl (show ¬ ((1 : Int32) ≤ 0) by decide) ?_
  refine f_lconst (M := mX9_endMonth) 39 dX9_endMonth_38 kl_0 rfl ?_
  refine e_rl (M := mX9_endMonth) dX9_endMonth_39 rfl (x_kk rfl) (x_kk rfl) ?_
  rfl
theorem mf_endMonth_1 (hR : x_wf R) {Ns Np Nl Nm : Nat} (Z : y_Z (I 226) Ns Np Nl Nm) (h0 : I 226 0 = 3) (h1 : ¬ (¬ I 226 13 = 35)) : x_Cv X mX9_endMonth [.ref 225] (I, L, R) 233 (.inl (some (.long (0))), (x_tw I 1, L, R), 233) := by
  obtain ⟨hNs, hn, hNp, hp, hNl, hl, hNm, hmm⟩ := Z
  show x_Ev X mX9_endMonth 0 [some (.ref 225)] [] ((I, L, R), 233, 0, 0) _
  refine f_aload_n (M := mX9_endMonth) 1 dX9_endMonth_0 rfl rfl ?_
  refine f_aload_n (M := mX9_endMonth) 2 dX9_endMonth_1 rfl rfl ?_
  refine e_getR (M := mX9_endMonth) dX9_endMonth_2 fl_9007 (x_kk rfl) (x_kk rfl) rfl (wf_9_0 hR) ?_
  refine f_iconst (M := mX9_endMonth) 6 dX9_endMonth_5 ki_0 rfl ?_
  refine e_ild (M := mX9_endMonth) (w := 606) (j := 0) dX9_endMonth_6 (x_kk rfl) rfl kn_0 (by omega) (by omega) ?_
  refine f_iconst (M := mX9_endMonth) 8 dX9_endMonth_7 ki_3 rfl ?_
  refine e_icmp_neF (M := mX9_endMonth) 23 dX9_endMonth_8 rfl (fun z => z h0) ?_
  refine f_aload_n (M := mX9_endMonth) 12 dX9_endMonth_11 rfl rfl ?_
  refine e_getR (M := mX9_endMonth) dX9_endMonth_12 fl_9007 (x_kk rfl) (x_kk rfl) rfl (wf_9_0 hR) ?_
  refine f_bipush (M := mX9_endMonth) 17 dX9_endMonth_15 kb_13 rfl ?_
  refine e_ild (M := mX9_endMonth) (w := 606) (j := 13) dX9_endMonth_17 (x_kk rfl) rfl kn_13 (by omega) (by omega) ?_
  refine f_bipush (M := mX9_endMonth) 20 dX9_endMonth_18 kb_35 rfl ?_
  refine e_icmp_neF (M := mX9_endMonth) 27 dX9_endMonth_20 rfl h1 ?_
  refine f_iconst (M := mX9_endMonth) 24 dX9_endMonth_23 ki_1 rfl ?_
  refine f_goto (M := mX9_endMonth) 28 dX9_endMonth_24 rfl ?_
  refine e_putI (M := mX9_endMonth) dX9_endMonth_28 fl_9033 (x_kk rfl) (x_kk rfl) rfl (fun q9 => Bool.noConfusion q9) ?_
  refine f_aload_n (M := mX9_endMonth) 32 dX9_endMonth_31 rfl rfl ?_
  refine e_getI (M := mX9_endMonth) dX9_endMonth_32 fl_9033 (x_kk rfl) (x_kk rfl) rfl ?_
  refine e_if_leF (M := mX9_endMonth) 40 dX9_endMonth_35 rfl (show ¬ ((1 : Int32) ≤ 0) by decide) ?_
  refine f_lconst (M := mX9_endMonth) 39 dX9_endMonth_38 kl_0 rfl ?_
  refine e_rl (M := mX9_endMonth) dX9_endMonth_39 rfl (x_kk rfl) (x_kk rfl) ?_
  rfl
theorem kf_close_0 {N β : Nat} {a : Nat → Int32} {b : Nat → Int64} (H : y_CS N I L R β a b) {Ns Np Nl Nm : Nat} (Z : y_Z a Ns Np Nl Nm) (h0 : ¬ (a 0 = 3)) : x_Cv X mX8_close [.ref 0] (I, L, R) 233 (.inr 0, (I, L, R), 233) := by
  obtain ⟨hNs, hn, hNp, hp, hNl, hl, hNm, hmm⟩ := Z
  have hR := h_R H
  have hβ := h_β H
  have hS := h_S H
  show x_Ev X mX8_close 0 [some (.ref 0)] [] ((I, L, R), 233, 0, 0) _
  refine f_aload_n (M := mX8_close) 1 dX8_close_0 rfl rfl ?_
  refine e_getR (M := mX8_close) dX8_close_1 fl_8026 (x_kk rfl) (x_kk rfl) rfl hS ?_
  refine e_getI (M := mX8_close) dX8_close_4 fl_8067 (x_kk rfl) (sl_lt hβ 0 rfl) (sl_s hβ 0 rfl rfl) ?_
  refine f_iconst (M := mX8_close) 8 dX8_close_7 ki_3 rfl ?_
  refine e_icmp_neT (M := mX8_close) 15 dX8_close_8 rfl (by rw [h_ph H]; exact h0) ?_
  refine f_iconst (M := mX8_close) 16 dX8_close_15 ki_0 rfl ?_
  exact e_cSX (M := mX8_close) 1 6 dX8_close_16 pa_8037 cc_8037 rfl rfl rfl rfl rfl (x_kk rfl) (x_kk rfl) rfl (c_X8_requireState_x rfl) rfl
theorem mf_close_0 (hR : x_wf R) {Ns Np Nl Nm : Nat} (Z : y_Z (I 226) Ns Np Nl Nm) (h0 : ¬ (I 226 0 = 3)) : x_Cv X mX9_close [.ref 225] (I, L, R) 233 (.inl (some (.long (0))), (x_tw I 1, L, R), 233) := by
  obtain ⟨hNs, hn, hNp, hp, hNl, hl, hNm, hmm⟩ := Z
  show x_Ev X mX9_close 0 [some (.ref 225), none, none] [] ((I, L, R), 233, 0, 0) _
  refine f_aload_n (M := mX9_close) 1 dX9_close_0 rfl rfl ?_
  refine f_aload_n (M := mX9_close) 2 dX9_close_1 rfl rfl ?_
  refine e_getR (M := mX9_close) dX9_close_2 fl_9007 (x_kk rfl) (x_kk rfl) rfl (wf_9_0 hR) ?_
  refine f_iconst (M := mX9_close) 6 dX9_close_5 ki_0 rfl ?_
  refine e_ild (M := mX9_close) (w := 606) (j := 0) dX9_close_6 (x_kk rfl) rfl kn_0 (by omega) (by omega) ?_
  refine f_iconst (M := mX9_close) 8 dX9_close_7 ki_3 rfl ?_
  refine e_icmp_neT (M := mX9_close) 15 dX9_close_8 rfl h0 ?_
  refine f_iconst (M := mX9_close) 16 dX9_close_15 ki_1 rfl ?_
  refine e_putI (M := mX9_close) dX9_close_16 fl_9033 (x_kk rfl) (x_kk rfl) rfl (fun q9 => Bool.noConfusion q9) ?_
  refine f_aload_n (M := mX9_close) 20 dX9_close_19 rfl rfl ?_
  refine e_getI (M := mX9_close) dX9_close_20 fl_9033 (x_kk rfl) (x_kk rfl) rfl ?_
  refine e_if_leF (M := mX9_close) 28 dX9_close_23 rfl (show ¬ ((1 : Int32) ≤ 0) by decide) ?_
  refine f_lconst (M := mX9_close) 27 dX9_close_26 kl_0 rfl ?_
  refine e_rl (M := mX9_close) dX9_close_27 rfl (x_kk rfl) (x_kk rfl) ?_
  rfl
theorem kf_damages_0 {N β : Nat} {a : Nat → Int32} {b : Nat → Int64} (H : y_CS N I L R β a b) {Ns Np Nl Nm : Nat} (Z : y_Z a Ns Np Nl Nm) (h0 : ¬ (a 0 = 8)) : x_Cv X mX8_damages [.ref 0] (I, L, R) 233 (.inr 0, (I, L, R), 233) := by
  obtain ⟨hNs, hn, hNp, hp, hNl, hl, hNm, hmm⟩ := Z
  have hR := h_R H
  have hβ := h_β H
  have hS := h_S H
  show x_Ev X mX8_damages 0 [some (.ref 0)] [] ((I, L, R), 233, 0, 0) _
  refine f_aload_n (M := mX8_damages) 1 dX8_damages_0 rfl rfl ?_
  refine e_getR (M := mX8_damages) dX8_damages_1 fl_8026 (x_kk rfl) (x_kk rfl) rfl hS ?_
  refine e_getI (M := mX8_damages) dX8_damages_4 fl_8067 (x_kk rfl) (sl_lt hβ 0 rfl) (sl_s hβ 0 rfl rfl) ?_
  refine f_bipush (M := mX8_damages) 9 dX8_damages_7 kb_8 rfl ?_
  refine e_icmp_neT (M := mX8_damages) 16 dX8_damages_9 rfl (by rw [h_ph H]; exact h0) ?_
  refine f_iconst (M := mX8_damages) 17 dX8_damages_16 ki_0 rfl ?_
  exact e_cSX (M := mX8_damages) 1 6 dX8_damages_17 pa_8037 cc_8037 rfl rfl rfl rfl rfl (x_kk rfl) (x_kk rfl) rfl (c_X8_requireState_x rfl) rfl
theorem mf_damages_0 (hR : x_wf R) {Ns Np Nl Nm : Nat} (Z : y_Z (I 226) Ns Np Nl Nm) (h0 : ¬ (I 226 0 = 8)) : x_Cv X mX9_damages [.ref 225] (I, L, R) 233 (.inl (some (.long (0))), (x_tw I 1, L, R), 233) := by
  obtain ⟨hNs, hn, hNp, hp, hNl, hl, hNm, hmm⟩ := Z
  show x_Ev X mX9_damages 0 [some (.ref 225), none, none, none] [] ((I, L, R), 233, 0, 0) _
  refine f_aload_n (M := mX9_damages) 1 dX9_damages_0 rfl rfl ?_
  refine f_aload_n (M := mX9_damages) 2 dX9_damages_1 rfl rfl ?_
  refine e_getR (M := mX9_damages) dX9_damages_2 fl_9007 (x_kk rfl) (x_kk rfl) rfl (wf_9_0 hR) ?_
  refine f_iconst (M := mX9_damages) 6 dX9_damages_5 ki_0 rfl ?_
  refine e_ild (M := mX9_damages) (w := 606) (j := 0) dX9_damages_6 (x_kk rfl) rfl kn_0 (by omega) (by omega) ?_
  refine f_bipush (M := mX9_damages) 9 dX9_damages_7 kb_8 rfl ?_
  refine e_icmp_neT (M := mX9_damages) 16 dX9_damages_9 rfl h0 ?_
  refine f_iconst (M := mX9_damages) 17 dX9_damages_16 ki_1 rfl ?_
  refine e_putI (M := mX9_damages) dX9_damages_17 fl_9033 (x_kk rfl) (x_kk rfl) rfl (fun q9 => Bool.noConfusion q9) ?_
  refine f_aload_n (M := mX9_damages) 21 dX9_damages_20 rfl rfl ?_
  refine e_getI (M := mX9_damages) dX9_damages_21 fl_9033 (x_kk rfl) (x_kk rfl) rfl ?_
  refine e_if_leF (M := mX9_damages) 29 dX9_damages_24 rfl (show ¬ ((1 : Int32) ≤ 0) by decide) ?_
  refine f_lconst (M := mX9_damages) 28 dX9_damages_27 kl_0 rfl ?_
  refine e_rl (M := mX9_damages) dX9_damages_28 rfl (x_kk rfl) (x_kk rfl) ?_
  rfl
theorem kf_turningPoint_0 {N β : Nat} {a : Nat → Int32} {b : Nat → Int64} (H : y_CS N I L R β a b) {Ns Np Nl Nm : Nat} (Z : y_Z a Ns Np Nl Nm) {v : Int32} (h0 : ¬ (0 ≤ v ∧ v ≤ a 8 - 1)) : x_Cv X mX8_turningPoint [.ref 0, .int v] (I, L, R) 233 (.inr 2, (I, L, R), 233) := by
  obtain ⟨hNs, hn, hNp, hp, hNl, hl, hNm, hmm⟩ := Z
  have hR := h_R H
  have hβ := h_β H
  have hS := h_S H
  show x_Ev X mX8_turningPoint 0 [some (.ref 0), some (.int v), none, none] [] ((I, L, R), 233, 0, 0) _
  refine f_aload_n (M := mX8_turningPoint) 1 dX8_turningPoint_0 rfl rfl ?_
  refine f_iload_n (M := mX8_turningPoint) 2 dX8_turningPoint_1 rfl rfl ?_
  refine e_cV (M := mX8_turningPoint) [_] 0 0 dX8_turningPoint_2 pa_8161 pb_8161 cc_8161 rfl rfl rfl rfl rfl (x_kk rfl) (x_kk rfl) rfl (k_isSpecies H) rfl ?_
  exact e_cSX (M := mX8_turningPoint) 1 6 dX8_turningPoint_5 pa_8103 cc_8103 rfl rfl rfl rfl rfl (x_kk rfl) (x_kk rfl) rfl (c_X8_requireExisting_x (x_b0 h0)) rfl
theorem kf_turningPoint_1 {N β : Nat} {a : Nat → Int32} {b : Nat → Int64} (H : y_CS N I L R β a b) {Ns Np Nl Nm : Nat} (Z : y_Z a Ns Np Nl Nm) {s : Nat} (hs : s < Ns) (h1 : ¬ (1 < a 0 ∧ ¬ a 0 = 6)) : x_Cv X mX8_turningPoint [.ref 0, .int (Int32.ofNat s)] (I, L, R) 233 (.inr 0, (I, L, R), 233) := by
  obtain ⟨hNs, hn, hNp, hp, hNl, hl, hNm, hmm⟩ := Z
  have hR := h_R H
  have hβ := h_β H
  have hS := h_S H
  show x_Ev X mX8_turningPoint 0 [some (.ref 0), some (.int (Int32.ofNat s)), none, none] [] ((I, L, R), 233, 0, 0) _
  refine f_aload_n (M := mX8_turningPoint) 1 dX8_turningPoint_0 rfl rfl ?_
  refine f_iload_n (M := mX8_turningPoint) 2 dX8_turningPoint_1 rfl rfl ?_
  refine e_cV (M := mX8_turningPoint) [_] 0 0 dX8_turningPoint_2 pa_8161 pb_8161 cc_8161 rfl rfl rfl rfl rfl (x_kk rfl) (x_kk rfl) rfl (k_isSpecies H) rfl ?_
  refine e_cS (M := mX8_turningPoint) [] 1 6 dX8_turningPoint_5 pa_8103 cc_8103 rfl rfl rfl rfl rfl (x_kk rfl) (x_kk rfl) rfl (c_X8_requireExisting (x_bn (in_ok hn (by omega) hs))) rfl ?_
  refine f_aload_n (M := mX8_turningPoint) 9 dX8_turningPoint_8 rfl rfl ?_
  refine e_getR (M := mX8_turningPoint) dX8_turningPoint_9 fl_8026 (x_kk rfl) (x_kk rfl) rfl hS ?_
  refine e_cV (M := mX8_turningPoint) [_] 1 6 dX8_turningPoint_12 pa_8195 pb_8195 cc_8195 rfl rfl rfl rfl rfl (x_kk rfl) (x_kk rfl) (x_rcvOK (sl_lt hβ 0 rfl) (sl_s hβ 0 rfl rfl) rfl) (k_hasOpenBids H) rfl ?_
  exact e_cSX (M := mX8_turningPoint) 2 12 dX8_turningPoint_15 pa_8037 cc_8037 rfl rfl rfl rfl rfl (x_kk rfl) (x_kk rfl) rfl (c_X8_requireState_x (x_b0 h1)) rfl
theorem mf_turningPoint_0 (hR : x_wf R) {Ns Np Nl Nm : Nat} (Z : y_Z (I 226) Ns Np Nl Nm) {v : Int32} (h0 : ¬ (0 ≤ v ∧ v ≤ I 226 8 - 1)) : x_Cv X mX9_turningPoint [.ref 225, .int v] (I, L, R) 233 (.inl (some (.int (0))), (x_tw I 1, L, R), 233) := by
  obtain ⟨hNs, hn, hNp, hp, hNl, hl, hNm, hmm⟩ := Z
  show x_Ev X mX9_turningPoint 0 [some (.ref 225), some (.int v), none, none] [] ((I, L, R), 233, 0, 0) _
  refine f_aload_n (M := mX9_turningPoint) 1 dX9_turningPoint_0 rfl rfl ?_
  refine f_aload_n (M := mX9_turningPoint) 2 dX9_turningPoint_1 rfl rfl ?_
  refine f_iload_n (M := mX9_turningPoint) 3 dX9_turningPoint_2 rfl rfl ?_
  refine e_cV (M := mX9_turningPoint) [_, _] 0 0 dX9_turningPoint_3 pa_9137 pb_9137 cc_9137 rfl rfl rfl rfl rfl (x_kk rfl) (x_kk rfl) rfl (c_X9_isSpecies hR) rfl ?_
  refine e_if_neF (M := mX9_turningPoint) 13 dX9_turningPoint_6 rfl (x_bnn h0) ?_
  refine f_iconst (M := mX9_turningPoint) 10 dX9_turningPoint_9 ki_1 rfl ?_
  refine f_goto (M := mX9_turningPoint) 25 dX9_turningPoint_10 rfl ?_
  refine e_putI (M := mX9_turningPoint) dX9_turningPoint_25 fl_9033 (x_kk rfl) (x_kk rfl) rfl (fun q9 => Bool.noConfusion q9) ?_
  refine f_aload_n (M := mX9_turningPoint) 29 dX9_turningPoint_28 rfl rfl ?_
  refine e_getI (M := mX9_turningPoint) dX9_turningPoint_29 fl_9033 (x_kk rfl) (x_kk rfl) rfl ?_
  refine e_if_leF (M := mX9_turningPoint) 37 dX9_turningPoint_32 rfl (show ¬ ((1 : Int32) ≤ 0) by decide) ?_
  refine f_iconst (M := mX9_turningPoint) 36 dX9_turningPoint_35 ki_0 rfl ?_
  refine e_ri (M := mX9_turningPoint) dX9_turningPoint_36 rfl (x_kk rfl) (x_kk rfl) ?_
  rfl
theorem mf_turningPoint_1 (hR : x_wf R) {Ns Np Nl Nm : Nat} (Z : y_Z (I 226) Ns Np Nl Nm) {s : Nat} (hs : s < Ns) (h1 : ¬ (1 < I 226 0 ∧ ¬ I 226 0 = 6)) : x_Cv X mX9_turningPoint [.ref 225, .int (Int32.ofNat s)] (I, L, R) 233 (.inl (some (.int (0))), (x_tw I 2, L, R), 233) := by
  obtain ⟨hNs, hn, hNp, hp, hNl, hl, hNm, hmm⟩ := Z
  show x_Ev X mX9_turningPoint 0 [some (.ref 225), some (.int (Int32.ofNat s)), none, none] [] ((I, L, R), 233, 0, 0) _
  refine f_aload_n (M := mX9_turningPoint) 1 dX9_turningPoint_0 rfl rfl ?_
  refine f_aload_n (M := mX9_turningPoint) 2 dX9_turningPoint_1 rfl rfl ?_
  refine f_iload_n (M := mX9_turningPoint) 3 dX9_turningPoint_2 rfl rfl ?_
  refine e_cV (M := mX9_turningPoint) [_, _] 0 0 dX9_turningPoint_3 pa_9137 pb_9137 cc_9137 rfl rfl rfl rfl rfl (x_kk rfl) (x_kk rfl) rfl (c_X9_isSpecies hR) rfl ?_
  refine e_if_neT (M := mX9_turningPoint) 13 dX9_turningPoint_6 rfl (x_bn (in_ok hn (by omega) hs)) ?_
  refine f_aload_n (M := mX9_turningPoint) 14 dX9_turningPoint_13 rfl rfl ?_
  refine e_cV (M := mX9_turningPoint) [_, _] 0 0 dX9_turningPoint_14 pa_9215 pb_9215 cc_9215 rfl rfl rfl rfl rfl (x_kk rfl) (x_kk rfl) rfl (c_X9_isOpened hR) rfl ?_
  refine e_if_neF (M := mX9_turningPoint) 24 dX9_turningPoint_17 rfl (x_bnn h1) ?_
  refine f_iconst (M := mX9_turningPoint) 21 dX9_turningPoint_20 ki_2 rfl ?_
  refine f_goto (M := mX9_turningPoint) 25 dX9_turningPoint_21 rfl ?_
  refine e_putI (M := mX9_turningPoint) dX9_turningPoint_25 fl_9033 (x_kk rfl) (x_kk rfl) rfl (fun q9 => Bool.noConfusion q9) ?_
  refine f_aload_n (M := mX9_turningPoint) 29 dX9_turningPoint_28 rfl rfl ?_
  refine e_getI (M := mX9_turningPoint) dX9_turningPoint_29 fl_9033 (x_kk rfl) (x_kk rfl) rfl ?_
  refine e_if_leF (M := mX9_turningPoint) 37 dX9_turningPoint_32 rfl (show ¬ ((2 : Int32) ≤ 0) by decide) ?_
  refine f_iconst (M := mX9_turningPoint) 36 dX9_turningPoint_35 ki_0 rfl ?_
  refine e_ri (M := mX9_turningPoint) dX9_turningPoint_36 rfl (x_kk rfl) (x_kk rfl) ?_
  rfl
theorem kf_leastWinningRate_0 {N β : Nat} {a : Nat → Int32} {b : Nat → Int64} (H : y_CS N I L R β a b) {Ns Np Nl Nm : Nat} (Z : y_Z a Ns Np Nl Nm) {u : Int32} {v : Int32} (h0 : ¬ (0 ≤ u ∧ u ≤ 7)) : x_Cv X mX8_leastWinningRate [.ref 0, .int u, .int v] (I, L, R) 233 (.inr 2, (I, L, R), 233) := by
  obtain ⟨hNs, hn, hNp, hp, hNl, hl, hNm, hmm⟩ := Z
  have hR := h_R H
  have hβ := h_β H
  have hS := h_S H
  show x_Ev X mX8_leastWinningRate 0 [some (.ref 0), some (.int u), some (.int v), none] [] ((I, L, R), 233, 0, 0) _
  refine f_iload_n (M := mX8_leastWinningRate) 1 dX8_leastWinningRate_0 rfl rfl ?_
  refine e_cS (M := mX8_leastWinningRate) [_] 0 0 dX8_leastWinningRate_1 pa_8164 cc_8164 rfl rfl rfl rfl rfl (x_kk rfl) (x_kk rfl) rfl (c_X8_isBidder) rfl ?_
  refine e_if_eqT (M := mX8_leastWinningRate) 19 dX8_leastWinningRate_4 rfl (x_b0 h0) ?_
  refine f_iconst (M := mX8_leastWinningRate) 20 dX8_leastWinningRate_19 ki_0 rfl ?_
  exact e_cSX (M := mX8_leastWinningRate) 1 6 dX8_leastWinningRate_20 pa_8103 cc_8103 rfl rfl rfl rfl rfl (x_kk rfl) (x_kk rfl) rfl (c_X8_requireExisting_x rfl) rfl
theorem kf_leastWinningRate_1 {N β : Nat} {a : Nat → Int32} {b : Nat → Int64} (H : y_CS N I L R β a b) {Ns Np Nl Nm : Nat} (Z : y_Z a Ns Np Nl Nm) {v : Int32} {q : Nat} (hq : q < 8) (h1 : ¬ (0 ≤ v ∧ v ≤ a 8 - 1)) : x_Cv X mX8_leastWinningRate [.ref 0, .int (Int32.ofNat q), .int v] (I, L, R) 233 (.inr 2, (I, L, R), 233) := by
  obtain ⟨hNs, hn, hNp, hp, hNl, hl, hNm, hmm⟩ := Z
  have hR := h_R H
  have hβ := h_β H
  have hS := h_S H
  show x_Ev X mX8_leastWinningRate 0 [some (.ref 0), some (.int (Int32.ofNat q)), some (.int v), none] [] ((I, L, R), 233, 0, 0) _
  refine f_iload_n (M := mX8_leastWinningRate) 1 dX8_leastWinningRate_0 rfl rfl ?_
  refine e_cS (M := mX8_leastWinningRate) [_] 0 0 dX8_leastWinningRate_1 pa_8164 cc_8164 rfl rfl rfl rfl rfl (x_kk rfl) (x_kk rfl) rfl (c_X8_isBidder) rfl ?_
  refine e_if_eqF (M := mX8_leastWinningRate) 19 dX8_leastWinningRate_4 rfl (x_bn (ib_ok kn_7 (by omega) (by omega))) ?_
  refine f_aload_n (M := mX8_leastWinningRate) 8 dX8_leastWinningRate_7 rfl rfl ?_
  refine f_iload_n (M := mX8_leastWinningRate) 9 dX8_leastWinningRate_8 rfl rfl ?_
  refine e_cV (M := mX8_leastWinningRate) [_] 0 0 dX8_leastWinningRate_9 pa_8161 pb_8161 cc_8161 rfl rfl rfl rfl rfl (x_kk rfl) (x_kk rfl) rfl (k_isSpecies H) rfl ?_
  refine e_if_eqT (M := mX8_leastWinningRate) 19 dX8_leastWinningRate_12 rfl (x_b0 h1) ?_
  refine f_iconst (M := mX8_leastWinningRate) 20 dX8_leastWinningRate_19 ki_0 rfl ?_
  exact e_cSX (M := mX8_leastWinningRate) 1 6 dX8_leastWinningRate_20 pa_8103 cc_8103 rfl rfl rfl rfl rfl (x_kk rfl) (x_kk rfl) rfl (c_X8_requireExisting_x rfl) rfl
theorem kf_leastWinningRate_2 {N β : Nat} {a : Nat → Int32} {b : Nat → Int64} (H : y_CS N I L R β a b) {Ns Np Nl Nm : Nat} (Z : y_Z a Ns Np Nl Nm) {q : Nat} (hq : q < 8) {s : Nat} (hs : s < Ns) (h2 : ¬ (1 < a 0 ∧ ¬ a 0 = 6)) : x_Cv X mX8_leastWinningRate [.ref 0, .int (Int32.ofNat q), .int (Int32.ofNat s)] (I, L, R) 233 (.inr 0, (I, L, R), 233) := by
  obtain ⟨hNs, hn, hNp, hp, hNl, hl, hNm, hmm⟩ := Z
  have hR := h_R H
  have hβ := h_β H
  have hS := h_S H
  show x_Ev X mX8_leastWinningRate 0 [some (.ref 0), some (.int (Int32.ofNat q)), some (.int (Int32.ofNat s)), none] [] ((I, L, R), 233, 0, 0) _
  refine f_iload_n (M := mX8_leastWinningRate) 1 dX8_leastWinningRate_0 rfl rfl ?_
  refine e_cS (M := mX8_leastWinningRate) [_] 0 0 dX8_leastWinningRate_1 pa_8164 cc_8164 rfl rfl rfl rfl rfl (x_kk rfl) (x_kk rfl) rfl (c_X8_isBidder) rfl ?_
  refine e_if_eqF (M := mX8_leastWinningRate) 19 dX8_leastWinningRate_4 rfl (x_bn (ib_ok kn_7 (by omega) (by omega))) ?_
  refine f_aload_n (M := mX8_leastWinningRate) 8 dX8_leastWinningRate_7 rfl rfl ?_
  refine f_iload_n (M := mX8_leastWinningRate) 9 dX8_leastWinningRate_8 rfl rfl ?_
  refine e_cV (M := mX8_leastWinningRate) [_] 0 0 dX8_leastWinningRate_9 pa_8161 pb_8161 cc_8161 rfl rfl rfl rfl rfl (x_kk rfl) (x_kk rfl) rfl (k_isSpecies H) rfl ?_
  refine e_if_eqF (M := mX8_leastWinningRate) 19 dX8_leastWinningRate_12 rfl (x_bn (in_ok hn (by omega) hs)) ?_
  refine f_iconst (M := mX8_leastWinningRate) 16 dX8_leastWinningRate_15 ki_1 rfl ?_
  refine f_goto (M := mX8_leastWinningRate) 20 dX8_leastWinningRate_16 rfl ?_
  refine e_cS (M := mX8_leastWinningRate) [] 1 6 dX8_leastWinningRate_20 pa_8103 cc_8103 rfl rfl rfl rfl rfl (x_kk rfl) (x_kk rfl) rfl (c_X8_requireExisting (by decide)) rfl ?_
  refine f_aload_n (M := mX8_leastWinningRate) 24 dX8_leastWinningRate_23 rfl rfl ?_
  refine e_getR (M := mX8_leastWinningRate) dX8_leastWinningRate_24 fl_8026 (x_kk rfl) (x_kk rfl) rfl hS ?_
  refine e_cV (M := mX8_leastWinningRate) [_] 1 6 dX8_leastWinningRate_27 pa_8195 pb_8195 cc_8195 rfl rfl rfl rfl rfl (x_kk rfl) (x_kk rfl) (x_rcvOK (sl_lt hβ 0 rfl) (sl_s hβ 0 rfl rfl) rfl) (k_hasOpenBids H) rfl ?_
  exact e_cSX (M := mX8_leastWinningRate) 2 12 dX8_leastWinningRate_30 pa_8037 cc_8037 rfl rfl rfl rfl rfl (x_kk rfl) (x_kk rfl) rfl (c_X8_requireState_x (x_b0 h2)) rfl
theorem mf_leastWinningRate_0 (hR : x_wf R) {Ns Np Nl Nm : Nat} (Z : y_Z (I 226) Ns Np Nl Nm) {u : Int32} {v : Int32} (h0 : ¬ (0 ≤ u ∧ u ≤ 7)) : x_Cv X mX9_leastWinningRate [.ref 225, .int u, .int v] (I, L, R) 233 (.inl (some (.int (0))), (x_tw I 1, L, R), 233) := by
  obtain ⟨hNs, hn, hNp, hp, hNl, hl, hNm, hmm⟩ := Z
  show x_Ev X mX9_leastWinningRate 0 [some (.ref 225), some (.int u), some (.int v), none, none] [] ((I, L, R), 233, 0, 0) _
  refine f_aload_n (M := mX9_leastWinningRate) 1 dX9_leastWinningRate_0 rfl rfl ?_
  refine f_iload_n (M := mX9_leastWinningRate) 2 dX9_leastWinningRate_1 rfl rfl ?_
  refine e_cS (M := mX9_leastWinningRate) [_, _] 0 0 dX9_leastWinningRate_2 pa_9185 cc_9185 rfl rfl rfl rfl rfl (x_kk rfl) (x_kk rfl) rfl (c_X9_isBidder) rfl ?_
  refine e_if_eqT (M := mX9_leastWinningRate) 16 dX9_leastWinningRate_5 rfl (x_b0 h0) ?_
  refine f_iconst (M := mX9_leastWinningRate) 17 dX9_leastWinningRate_16 ki_1 rfl ?_
  refine f_goto (M := mX9_leastWinningRate) 32 dX9_leastWinningRate_17 rfl ?_
  refine e_putI (M := mX9_leastWinningRate) dX9_leastWinningRate_32 fl_9033 (x_kk rfl) (x_kk rfl) rfl (fun q9 => Bool.noConfusion q9) ?_
  refine f_aload_n (M := mX9_leastWinningRate) 36 dX9_leastWinningRate_35 rfl rfl ?_
  refine e_getI (M := mX9_leastWinningRate) dX9_leastWinningRate_36 fl_9033 (x_kk rfl) (x_kk rfl) rfl ?_
  refine e_if_leF (M := mX9_leastWinningRate) 44 dX9_leastWinningRate_39 rfl (show ¬ ((1 : Int32) ≤ 0) by decide) ?_
  refine f_iconst (M := mX9_leastWinningRate) 43 dX9_leastWinningRate_42 ki_0 rfl ?_
  refine e_ri (M := mX9_leastWinningRate) dX9_leastWinningRate_43 rfl (x_kk rfl) (x_kk rfl) ?_
  rfl
theorem mf_leastWinningRate_1 (hR : x_wf R) {Ns Np Nl Nm : Nat} (Z : y_Z (I 226) Ns Np Nl Nm) {v : Int32} {q : Nat} (hq : q < 8) (h1 : ¬ (0 ≤ v ∧ v ≤ I 226 8 - 1)) : x_Cv X mX9_leastWinningRate [.ref 225, .int (Int32.ofNat q), .int v] (I, L, R) 233 (.inl (some (.int (0))), (x_tw I 1, L, R), 233) := by
  obtain ⟨hNs, hn, hNp, hp, hNl, hl, hNm, hmm⟩ := Z
  show x_Ev X mX9_leastWinningRate 0 [some (.ref 225), some (.int (Int32.ofNat q)), some (.int v), none, none] [] ((I, L, R), 233, 0, 0) _
  refine f_aload_n (M := mX9_leastWinningRate) 1 dX9_leastWinningRate_0 rfl rfl ?_
  refine f_iload_n (M := mX9_leastWinningRate) 2 dX9_leastWinningRate_1 rfl rfl ?_
  refine e_cS (M := mX9_leastWinningRate) [_, _] 0 0 dX9_leastWinningRate_2 pa_9185 cc_9185 rfl rfl rfl rfl rfl (x_kk rfl) (x_kk rfl) rfl (c_X9_isBidder) rfl ?_
  refine e_if_eqF (M := mX9_leastWinningRate) 16 dX9_leastWinningRate_5 rfl (x_bn (ib_ok kn_7 (by omega) (by omega))) ?_
  refine f_aload_n (M := mX9_leastWinningRate) 9 dX9_leastWinningRate_8 rfl rfl ?_
  refine f_iload_n (M := mX9_leastWinningRate) 10 dX9_leastWinningRate_9 rfl rfl ?_
  refine e_cV (M := mX9_leastWinningRate) [_, _] 0 0 dX9_leastWinningRate_10 pa_9137 pb_9137 cc_9137 rfl rfl rfl rfl rfl (x_kk rfl) (x_kk rfl) rfl (c_X9_isSpecies hR) rfl ?_
  refine e_if_neF (M := mX9_leastWinningRate) 20 dX9_leastWinningRate_13 rfl (x_bnn h1) ?_
  refine f_iconst (M := mX9_leastWinningRate) 17 dX9_leastWinningRate_16 ki_1 rfl ?_
  refine f_goto (M := mX9_leastWinningRate) 32 dX9_leastWinningRate_17 rfl ?_
  refine e_putI (M := mX9_leastWinningRate) dX9_leastWinningRate_32 fl_9033 (x_kk rfl) (x_kk rfl) rfl (fun q9 => Bool.noConfusion q9) ?_
  refine f_aload_n (M := mX9_leastWinningRate) 36 dX9_leastWinningRate_35 rfl rfl ?_
  refine e_getI (M := mX9_leastWinningRate) dX9_leastWinningRate_36 fl_9033 (x_kk rfl) (x_kk rfl) rfl ?_
  refine e_if_leF (M := mX9_leastWinningRate) 44 dX9_leastWinningRate_39 rfl (show ¬ ((1 : Int32) ≤ 0) by decide) ?_
  refine f_iconst (M := mX9_leastWinningRate) 43 dX9_leastWinningRate_42 ki_0 rfl ?_
  refine e_ri (M := mX9_leastWinningRate) dX9_leastWinningRate_43 rfl (x_kk rfl) (x_kk rfl) ?_
  rfl
theorem mf_leastWinningRate_2 (hR : x_wf R) {Ns Np Nl Nm : Nat} (Z : y_Z (I 226) Ns Np Nl Nm) {q : Nat} (hq : q < 8) {s : Nat} (hs : s < Ns) (h2 : ¬ (1 < I 226 0 ∧ ¬ I 226 0 = 6)) : x_Cv X mX9_leastWinningRate [.ref 225, .int (Int32.ofNat q), .int (Int32.ofNat s)] (I, L, R) 233 (.inl (some (.int (0))), (x_tw I 2, L, R), 233) := by
  obtain ⟨hNs, hn, hNp, hp, hNl, hl, hNm, hmm⟩ := Z
  show x_Ev X mX9_leastWinningRate 0 [some (.ref 225), some (.int (Int32.ofNat q)), some (.int (Int32.ofNat s)), none, none] [] ((I, L, R), 233, 0, 0) _
  refine f_aload_n (M := mX9_leastWinningRate) 1 dX9_leastWinningRate_0 rfl rfl ?_
  refine f_iload_n (M := mX9_leastWinningRate) 2 dX9_leastWinningRate_1 rfl rfl ?_
  refine e_cS (M := mX9_leastWinningRate) [_, _] 0 0 dX9_leastWinningRate_2 pa_9185 cc_9185 rfl rfl rfl rfl rfl (x_kk rfl) (x_kk rfl) rfl (c_X9_isBidder) rfl ?_
  refine e_if_eqF (M := mX9_leastWinningRate) 16 dX9_leastWinningRate_5 rfl (x_bn (ib_ok kn_7 (by omega) (by omega))) ?_
  refine f_aload_n (M := mX9_leastWinningRate) 9 dX9_leastWinningRate_8 rfl rfl ?_
  refine f_iload_n (M := mX9_leastWinningRate) 10 dX9_leastWinningRate_9 rfl rfl ?_
  refine e_cV (M := mX9_leastWinningRate) [_, _] 0 0 dX9_leastWinningRate_10 pa_9137 pb_9137 cc_9137 rfl rfl rfl rfl rfl (x_kk rfl) (x_kk rfl) rfl (c_X9_isSpecies hR) rfl ?_
  refine e_if_neT (M := mX9_leastWinningRate) 20 dX9_leastWinningRate_13 rfl (x_bn (in_ok hn (by omega) hs)) ?_
  refine f_aload_n (M := mX9_leastWinningRate) 21 dX9_leastWinningRate_20 rfl rfl ?_
  refine e_cV (M := mX9_leastWinningRate) [_, _] 0 0 dX9_leastWinningRate_21 pa_9215 pb_9215 cc_9215 rfl rfl rfl rfl rfl (x_kk rfl) (x_kk rfl) rfl (c_X9_isOpened hR) rfl ?_
  refine e_if_neF (M := mX9_leastWinningRate) 31 dX9_leastWinningRate_24 rfl (x_bnn h2) ?_
  refine f_iconst (M := mX9_leastWinningRate) 28 dX9_leastWinningRate_27 ki_2 rfl ?_
  refine f_goto (M := mX9_leastWinningRate) 32 dX9_leastWinningRate_28 rfl ?_
  refine e_putI (M := mX9_leastWinningRate) dX9_leastWinningRate_32 fl_9033 (x_kk rfl) (x_kk rfl) rfl (fun q9 => Bool.noConfusion q9) ?_
  refine f_aload_n (M := mX9_leastWinningRate) 36 dX9_leastWinningRate_35 rfl rfl ?_
  refine e_getI (M := mX9_leastWinningRate) dX9_leastWinningRate_36 fl_9033 (x_kk rfl) (x_kk rfl) rfl ?_
  refine e_if_leF (M := mX9_leastWinningRate) 44 dX9_leastWinningRate_39 rfl (show ¬ ((2 : Int32) ≤ 0) by decide) ?_
  refine f_iconst (M := mX9_leastWinningRate) 43 dX9_leastWinningRate_42 ki_0 rfl ?_
  refine e_ri (M := mX9_leastWinningRate) dX9_leastWinningRate_43 rfl (x_kk rfl) (x_kk rfl) ?_
  rfl
theorem kf_value_0 {N β : Nat} {a : Nat → Int32} {b : Nat → Int64} (H : y_CS N I L R β a b) {Ns Np Nl Nm : Nat} (Z : y_Z a Ns Np Nl Nm) {u : Int32} (h0 : ¬ (0 ≤ u ∧ u ≤ 7)) : x_Cv X mX8_value [.ref 0, .int u] (I, L, R) 233 (.inr 2, (I, L, R), 233) := by
  obtain ⟨hNs, hn, hNp, hp, hNl, hl, hNm, hmm⟩ := Z
  have hR := h_R H
  have hβ := h_β H
  have hS := h_S H
  show x_Ev X mX8_value 0 [some (.ref 0), some (.int u)] [] ((I, L, R), 233, 0, 0) _
  refine f_iload_n (M := mX8_value) 1 dX8_value_0 rfl rfl ?_
  refine e_cS (M := mX8_value) [_] 0 0 dX8_value_1 pa_8164 cc_8164 rfl rfl rfl rfl rfl (x_kk rfl) (x_kk rfl) rfl (c_X8_isBidder) rfl ?_
  exact e_cSX (M := mX8_value) 1 6 dX8_value_4 pa_8103 cc_8103 rfl rfl rfl rfl rfl (x_kk rfl) (x_kk rfl) rfl (c_X8_requireExisting_x (x_b0 h0)) rfl
theorem kf_value_1 {N β : Nat} {a : Nat → Int32} {b : Nat → Int64} (H : y_CS N I L R β a b) {Ns Np Nl Nm : Nat} (Z : y_Z a Ns Np Nl Nm) {q : Nat} (hq : q < 8) (h1 : ¬ (1 < a 0 ∧ ¬ a 0 = 6)) : x_Cv X mX8_value [.ref 0, .int (Int32.ofNat q)] (I, L, R) 233 (.inr 0, (I, L, R), 233) := by
  obtain ⟨hNs, hn, hNp, hp, hNl, hl, hNm, hmm⟩ := Z
  have hR := h_R H
  have hβ := h_β H
  have hS := h_S H
  show x_Ev X mX8_value 0 [some (.ref 0), some (.int (Int32.ofNat q))] [] ((I, L, R), 233, 0, 0) _
  refine f_iload_n (M := mX8_value) 1 dX8_value_0 rfl rfl ?_
  refine e_cS (M := mX8_value) [_] 0 0 dX8_value_1 pa_8164 cc_8164 rfl rfl rfl rfl rfl (x_kk rfl) (x_kk rfl) rfl (c_X8_isBidder) rfl ?_
  refine e_cS (M := mX8_value) [] 1 6 dX8_value_4 pa_8103 cc_8103 rfl rfl rfl rfl rfl (x_kk rfl) (x_kk rfl) rfl (c_X8_requireExisting (x_bn (ib_ok kn_7 (by omega) (by omega)))) rfl ?_
  refine f_aload_n (M := mX8_value) 8 dX8_value_7 rfl rfl ?_
  refine e_getR (M := mX8_value) dX8_value_8 fl_8026 (x_kk rfl) (x_kk rfl) rfl hS ?_
  refine e_cV (M := mX8_value) [_] 1 6 dX8_value_11 pa_8195 pb_8195 cc_8195 rfl rfl rfl rfl rfl (x_kk rfl) (x_kk rfl) (x_rcvOK (sl_lt hβ 0 rfl) (sl_s hβ 0 rfl rfl) rfl) (k_hasOpenBids H) rfl ?_
  exact e_cSX (M := mX8_value) 2 12 dX8_value_14 pa_8037 cc_8037 rfl rfl rfl rfl rfl (x_kk rfl) (x_kk rfl) rfl (c_X8_requireState_x (x_b0 h1)) rfl
theorem mf_value_0 (hR : x_wf R) {Ns Np Nl Nm : Nat} (Z : y_Z (I 226) Ns Np Nl Nm) {u : Int32} (h0 : ¬ (0 ≤ u ∧ u ≤ 7)) : x_Cv X mX9_value [.ref 225, .int u] (I, L, R) 233 (.inl (some (.long (0))), (x_tw I 1, L, R), 233) := by
  obtain ⟨hNs, hn, hNp, hp, hNl, hl, hNm, hmm⟩ := Z
  show x_Ev X mX9_value 0 [some (.ref 225), some (.int u)] [] ((I, L, R), 233, 0, 0) _
  refine f_aload_n (M := mX9_value) 1 dX9_value_0 rfl rfl ?_
  refine f_aload_n (M := mX9_value) 2 dX9_value_1 rfl rfl ?_
  refine f_iload_n (M := mX9_value) 3 dX9_value_2 rfl rfl ?_
  refine e_cV (M := mX9_value) [_, _] 0 0 dX9_value_3 pa_9218 pb_9218 cc_9218 rfl rfl rfl rfl rfl (x_kk rfl) (x_kk rfl) rfl (c_X9_bidRefusal_1 hR h0) rfl ?_
  refine e_putI (M := mX9_value) dX9_value_6 fl_9033 (x_kk rfl) (x_kk rfl) rfl (fun q9 => Bool.noConfusion q9) ?_
  refine f_aload_n (M := mX9_value) 10 dX9_value_9 rfl rfl ?_
  refine e_getI (M := mX9_value) dX9_value_10 fl_9033 (x_kk rfl) (x_kk rfl) rfl ?_
  refine e_if_leF (M := mX9_value) 20 dX9_value_13 rfl (show ¬ ((1 : Int32) ≤ 0) by decide) ?_
  refine f_lconst (M := mX9_value) 17 dX9_value_16 kl_0 rfl ?_
  refine f_goto (M := mX9_value) 28 dX9_value_17 rfl ?_
  refine e_rl (M := mX9_value) dX9_value_28 rfl (x_kk rfl) (x_kk rfl) ?_
  rfl
theorem mf_value_1 (hR : x_wf R) {Ns Np Nl Nm : Nat} (Z : y_Z (I 226) Ns Np Nl Nm) {q : Nat} (hq : q < 8) (h1 : ¬ (1 < I 226 0 ∧ ¬ I 226 0 = 6)) : x_Cv X mX9_value [.ref 225, .int (Int32.ofNat q)] (I, L, R) 233 (.inl (some (.long (0))), (x_tw I 2, L, R), 233) := by
  obtain ⟨hNs, hn, hNp, hp, hNl, hl, hNm, hmm⟩ := Z
  show x_Ev X mX9_value 0 [some (.ref 225), some (.int (Int32.ofNat q))] [] ((I, L, R), 233, 0, 0) _
  refine f_aload_n (M := mX9_value) 1 dX9_value_0 rfl rfl ?_
  refine f_aload_n (M := mX9_value) 2 dX9_value_1 rfl rfl ?_
  refine f_iload_n (M := mX9_value) 3 dX9_value_2 rfl rfl ?_
  refine e_cV (M := mX9_value) [_, _] 0 0 dX9_value_3 pa_9218 pb_9218 cc_9218 rfl rfl rfl rfl rfl (x_kk rfl) (x_kk rfl) rfl (c_X9_bidRefusal_2 hR hq h1) rfl ?_
  refine e_putI (M := mX9_value) dX9_value_6 fl_9033 (x_kk rfl) (x_kk rfl) rfl (fun q9 => Bool.noConfusion q9) ?_
  refine f_aload_n (M := mX9_value) 10 dX9_value_9 rfl rfl ?_
  refine e_getI (M := mX9_value) dX9_value_10 fl_9033 (x_kk rfl) (x_kk rfl) rfl ?_
  refine e_if_leF (M := mX9_value) 20 dX9_value_13 rfl (show ¬ ((2 : Int32) ≤ 0) by decide) ?_
  refine f_lconst (M := mX9_value) 17 dX9_value_16 kl_0 rfl ?_
  refine f_goto (M := mX9_value) 28 dX9_value_17 rfl ?_
  refine e_rl (M := mX9_value) dX9_value_28 rfl (x_kk rfl) (x_kk rfl) ?_
  rfl
theorem kf_problem_0 {N β : Nat} {a : Nat → Int32} {b : Nat → Int64} (H : y_CS N I L R β a b) {Ns Np Nl Nm : Nat} (Z : y_Z a Ns Np Nl Nm) {u : Int32} (h0 : ¬ (0 ≤ u ∧ u ≤ 7)) : x_Cv X mX8_problem [.ref 0, .int u] (I, L, R) 233 (.inr 2, (I, L, R), 233) := by
  obtain ⟨hNs, hn, hNp, hp, hNl, hl, hNm, hmm⟩ := Z
  have hR := h_R H
  have hβ := h_β H
  have hS := h_S H
  show x_Ev X mX8_problem 0 [some (.ref 0), some (.int u)] [] ((I, L, R), 233, 0, 0) _
  refine f_iload_n (M := mX8_problem) 1 dX8_problem_0 rfl rfl ?_
  refine e_cS (M := mX8_problem) [_] 0 0 dX8_problem_1 pa_8164 cc_8164 rfl rfl rfl rfl rfl (x_kk rfl) (x_kk rfl) rfl (c_X8_isBidder) rfl ?_
  exact e_cSX (M := mX8_problem) 1 6 dX8_problem_4 pa_8103 cc_8103 rfl rfl rfl rfl rfl (x_kk rfl) (x_kk rfl) rfl (c_X8_requireExisting_x (x_b0 h0)) rfl
theorem kf_problem_1 {N β : Nat} {a : Nat → Int32} {b : Nat → Int64} (H : y_CS N I L R β a b) {Ns Np Nl Nm : Nat} (Z : y_Z a Ns Np Nl Nm) {q : Nat} (hq : q < 8) (h1 : ¬ (1 < a 0 ∧ ¬ a 0 = 6)) : x_Cv X mX8_problem [.ref 0, .int (Int32.ofNat q)] (I, L, R) 233 (.inr 0, (I, L, R), 233) := by
  obtain ⟨hNs, hn, hNp, hp, hNl, hl, hNm, hmm⟩ := Z
  have hR := h_R H
  have hβ := h_β H
  have hS := h_S H
  show x_Ev X mX8_problem 0 [some (.ref 0), some (.int (Int32.ofNat q))] [] ((I, L, R), 233, 0, 0) _
  refine f_iload_n (M := mX8_problem) 1 dX8_problem_0 rfl rfl ?_
  refine e_cS (M := mX8_problem) [_] 0 0 dX8_problem_1 pa_8164 cc_8164 rfl rfl rfl rfl rfl (x_kk rfl) (x_kk rfl) rfl (c_X8_isBidder) rfl ?_
  refine e_cS (M := mX8_problem) [] 1 6 dX8_problem_4 pa_8103 cc_8103 rfl rfl rfl rfl rfl (x_kk rfl) (x_kk rfl) rfl (c_X8_requireExisting (x_bn (ib_ok kn_7 (by omega) (by omega)))) rfl ?_
  refine f_aload_n (M := mX8_problem) 8 dX8_problem_7 rfl rfl ?_
  refine e_getR (M := mX8_problem) dX8_problem_8 fl_8026 (x_kk rfl) (x_kk rfl) rfl hS ?_
  refine e_cV (M := mX8_problem) [_] 1 6 dX8_problem_11 pa_8195 pb_8195 cc_8195 rfl rfl rfl rfl rfl (x_kk rfl) (x_kk rfl) (x_rcvOK (sl_lt hβ 0 rfl) (sl_s hβ 0 rfl rfl) rfl) (k_hasOpenBids H) rfl ?_
  exact e_cSX (M := mX8_problem) 2 12 dX8_problem_14 pa_8037 cc_8037 rfl rfl rfl rfl rfl (x_kk rfl) (x_kk rfl) rfl (c_X8_requireState_x (x_b0 h1)) rfl
theorem mf_problem_0 (hR : x_wf R) {Ns Np Nl Nm : Nat} (Z : y_Z (I 226) Ns Np Nl Nm) {u : Int32} (h0 : ¬ (0 ≤ u ∧ u ≤ 7)) : x_Cv X mX9_problem [.ref 225, .int u] (I, L, R) 233 (.inl (some (.int (0))), (x_tw I 1, L, R), 233) := by
  obtain ⟨hNs, hn, hNp, hp, hNl, hl, hNm, hmm⟩ := Z
  show x_Ev X mX9_problem 0 [some (.ref 225), some (.int u)] [] ((I, L, R), 233, 0, 0) _
  refine f_aload_n (M := mX9_problem) 1 dX9_problem_0 rfl rfl ?_
  refine f_aload_n (M := mX9_problem) 2 dX9_problem_1 rfl rfl ?_
  refine f_iload_n (M := mX9_problem) 3 dX9_problem_2 rfl rfl ?_
  refine e_cV (M := mX9_problem) [_, _] 0 0 dX9_problem_3 pa_9218 pb_9218 cc_9218 rfl rfl rfl rfl rfl (x_kk rfl) (x_kk rfl) rfl (c_X9_bidRefusal_1 hR h0) rfl ?_
  refine e_putI (M := mX9_problem) dX9_problem_6 fl_9033 (x_kk rfl) (x_kk rfl) rfl (fun q9 => Bool.noConfusion q9) ?_
  refine f_aload_n (M := mX9_problem) 10 dX9_problem_9 rfl rfl ?_
  refine e_getI (M := mX9_problem) dX9_problem_10 fl_9033 (x_kk rfl) (x_kk rfl) rfl ?_
  refine e_if_leF (M := mX9_problem) 20 dX9_problem_13 rfl (show ¬ ((1 : Int32) ≤ 0) by decide) ?_
  refine f_iconst (M := mX9_problem) 17 dX9_problem_16 ki_0 rfl ?_
  refine f_goto (M := mX9_problem) 25 dX9_problem_17 rfl ?_
  refine e_ri (M := mX9_problem) dX9_problem_25 rfl (x_kk rfl) (x_kk rfl) ?_
  rfl
theorem mf_problem_1 (hR : x_wf R) {Ns Np Nl Nm : Nat} (Z : y_Z (I 226) Ns Np Nl Nm) {q : Nat} (hq : q < 8) (h1 : ¬ (1 < I 226 0 ∧ ¬ I 226 0 = 6)) : x_Cv X mX9_problem [.ref 225, .int (Int32.ofNat q)] (I, L, R) 233 (.inl (some (.int (0))), (x_tw I 2, L, R), 233) := by
  obtain ⟨hNs, hn, hNp, hp, hNl, hl, hNm, hmm⟩ := Z
  show x_Ev X mX9_problem 0 [some (.ref 225), some (.int (Int32.ofNat q))] [] ((I, L, R), 233, 0, 0) _
  refine f_aload_n (M := mX9_problem) 1 dX9_problem_0 rfl rfl ?_
  refine f_aload_n (M := mX9_problem) 2 dX9_problem_1 rfl rfl ?_
  refine f_iload_n (M := mX9_problem) 3 dX9_problem_2 rfl rfl ?_
  refine e_cV (M := mX9_problem) [_, _] 0 0 dX9_problem_3 pa_9218 pb_9218 cc_9218 rfl rfl rfl rfl rfl (x_kk rfl) (x_kk rfl) rfl (c_X9_bidRefusal_2 hR hq h1) rfl ?_
  refine e_putI (M := mX9_problem) dX9_problem_6 fl_9033 (x_kk rfl) (x_kk rfl) rfl (fun q9 => Bool.noConfusion q9) ?_
  refine f_aload_n (M := mX9_problem) 10 dX9_problem_9 rfl rfl ?_
  refine e_getI (M := mX9_problem) dX9_problem_10 fl_9033 (x_kk rfl) (x_kk rfl) rfl ?_
  refine e_if_leF (M := mX9_problem) 20 dX9_problem_13 rfl (show ¬ ((2 : Int32) ≤ 0) by decide) ?_
  refine f_iconst (M := mX9_problem) 17 dX9_problem_16 ki_0 rfl ?_
  refine f_goto (M := mX9_problem) 25 dX9_problem_17 rfl ?_
  refine e_ri (M := mX9_problem) dX9_problem_25 rfl (x_kk rfl) (x_kk rfl) ?_
  rfl
theorem kf_rank_0 {N β : Nat} {a : Nat → Int32} {b : Nat → Int64} (H : y_CS N I L R β a b) {Ns Np Nl Nm : Nat} (Z : y_Z a Ns Np Nl Nm) {u : Int32} (h0 : ¬ (0 ≤ u ∧ u ≤ 7)) : x_Cv X mX8_rank [.ref 0, .int u] (I, L, R) 233 (.inr 2, (I, L, R), 233) := by
  obtain ⟨hNs, hn, hNp, hp, hNl, hl, hNm, hmm⟩ := Z
  have hR := h_R H
  have hβ := h_β H
  have hS := h_S H
  show x_Ev X mX8_rank 0 [some (.ref 0), some (.int u)] [] ((I, L, R), 233, 0, 0) _
  refine f_iload_n (M := mX8_rank) 1 dX8_rank_0 rfl rfl ?_
  refine e_cS (M := mX8_rank) [_] 0 0 dX8_rank_1 pa_8164 cc_8164 rfl rfl rfl rfl rfl (x_kk rfl) (x_kk rfl) rfl (c_X8_isBidder) rfl ?_
  exact e_cSX (M := mX8_rank) 1 6 dX8_rank_4 pa_8103 cc_8103 rfl rfl rfl rfl rfl (x_kk rfl) (x_kk rfl) rfl (c_X8_requireExisting_x (x_b0 h0)) rfl
theorem kf_rank_1 {N β : Nat} {a : Nat → Int32} {b : Nat → Int64} (H : y_CS N I L R β a b) {Ns Np Nl Nm : Nat} (Z : y_Z a Ns Np Nl Nm) {q : Nat} (hq : q < 8) (h1 : ¬ (1 < a 0 ∧ ¬ a 0 = 6)) : x_Cv X mX8_rank [.ref 0, .int (Int32.ofNat q)] (I, L, R) 233 (.inr 0, (I, L, R), 233) := by
  obtain ⟨hNs, hn, hNp, hp, hNl, hl, hNm, hmm⟩ := Z
  have hR := h_R H
  have hβ := h_β H
  have hS := h_S H
  show x_Ev X mX8_rank 0 [some (.ref 0), some (.int (Int32.ofNat q))] [] ((I, L, R), 233, 0, 0) _
  refine f_iload_n (M := mX8_rank) 1 dX8_rank_0 rfl rfl ?_
  refine e_cS (M := mX8_rank) [_] 0 0 dX8_rank_1 pa_8164 cc_8164 rfl rfl rfl rfl rfl (x_kk rfl) (x_kk rfl) rfl (c_X8_isBidder) rfl ?_
  refine e_cS (M := mX8_rank) [] 1 6 dX8_rank_4 pa_8103 cc_8103 rfl rfl rfl rfl rfl (x_kk rfl) (x_kk rfl) rfl (c_X8_requireExisting (x_bn (ib_ok kn_7 (by omega) (by omega)))) rfl ?_
  refine f_aload_n (M := mX8_rank) 8 dX8_rank_7 rfl rfl ?_
  refine e_getR (M := mX8_rank) dX8_rank_8 fl_8026 (x_kk rfl) (x_kk rfl) rfl hS ?_
  refine e_cV (M := mX8_rank) [_] 1 6 dX8_rank_11 pa_8195 pb_8195 cc_8195 rfl rfl rfl rfl rfl (x_kk rfl) (x_kk rfl) (x_rcvOK (sl_lt hβ 0 rfl) (sl_s hβ 0 rfl rfl) rfl) (k_hasOpenBids H) rfl ?_
  exact e_cSX (M := mX8_rank) 2 12 dX8_rank_14 pa_8037 cc_8037 rfl rfl rfl rfl rfl (x_kk rfl) (x_kk rfl) rfl (c_X8_requireState_x (x_b0 h1)) rfl
theorem mf_rank_0 (hR : x_wf R) {Ns Np Nl Nm : Nat} (Z : y_Z (I 226) Ns Np Nl Nm) {u : Int32} (h0 : ¬ (0 ≤ u ∧ u ≤ 7)) : x_Cv X mX9_rank [.ref 225, .int u] (I, L, R) 233 (.inl (some (.int (0))), (x_tw I 1, L, R), 233) := by
  obtain ⟨hNs, hn, hNp, hp, hNl, hl, hNm, hmm⟩ := Z
  show x_Ev X mX9_rank 0 [some (.ref 225), some (.int u), none, none] [] ((I, L, R), 233, 0, 0) _
  refine f_aload_n (M := mX9_rank) 1 dX9_rank_0 rfl rfl ?_
  refine f_aload_n (M := mX9_rank) 2 dX9_rank_1 rfl rfl ?_
  refine f_iload_n (M := mX9_rank) 3 dX9_rank_2 rfl rfl ?_
  refine e_cV (M := mX9_rank) [_, _] 0 0 dX9_rank_3 pa_9218 pb_9218 cc_9218 rfl rfl rfl rfl rfl (x_kk rfl) (x_kk rfl) rfl (c_X9_bidRefusal_1 hR h0) rfl ?_
  refine e_putI (M := mX9_rank) dX9_rank_6 fl_9033 (x_kk rfl) (x_kk rfl) rfl (fun q9 => Bool.noConfusion q9) ?_
  refine f_aload_n (M := mX9_rank) 10 dX9_rank_9 rfl rfl ?_
  refine e_getI (M := mX9_rank) dX9_rank_10 fl_9033 (x_kk rfl) (x_kk rfl) rfl ?_
  refine e_if_gtT (M := mX9_rank) 24 dX9_rank_13 rfl (show (0 : Int32) < 1 by decide) ?_
  refine f_iconst (M := mX9_rank) 25 dX9_rank_24 ki_0 rfl ?_
  refine e_ri (M := mX9_rank) dX9_rank_25 rfl (x_kk rfl) (x_kk rfl) ?_
  rfl
theorem mf_rank_1 (hR : x_wf R) {Ns Np Nl Nm : Nat} (Z : y_Z (I 226) Ns Np Nl Nm) {q : Nat} (hq : q < 8) (h1 : ¬ (1 < I 226 0 ∧ ¬ I 226 0 = 6)) : x_Cv X mX9_rank [.ref 225, .int (Int32.ofNat q)] (I, L, R) 233 (.inl (some (.int (0))), (x_tw I 2, L, R), 233) := by
  obtain ⟨hNs, hn, hNp, hp, hNl, hl, hNm, hmm⟩ := Z
  show x_Ev X mX9_rank 0 [some (.ref 225), some (.int (Int32.ofNat q)), none, none] [] ((I, L, R), 233, 0, 0) _
  refine f_aload_n (M := mX9_rank) 1 dX9_rank_0 rfl rfl ?_
  refine f_aload_n (M := mX9_rank) 2 dX9_rank_1 rfl rfl ?_
  refine f_iload_n (M := mX9_rank) 3 dX9_rank_2 rfl rfl ?_
  refine e_cV (M := mX9_rank) [_, _] 0 0 dX9_rank_3 pa_9218 pb_9218 cc_9218 rfl rfl rfl rfl rfl (x_kk rfl) (x_kk rfl) rfl (c_X9_bidRefusal_2 hR hq h1) rfl ?_
  refine e_putI (M := mX9_rank) dX9_rank_6 fl_9033 (x_kk rfl) (x_kk rfl) rfl (fun q9 => Bool.noConfusion q9) ?_
  refine f_aload_n (M := mX9_rank) 10 dX9_rank_9 rfl rfl ?_
  refine e_getI (M := mX9_rank) dX9_rank_10 fl_9033 (x_kk rfl) (x_kk rfl) rfl ?_
  refine e_if_gtT (M := mX9_rank) 24 dX9_rank_13 rfl (show (0 : Int32) < 2 by decide) ?_
  refine f_iconst (M := mX9_rank) 25 dX9_rank_24 ki_0 rfl ?_
  refine e_ri (M := mX9_rank) dX9_rank_25 rfl (x_kk rfl) (x_kk rfl) ?_
  rfl
end

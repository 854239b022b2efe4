/-! ===== queries of both, sixth (laid by wip/whole/src/q6.py) ===== -/
section
variable {X : x_X} {I : Nat → Nat → Int32} {L : Nat → Nat → Int64} {R : Nat → Nat → Option Nat} {N : Nat}
theorem kf_requireAccuracyQuestion_0 {N β : Nat} {a : Nat → Int32} {b : Nat → Int64} (H : y_CS N I L R β a b) {Ns Np Nl Nm : Nat} (Z : y_Z a Ns Np Nl Nm) {v : Int32} {p : Int32} (h0 : ¬ (v = -1 ∨ (0 ≤ v ∧ v ≤ a 8 - 1))) : x_Cv X mX8_requireAccuracyQuestion [.ref 0, .int v, .int p] (I, L, R) 233 (.inr 2, (I, L, R), 233) := by
  obtain ⟨hNs, hn, hNp, hp, hNl, hl, hNm, hmm⟩ := Z
  have hR := h_R H
  have hβ := h_β H
  have hS := h_S H
  show x_Ev X mX8_requireAccuracyQuestion 0 [some (.ref 0), some (.int v), some (.int p)] [] ((I, L, R), 233, 0, 0) _
  refine f_aload_n (M := mX8_requireAccuracyQuestion) 1 dX8_requireAccuracyQuestion_0 rfl rfl ?_
  refine f_iload_n (M := mX8_requireAccuracyQuestion) 2 dX8_requireAccuracyQuestion_1 rfl rfl ?_
  refine e_cV (M := mX8_requireAccuracyQuestion) [_] 0 0 dX8_requireAccuracyQuestion_2 pa_8109 pb_8109 cc_8109 rfl rfl rfl rfl rfl (x_kk rfl) (x_kk rfl) rfl (k_isAny H) rfl ?_
  exact e_cSX (M := mX8_requireAccuracyQuestion) 1 6 dX8_requireAccuracyQuestion_5 pa_8103 cc_8103 rfl rfl rfl rfl rfl (x_kk rfl) (x_kk rfl) rfl (c_X8_requireExisting_x (x_b0 h0)) rfl
theorem kf_requireAccuracyQuestion_1 {N β : Nat} {a : Nat → Int32} {b : Nat → Int64} (H : y_CS N I L R β a b) {Ns Np Nl Nm : Nat} (Z : y_Z a Ns Np Nl Nm) {v : Int32} {p : Int32} (h0 : v = -1 ∨ (0 ≤ v ∧ v ≤ a 8 - 1)) (h1 : ¬ (1 ≤ p ∧ p ≤ 20)) : x_Cv X mX8_requireAccuracyQuestion [.ref 0, .int v, .int p] (I, L, R) 233 (.inr 1, (I, L, R), 233) := by
  obtain ⟨hNs, hn, hNp, hp, hNl, hl, hNm, hmm⟩ := Z
  have hR := h_R H
  have hβ := h_β H
  have hS := h_S H
  show x_Ev X mX8_requireAccuracyQuestion 0 [some (.ref 0), some (.int v), some (.int p)] [] ((I, L, R), 233, 0, 0) _
  refine f_aload_n (M := mX8_requireAccuracyQuestion) 1 dX8_requireAccuracyQuestion_0 rfl rfl ?_
  refine f_iload_n (M := mX8_requireAccuracyQuestion) 2 dX8_requireAccuracyQuestion_1 rfl rfl ?_
  refine e_cV (M := mX8_requireAccuracyQuestion) [_] 0 0 dX8_requireAccuracyQuestion_2 pa_8109 pb_8109 cc_8109 rfl rfl rfl rfl rfl (x_kk rfl) (x_kk rfl) rfl (k_isAny H) rfl ?_
  refine e_cS (M := mX8_requireAccuracyQuestion) [] 1 6 dX8_requireAccuracyQuestion_5 pa_8103 cc_8103 rfl rfl rfl rfl rfl (x_kk rfl) (x_kk rfl) rfl (c_X8_requireExisting (x_bn h0)) rfl ?_
  refine f_iload_n (M := mX8_requireAccuracyQuestion) 9 dX8_requireAccuracyQuestion_8 rfl rfl ?_
  refine f_iconst (M := mX8_requireAccuracyQuestion) 10 dX8_requireAccuracyQuestion_9 ki_1 rfl ?_
  refine f_bipush (M := mX8_requireAccuracyQuestion) 12 dX8_requireAccuracyQuestion_10 kb_20 rfl ?_
  refine e_cS (M := mX8_requireAccuracyQuestion) [_] 1 6 dX8_requireAccuracyQuestion_12 pa_8049 cc_8049 rfl rfl rfl rfl rfl (x_kk rfl) (x_kk rfl) rfl (c_X8_isIn (lo := 1) (hi := 20)) rfl ?_
  exact e_cSX (M := mX8_requireAccuracyQuestion) 2 12 dX8_requireAccuracyQuestion_15 pa_8053 cc_8053 rfl rfl rfl rfl rfl (x_kk rfl) (x_kk rfl) rfl (c_X8_requireArgument_x (x_b0 h1)) rfl
theorem kf_requireAccuracyQuestion_2 {N β : Nat} {a : Nat → Int32} {b : Nat → Int64} (H : y_CS N I L R β a b) {Ns Np Nl Nm : Nat} (Z : y_Z a Ns Np Nl Nm) {v : Int32} {p : Int32} (h0 : v = -1 ∨ (0 ≤ v ∧ v ≤ a 8 - 1)) (h1 : 1 ≤ p ∧ p ≤ 20) (h2 : ¬ (2 ≤ a 9)) : x_Cv X mX8_requireAccuracyQuestion [.ref 0, .int v, .int p] (I, L, R) 233 (.inr 0, (I, L, R), 233) := by
  obtain ⟨hNs, hn, hNp, hp, hNl, hl, hNm, hmm⟩ := Z
  have hR := h_R H
  have hβ := h_β H
  have hS := h_S H
  show x_Ev X mX8_requireAccuracyQuestion 0 [some (.ref 0), some (.int v), some (.int p)] [] ((I, L, R), 233, 0, 0) _
  refine f_aload_n (M := mX8_requireAccuracyQuestion) 1 dX8_requireAccuracyQuestion_0 rfl rfl ?_
  refine f_iload_n (M := mX8_requireAccuracyQuestion) 2 dX8_requireAccuracyQuestion_1 rfl rfl ?_
  refine e_cV (M := mX8_requireAccuracyQuestion) [_] 0 0 dX8_requireAccuracyQuestion_2 pa_8109 pb_8109 cc_8109 rfl rfl rfl rfl rfl (x_kk rfl) (x_kk rfl) rfl (k_isAny H) rfl ?_
  refine e_cS (M := mX8_requireAccuracyQuestion) [] 1 6 dX8_requireAccuracyQuestion_5 pa_8103 cc_8103 rfl rfl rfl rfl rfl (x_kk rfl) (x_kk rfl) rfl (c_X8_requireExisting (x_bn h0)) rfl ?_
  refine f_iload_n (M := mX8_requireAccuracyQuestion) 9 dX8_requireAccuracyQuestion_8 rfl rfl ?_
  refine f_iconst (M := mX8_requireAccuracyQuestion) 10 dX8_requireAccuracyQuestion_9 ki_1 rfl ?_
  refine f_bipush (M := mX8_requireAccuracyQuestion) 12 dX8_requireAccuracyQuestion_10 kb_20 rfl ?_
  refine e_cS (M := mX8_requireAccuracyQuestion) [_] 1 6 dX8_requireAccuracyQuestion_12 pa_8049 cc_8049 rfl rfl rfl rfl rfl (x_kk rfl) (x_kk rfl) rfl (c_X8_isIn (lo := 1) (hi := 20)) rfl ?_
  refine e_cS (M := mX8_requireAccuracyQuestion) [] 2 12 dX8_requireAccuracyQuestion_15 pa_8053 cc_8053 rfl rfl rfl rfl rfl (x_kk rfl) (x_kk rfl) rfl (c_X8_requireArgument (x_bn h1)) rfl ?_
  refine f_aload_n (M := mX8_requireAccuracyQuestion) 19 dX8_requireAccuracyQuestion_18 rfl rfl ?_
  refine e_getR (M := mX8_requireAccuracyQuestion) dX8_requireAccuracyQuestion_19 fl_8026 (x_kk rfl) (x_kk rfl) rfl hS ?_
  refine e_getR (M := mX8_requireAccuracyQuestion) dX8_requireAccuracyQuestion_22 fl_8070 (x_kk rfl) (sl_lt hβ 0 rfl) (sl_s hβ 0 rfl rfl) (wf_6_2 hR hβ) ?_
  refine e_getI (M := mX8_requireAccuracyQuestion) dX8_requireAccuracyQuestion_25 fl_8074 (x_kk rfl) (sl_lt hβ 5 rfl) (sl_s hβ 5 rfl rfl) ?_
  refine f_iconst (M := mX8_requireAccuracyQuestion) 29 dX8_requireAccuracyQuestion_28 ki_2 rfl ?_
  refine e_icmp_ltT (M := mX8_requireAccuracyQuestion) 36 dX8_requireAccuracyQuestion_29 rfl (i_nle.mp (by rw [(h_C H).1]; exact h2)) ?_
  refine f_iconst (M := mX8_requireAccuracyQuestion) 37 dX8_requireAccuracyQuestion_36 ki_0 rfl ?_
  exact e_cSX (M := mX8_requireAccuracyQuestion) 3 18 dX8_requireAccuracyQuestion_37 pa_8037 cc_8037 rfl rfl rfl rfl rfl (x_kk rfl) (x_kk rfl) rfl (c_X8_requireState_x rfl) rfl
theorem ko_requireAccuracyQuestion {N β : Nat} {a : Nat → Int32} {b : Nat → Int64} (H : y_CS N I L R β a b) {Ns Np Nl Nm : Nat} (Z : y_Z a Ns Np Nl Nm) {v : Int32} {p : Int32} (h0 : v = -1 ∨ (0 ≤ v ∧ v ≤ a 8 - 1)) (h1 : 1 ≤ p ∧ p ≤ 20) (h2 : 2 ≤ a 9)  : x_Cv X mX8_requireAccuracyQuestion [.ref 0, .int v, .int p] (I, L, R) 233 (.inl none, (I, L, R), 233) := by
  obtain ⟨hNs, hn, hNp, hp, hNl, hl, hNm, hmm⟩ := Z
  have hR := h_R H
  have hβ := h_β H
  have hS := h_S H
  show x_Ev X mX8_requireAccuracyQuestion 0 [some (.ref 0), some (.int v), some (.int p)] [] ((I, L, R), 233, 0, 0) _
  refine f_aload_n (M := mX8_requireAccuracyQuestion) 1 dX8_requireAccuracyQuestion_0 rfl rfl ?_
  refine f_iload_n (M := mX8_requireAccuracyQuestion) 2 dX8_requireAccuracyQuestion_1 rfl rfl ?_
  refine e_cV (M := mX8_requireAccuracyQuestion) [_] 0 0 dX8_requireAccuracyQuestion_2 pa_8109 pb_8109 cc_8109 rfl rfl rfl rfl rfl (x_kk rfl) (x_kk rfl) rfl (k_isAny H) rfl ?_
  refine e_cS (M := mX8_requireAccuracyQuestion) [] 1 6 dX8_requireAccuracyQuestion_5 pa_8103 cc_8103 rfl rfl rfl rfl rfl (x_kk rfl) (x_kk rfl) rfl (c_X8_requireExisting (x_bn h0)) rfl ?_
  refine f_iload_n (M := mX8_requireAccuracyQuestion) 9 dX8_requireAccuracyQuestion_8 rfl rfl ?_
  refine f_iconst (M := mX8_requireAccuracyQuestion) 10 dX8_requireAccuracyQuestion_9 ki_1 rfl ?_
  refine f_bipush (M := mX8_requireAccuracyQuestion) 12 dX8_requireAccuracyQuestion_10 kb_20 rfl ?_
  refine e_cS (M := mX8_requireAccuracyQuestion) [_] 1 6 dX8_requireAccuracyQuestion_12 pa_8049 cc_8049 rfl rfl rfl rfl rfl (x_kk rfl) (x_kk rfl) rfl (c_X8_isIn (lo := 1) (hi := 20)) rfl ?_
  refine e_cS (M := mX8_requireAccuracyQuestion) [] 2 12 dX8_requireAccuracyQuestion_15 pa_8053 cc_8053 rfl rfl rfl rfl rfl (x_kk rfl) (x_kk rfl) rfl (c_X8_requireArgument (x_bn h1)) rfl ?_
  refine f_aload_n (M := mX8_requireAccuracyQuestion) 19 dX8_requireAccuracyQuestion_18 rfl rfl ?_
  refine e_getR (M := mX8_requireAccuracyQuestion) dX8_requireAccuracyQuestion_19 fl_8026 (x_kk rfl) (x_kk rfl) rfl hS ?_
  refine e_getR (M := mX8_requireAccuracyQuestion) dX8_requireAccuracyQuestion_22 fl_8070 (x_kk rfl) (sl_lt hβ 0 rfl) (sl_s hβ 0 rfl rfl) (wf_6_2 hR hβ) ?_
  refine e_getI (M := mX8_requireAccuracyQuestion) dX8_requireAccuracyQuestion_25 fl_8074 (x_kk rfl) (sl_lt hβ 5 rfl) (sl_s hβ 5 rfl rfl) ?_
  refine f_iconst (M := mX8_requireAccuracyQuestion) 29 dX8_requireAccuracyQuestion_28 ki_2 rfl ?_
  refine e_icmp_ltF (M := mX8_requireAccuracyQuestion) 36 dX8_requireAccuracyQuestion_29 rfl (i_nlt.mpr (by rw [(h_C H).1]; exact h2)) ?_
  refine f_iconst (M := mX8_requireAccuracyQuestion) 33 dX8_requireAccuracyQuestion_32 ki_1 rfl ?_
  refine f_goto (M := mX8_requireAccuracyQuestion) 37 dX8_requireAccuracyQuestion_33 rfl ?_
  refine e_cS (M := mX8_requireAccuracyQuestion) [] 3 18 dX8_requireAccuracyQuestion_37 pa_8037 cc_8037 rfl rfl rfl rfl rfl (x_kk rfl) (x_kk rfl) rfl (c_X8_requireState (by decide)) rfl ?_
  refine e_rv (M := mX8_requireAccuracyQuestion) dX8_requireAccuracyQuestion_40 rfl (x_kk rfl) (x_kk rfl) ?_
  rfl
theorem kf_isAccurate_0 {N β : Nat} {a : Nat → Int32} {b : Nat → Int64} (H : y_CS N I L R β a b) {Ns Np Nl Nm : Nat} (Z : y_Z a Ns Np Nl Nm) {v : Int32} {p : Int32} (h0 : ¬ (v = -1 ∨ (0 ≤ v ∧ v ≤ a 8 - 1))) : x_Cv X mX8_isAccurate [.ref 0, .int v, .int p] (I, L, R) 233 (.inr 2, (I, L, R), 233) := by
  show x_Ev X mX8_isAccurate 0 [some (.ref 0), some (.int v), some (.int p), none, none, none, none, none, none] [] ((I, L, R), 233, 0, 0) _
  refine f_aload_n (M := mX8_isAccurate) 1 dX8_isAccurate_0 rfl rfl ?_
  refine f_iload_n (M := mX8_isAccurate) 2 dX8_isAccurate_1 rfl rfl ?_
  refine f_iload_n (M := mX8_isAccurate) 3 dX8_isAccurate_2 rfl rfl ?_
  exact e_cVX (M := mX8_isAccurate) 3 18 dX8_isAccurate_3 pa_8124 pb_8124 cc_8124 rfl rfl rfl rfl rfl (x_kk rfl) (x_kk rfl) rfl (kf_requireAccuracyQuestion_0 H Z h0) rfl
theorem mf_isAccurate_0 (hR : x_wf R) {Ns Np Nl Nm : Nat} (Z : y_Z (I 226) Ns Np Nl Nm) {v : Int32} {p : Int32} (h0 : ¬ (v = -1 ∨ (0 ≤ v ∧ v ≤ I 226 8 - 1))) : x_Cv X mX9_isAccurate [.ref 225, .int v, .int p] (I, L, R) 233 (.inl (some (.int (0))), (x_tw I 1, L, R), 233) := by
  obtain ⟨hNs, hn, hNp, hp, hNl, hl, hNm, hmm⟩ := Z
  show x_Ev X mX9_isAccurate 0 [some (.ref 225), some (.int v), some (.int p), none, none] [] ((I, L, R), 233, 0, 0) _
  refine f_aload_n (M := mX9_isAccurate) 1 dX9_isAccurate_0 rfl rfl ?_
  refine f_aload_n (M := mX9_isAccurate) 2 dX9_isAccurate_1 rfl rfl ?_
  refine f_iload_n (M := mX9_isAccurate) 3 dX9_isAccurate_2 rfl rfl ?_
  refine f_iload_n (M := mX9_isAccurate) 4 dX9_isAccurate_3 rfl rfl ?_
  refine e_cV (M := mX9_isAccurate) [_, _] 0 0 dX9_isAccurate_4 pa_9163 pb_9163 cc_9163 rfl rfl rfl rfl rfl (x_kk rfl) (x_kk rfl) rfl ((by have e := c_X9_refusal (X := X) (I := I) (L := L) (σ := v) (p := p) hR; rw [show sp_refu (I 226) v p = 1 from if_pos h0] at e; exact e)) rfl ?_
  refine e_putI (M := mX9_isAccurate) dX9_isAccurate_7 fl_9033 (x_kk rfl) (x_kk rfl) rfl (fun q9 => Bool.noConfusion q9) ?_
  refine f_aload_n (M := mX9_isAccurate) 11 dX9_isAccurate_10 rfl rfl ?_
  refine e_getI (M := mX9_isAccurate) dX9_isAccurate_11 fl_9033 (x_kk rfl) (x_kk rfl) rfl ?_
  refine e_if_leF (M := mX9_isAccurate) 19 dX9_isAccurate_14 rfl (show ¬ ((1 : Int32) ≤ 0) by decide) ?_
  refine f_iconst (M := mX9_isAccurate) 18 dX9_isAccurate_17 ki_0 rfl ?_
  refine e_rb (M := mX9_isAccurate) dX9_isAccurate_18 rfl (x_kk rfl) (x_kk rfl) (by decide) ?_
  rfl
theorem kf_isAccurate_1 {N β : Nat} {a : Nat → Int32} {b : Nat → Int64} (H : y_CS N I L R β a b) {Ns Np Nl Nm : Nat} (Z : y_Z a Ns Np Nl Nm) {v : Int32} {p : Int32} (h0 : v = -1 ∨ (0 ≤ v ∧ v ≤ a 8 - 1)) (h1 : ¬ (1 ≤ p ∧ p ≤ 20)) : x_Cv X mX8_isAccurate [.ref 0, .int v, .int p] (I, L, R) 233 (.inr 1, (I, L, R), 233) := by
  show x_Ev X mX8_isAccurate 0 [some (.ref 0), some (.int v), some (.int p), none, none, none, none, none, none] [] ((I, L, R), 233, 0, 0) _
  refine f_aload_n (M := mX8_isAccurate) 1 dX8_isAccurate_0 rfl rfl ?_
  refine f_iload_n (M := mX8_isAccurate) 2 dX8_isAccurate_1 rfl rfl ?_
  refine f_iload_n (M := mX8_isAccurate) 3 dX8_isAccurate_2 rfl rfl ?_
  exact e_cVX (M := mX8_isAccurate) 3 18 dX8_isAccurate_3 pa_8124 pb_8124 cc_8124 rfl rfl rfl rfl rfl (x_kk rfl) (x_kk rfl) rfl (kf_requireAccuracyQuestion_1 H Z h0 h1) rfl
theorem mf_isAccurate_1 (hR : x_wf R) {Ns Np Nl Nm : Nat} (Z : y_Z (I 226) Ns Np Nl Nm) {v : Int32} {p : Int32} (h0 : v = -1 ∨ (0 ≤ v ∧ v ≤ I 226 8 - 1)) (h1 : ¬ (1 ≤ p ∧ p ≤ 20)) : x_Cv X mX9_isAccurate [.ref 225, .int v, .int p] (I, L, R) 233 (.inl (some (.int (0))), (x_tw I 2, L, R), 233) := by
  obtain ⟨hNs, hn, hNp, hp, hNl, hl, hNm, hmm⟩ := Z
  show x_Ev X mX9_isAccurate 0 [some (.ref 225), some (.int v), some (.int p), none, none] [] ((I, L, R), 233, 0, 0) _
  refine f_aload_n (M := mX9_isAccurate) 1 dX9_isAccurate_0 rfl rfl ?_
  refine f_aload_n (M := mX9_isAccurate) 2 dX9_isAccurate_1 rfl rfl ?_
  refine f_iload_n (M := mX9_isAccurate) 3 dX9_isAccurate_2 rfl rfl ?_
  refine f_iload_n (M := mX9_isAccurate) 4 dX9_isAccurate_3 rfl rfl ?_
  refine e_cV (M := mX9_isAccurate) [_, _] 0 0 dX9_isAccurate_4 pa_9163 pb_9163 cc_9163 rfl rfl rfl rfl rfl (x_kk rfl) (x_kk rfl) rfl ((by have e := c_X9_refusal (X := X) (I := I) (L := L) (σ := v) (p := p) hR; rw [show sp_refu (I 226) v p = 2 from (if_neg (fun z => z h0)).trans (if_pos h1)] at e; exact e)) rfl ?_
  refine e_putI (M := mX9_isAccurate) dX9_isAccurate_7 fl_9033 (x_kk rfl) (x_kk rfl) rfl (fun q9 => Bool.noConfusion q9) ?_
  refine f_aload_n (M := mX9_isAccurate) 11 dX9_isAccurate_10 rfl rfl ?_
  refine e_getI (M := mX9_isAccurate) dX9_isAccurate_11 fl_9033 (x_kk rfl) (x_kk rfl) rfl ?_
  refine e_if_leF (M := mX9_isAccurate) 19 dX9_isAccurate_14 rfl (show ¬ ((2 : Int32) ≤ 0) by decide) ?_
  refine f_iconst (M := mX9_isAccurate) 18 dX9_isAccurate_17 ki_0 rfl ?_
  refine e_rb (M := mX9_isAccurate) dX9_isAccurate_18 rfl (x_kk rfl) (x_kk rfl) (by decide) ?_
  rfl
theorem kf_isAccurate_2 {N β : Nat} {a : Nat → Int32} {b : Nat → Int64} (H : y_CS N I L R β a b) {Ns Np Nl Nm : Nat} (Z : y_Z a Ns Np Nl Nm) {v : Int32} {p : Int32} (h0 : v = -1 ∨ (0 ≤ v ∧ v ≤ a 8 - 1)) (h1 : 1 ≤ p ∧ p ≤ 20) (h2 : ¬ (2 ≤ a 9)) : x_Cv X mX8_isAccurate [.ref 0, .int v, .int p] (I, L, R) 233 (.inr 0, (I, L, R), 233) := by
  show x_Ev X mX8_isAccurate 0 [some (.ref 0), some (.int v), some (.int p), none, none, none, none, none, none] [] ((I, L, R), 233, 0, 0) _
  refine f_aload_n (M := mX8_isAccurate) 1 dX8_isAccurate_0 rfl rfl ?_
  refine f_iload_n (M := mX8_isAccurate) 2 dX8_isAccurate_1 rfl rfl ?_
  refine f_iload_n (M := mX8_isAccurate) 3 dX8_isAccurate_2 rfl rfl ?_
  exact e_cVX (M := mX8_isAccurate) 3 18 dX8_isAccurate_3 pa_8124 pb_8124 cc_8124 rfl rfl rfl rfl rfl (x_kk rfl) (x_kk rfl) rfl (kf_requireAccuracyQuestion_2 H Z h0 h1 h2) rfl
theorem mf_isAccurate_2 (hR : x_wf R) {Ns Np Nl Nm : Nat} (Z : y_Z (I 226) Ns Np Nl Nm) {v : Int32} {p : Int32} (h0 : v = -1 ∨ (0 ≤ v ∧ v ≤ I 226 8 - 1)) (h1 : 1 ≤ p ∧ p ≤ 20) (h2 : ¬ (2 ≤ I 226 9)) : x_Cv X mX9_isAccurate [.ref 225, .int v, .int p] (I, L, R) 233 (.inl (some (.int (0))), (x_tw I 3, L, R), 233) := by
  obtain ⟨hNs, hn, hNp, hp, hNl, hl, hNm, hmm⟩ := Z
  show x_Ev X mX9_isAccurate 0 [some (.ref 225), some (.int v), some (.int p), none, none] [] ((I, L, R), 233, 0, 0) _
  refine f_aload_n (M := mX9_isAccurate) 1 dX9_isAccurate_0 rfl rfl ?_
  refine f_aload_n (M := mX9_isAccurate) 2 dX9_isAccurate_1 rfl rfl ?_
  refine f_iload_n (M := mX9_isAccurate) 3 dX9_isAccurate_2 rfl rfl ?_
  refine f_iload_n (M := mX9_isAccurate) 4 dX9_isAccurate_3 rfl rfl ?_
  refine e_cV (M := mX9_isAccurate) [_, _] 0 0 dX9_isAccurate_4 pa_9163 pb_9163 cc_9163 rfl rfl rfl rfl rfl (x_kk rfl) (x_kk rfl) rfl ((by have e := c_X9_refusal (X := X) (I := I) (L := L) (σ := v) (p := p) hR; rw [show sp_refu (I 226) v p = 3 from (if_neg (fun z => z h0)).trans ((if_neg (fun z => z h1)).trans (if_pos h2))] at e; exact e)) rfl ?_
  refine e_putI (M := mX9_isAccurate) dX9_isAccurate_7 fl_9033 (x_kk rfl) (x_kk rfl) rfl (fun q9 => Bool.noConfusion q9) ?_
  refine f_aload_n (M := mX9_isAccurate) 11 dX9_isAccurate_10 rfl rfl ?_
  refine e_getI (M := mX9_isAccurate) dX9_isAccurate_11 fl_9033 (x_kk rfl) (x_kk rfl) rfl ?_
  refine e_if_leF (M := mX9_isAccurate) 19 dX9_isAccurate_14 rfl (show ¬ ((3 : Int32) ≤ 0) by decide) ?_
  refine f_iconst (M := mX9_isAccurate) 18 dX9_isAccurate_17 ki_0 rfl ?_
  refine e_rb (M := mX9_isAccurate) dX9_isAccurate_18 rfl (x_kk rfl) (x_kk rfl) (by decide) ?_
  rfl
theorem kf_neededPlots_0 {N β : Nat} {a : Nat → Int32} {b : Nat → Int64} (H : y_CS N I L R β a b) {Ns Np Nl Nm : Nat} (Z : y_Z a Ns Np Nl Nm) {v : Int32} {p : Int32} (h0 : ¬ (v = -1 ∨ (0 ≤ v ∧ v ≤ a 8 - 1))) : x_Cv X mX8_neededPlots [.ref 0, .int v, .int p] (I, L, R) 233 (.inr 2, (I, L, R), 233) := by
  show x_Ev X mX8_neededPlots 0 [some (.ref 0), some (.int v), some (.int p), none, none, none, none, none, none] [] ((I, L, R), 233, 0, 0) _
  refine f_aload_n (M := mX8_neededPlots) 1 dX8_neededPlots_0 rfl rfl ?_
  refine f_iload_n (M := mX8_neededPlots) 2 dX8_neededPlots_1 rfl rfl ?_
  refine f_iload_n (M := mX8_neededPlots) 3 dX8_neededPlots_2 rfl rfl ?_
  exact e_cVX (M := mX8_neededPlots) 3 18 dX8_neededPlots_3 pa_8124 pb_8124 cc_8124 rfl rfl rfl rfl rfl (x_kk rfl) (x_kk rfl) rfl (kf_requireAccuracyQuestion_0 H Z h0) rfl
theorem mf_neededPlots_0 (hR : x_wf R) {Ns Np Nl Nm : Nat} (Z : y_Z (I 226) Ns Np Nl Nm) {v : Int32} {p : Int32} (h0 : ¬ (v = -1 ∨ (0 ≤ v ∧ v ≤ I 226 8 - 1))) : x_Cv X mX9_neededPlots [.ref 225, .int v, .int p] (I, L, R) 233 (.inl (some (.int (0))), (x_tw I 1, L, R), 233) := by
  obtain ⟨hNs, hn, hNp, hp, hNl, hl, hNm, hmm⟩ := Z
  show x_Ev X mX9_neededPlots 0 [some (.ref 225), some (.int v), some (.int p), none, none, none, none, none, none, none] [] ((I, L, R), 233, 0, 0) _
  refine f_aload_n (M := mX9_neededPlots) 1 dX9_neededPlots_0 rfl rfl ?_
  refine f_aload_n (M := mX9_neededPlots) 2 dX9_neededPlots_1 rfl rfl ?_
  refine f_iload_n (M := mX9_neededPlots) 3 dX9_neededPlots_2 rfl rfl ?_
  refine f_iload_n (M := mX9_neededPlots) 4 dX9_neededPlots_3 rfl rfl ?_
  refine e_cV (M := mX9_neededPlots) [_, _] 0 0 dX9_neededPlots_4 pa_9163 pb_9163 cc_9163 rfl rfl rfl rfl rfl (x_kk rfl) (x_kk rfl) rfl ((by have e := c_X9_refusal (X := X) (I := I) (L := L) (σ := v) (p := p) hR; rw [show sp_refu (I 226) v p = 1 from if_pos h0] at e; exact e)) rfl ?_
  refine e_putI (M := mX9_neededPlots) dX9_neededPlots_7 fl_9033 (x_kk rfl) (x_kk rfl) rfl (fun q9 => Bool.noConfusion q9) ?_
  refine f_aload_n (M := mX9_neededPlots) 11 dX9_neededPlots_10 rfl rfl ?_
  refine e_getI (M := mX9_neededPlots) dX9_neededPlots_11 fl_9033 (x_kk rfl) (x_kk rfl) rfl ?_
  refine e_if_leF (M := mX9_neededPlots) 19 dX9_neededPlots_14 rfl (show ¬ ((1 : Int32) ≤ 0) by decide) ?_
  refine f_iconst (M := mX9_neededPlots) 18 dX9_neededPlots_17 ki_0 rfl ?_
  refine e_ri (M := mX9_neededPlots) dX9_neededPlots_18 rfl (x_kk rfl) (x_kk rfl) ?_
  rfl
theorem kf_neededPlots_1 {N β : Nat} {a : Nat → Int32} {b : Nat → Int64} (H : y_CS N I L R β a b) {Ns Np Nl Nm : Nat} (Z : y_Z a Ns Np Nl Nm) {v : Int32} {p : Int32} (h0 : v = -1 ∨ (0 ≤ v ∧ v ≤ a 8 - 1)) (h1 : ¬ (1 ≤ p ∧ p ≤ 20)) : x_Cv X mX8_neededPlots [.ref 0, .int v, .int p] (I, L, R) 233 (.inr 1, (I, L, R), 233) := by
  show x_Ev X mX8_neededPlots 0 [some (.ref 0), some (.int v), some (.int p), none, none, none, none, none, none] [] ((I, L, R), 233, 0, 0) _
  refine f_aload_n (M := mX8_neededPlots) 1 dX8_neededPlots_0 rfl rfl ?_
  refine f_iload_n (M := mX8_neededPlots) 2 dX8_neededPlots_1 rfl rfl ?_
  refine f_iload_n (M := mX8_neededPlots) 3 dX8_neededPlots_2 rfl rfl ?_
  exact e_cVX (M := mX8_neededPlots) 3 18 dX8_neededPlots_3 pa_8124 pb_8124 cc_8124 rfl rfl rfl rfl rfl (x_kk rfl) (x_kk rfl) rfl (kf_requireAccuracyQuestion_1 H Z h0 h1) rfl
theorem mf_neededPlots_1 (hR : x_wf R) {Ns Np Nl Nm : Nat} (Z : y_Z (I 226) Ns Np Nl Nm) {v : Int32} {p : Int32} (h0 : v = -1 ∨ (0 ≤ v ∧ v ≤ I 226 8 - 1)) (h1 : ¬ (1 ≤ p ∧ p ≤ 20)) : x_Cv X mX9_neededPlots [.ref 225, .int v, .int p] (I, L, R) 233 (.inl (some (.int (0))), (x_tw I 2, L, R), 233) := by
  obtain ⟨hNs, hn, hNp, hp, hNl, hl, hNm, hmm⟩ := Z
  show x_Ev X mX9_neededPlots 0 [some (.ref 225), some (.int v), some (.int p), none, none, none, none, none, none, none] [] ((I, L, R), 233, 0, 0) _
  refine f_aload_n (M := mX9_neededPlots) 1 dX9_neededPlots_0 rfl rfl ?_
  refine f_aload_n (M := mX9_neededPlots) 2 dX9_neededPlots_1 rfl rfl ?_
  refine f_iload_n (M := mX9_neededPlots) 3 dX9_neededPlots_2 rfl rfl ?_
  refine f_iload_n (M := mX9_neededPlots) 4 dX9_neededPlots_3 rfl rfl ?_
  refine e_cV (M := mX9_neededPlots) [_, _] 0 0 dX9_neededPlots_4 pa_9163 pb_9163 cc_9163 rfl rfl rfl rfl rfl (x_kk rfl) (x_kk rfl) rfl ((by have e := c_X9_refusal (X := X) (I := I) (L := L) (σ := v) (p := p) hR; rw [show sp_refu (I 226) v p = 2 from (if_neg (fun z => z h0)).trans (if_pos h1)] at e; exact e)) rfl ?_
  refine e_putI (M := mX9_neededPlots) dX9_neededPlots_7 fl_9033 (x_kk rfl) (x_kk rfl) rfl (fun q9 => Bool.noConfusion q9) ?_
  refine f_aload_n (M := mX9_neededPlots) 11 dX9_neededPlots_10 rfl rfl ?_
  refine e_getI (M := mX9_neededPlots) dX9_neededPlots_11 fl_9033 (x_kk rfl) (x_kk rfl) rfl ?_
  refine e_if_leF (M := mX9_neededPlots) 19 dX9_neededPlots_14 rfl (show ¬ ((2 : Int32) ≤ 0) by decide) ?_
  refine f_iconst (M := mX9_neededPlots) 18 dX9_neededPlots_17 ki_0 rfl ?_
  refine e_ri (M := mX9_neededPlots) dX9_neededPlots_18 rfl (x_kk rfl) (x_kk rfl) ?_
  rfl
theorem kf_neededPlots_2 {N β : Nat} {a : Nat → Int32} {b : Nat → Int64} (H : y_CS N I L R β a b) {Ns Np Nl Nm : Nat} (Z : y_Z a Ns Np Nl Nm) {v : Int32} {p : Int32} (h0 : v = -1 ∨ (0 ≤ v ∧ v ≤ a 8 - 1)) (h1 : 1 ≤ p ∧ p ≤ 20) (h2 : ¬ (2 ≤ a 9)) : x_Cv X mX8_neededPlots [.ref 0, .int v, .int p] (I, L, R) 233 (.inr 0, (I, L, R), 233) := by
  show x_Ev X mX8_neededPlots 0 [some (.ref 0), some (.int v), some (.int p), none, none, none, none, none, none] [] ((I, L, R), 233, 0, 0) _
  refine f_aload_n (M := mX8_neededPlots) 1 dX8_neededPlots_0 rfl rfl ?_
  refine f_iload_n (M := mX8_neededPlots) 2 dX8_neededPlots_1 rfl rfl ?_
  refine f_iload_n (M := mX8_neededPlots) 3 dX8_neededPlots_2 rfl rfl ?_
  exact e_cVX (M := mX8_neededPlots) 3 18 dX8_neededPlots_3 pa_8124 pb_8124 cc_8124 rfl rfl rfl rfl rfl (x_kk rfl) (x_kk rfl) rfl (kf_requireAccuracyQuestion_2 H Z h0 h1 h2) rfl
theorem mf_neededPlots_2 (hR : x_wf R) {Ns Np Nl Nm : Nat} (Z : y_Z (I 226) Ns Np Nl Nm) {v : Int32} {p : Int32} (h0 : v = -1 ∨ (0 ≤ v ∧ v ≤ I 226 8 - 1)) (h1 : 1 ≤ p ∧ p ≤ 20) (h2 : ¬ (2 ≤ I 226 9)) : x_Cv X mX9_neededPlots [.ref 225, .int v, .int p] (I, L, R) 233 (.inl (some (.int (0))), (x_tw I 3, L, R), 233) := by
  obtain ⟨hNs, hn, hNp, hp, hNl, hl, hNm, hmm⟩ := Z
  show x_Ev X mX9_neededPlots 0 [some (.ref 225), some (.int v), some (.int p), none, none, none, none, none, none, none] [] ((I, L, R), 233, 0, 0) _
  refine f_aload_n (M := mX9_neededPlots) 1 dX9_neededPlots_0 rfl rfl ?_
  refine f_aload_n (M := mX9_neededPlots) 2 dX9_neededPlots_1 rfl rfl ?_
  refine f_iload_n (M := mX9_neededPlots) 3 dX9_neededPlots_2 rfl rfl ?_
  refine f_iload_n (M := mX9_neededPlots) 4 dX9_neededPlots_3 rfl rfl ?_
  refine e_cV (M := mX9_neededPlots) [_, _] 0 0 dX9_neededPlots_4 pa_9163 pb_9163 cc_9163 rfl rfl rfl rfl rfl (x_kk rfl) (x_kk rfl) rfl ((by have e := c_X9_refusal (X := X) (I := I) (L := L) (σ := v) (p := p) hR; rw [show sp_refu (I 226) v p = 3 from (if_neg (fun z => z h0)).trans ((if_neg (fun z => z h1)).trans (if_pos h2))] at e; exact e)) rfl ?_
  refine e_putI (M := mX9_neededPlots) dX9_neededPlots_7 fl_9033 (x_kk rfl) (x_kk rfl) rfl (fun q9 => Bool.noConfusion q9) ?_
  refine f_aload_n (M := mX9_neededPlots) 11 dX9_neededPlots_10 rfl rfl ?_
  refine e_getI (M := mX9_neededPlots) dX9_neededPlots_11 fl_9033 (x_kk rfl) (x_kk rfl) rfl ?_
  refine e_if_leF (M := mX9_neededPlots) 19 dX9_neededPlots_14 rfl (show ¬ ((3 : Int32) ≤ 0) by decide) ?_
  refine f_iconst (M := mX9_neededPlots) 18 dX9_neededPlots_17 ki_0 rfl ?_
  refine e_ri (M := mX9_neededPlots) dX9_neededPlots_18 rfl (x_kk rfl) (x_kk rfl) ?_
  rfl
theorem ko_isAccurate_t {N β : Nat} {a : Nat → Int32} {b : Nat → Int64} (H : y_CS N I L R β a b) {Ns Np Nl Nm : Nat} (Z : y_Z a Ns Np Nl Nm) {v : Int32} {p : Int32} (h0 : v = -1 ∨ (0 ≤ v ∧ v ≤ a 8 - 1)) (h1 : 1 ≤ p ∧ p ≤ 20) (h2 : 2 ≤ a 9) (h : sp_acc a v p Np) : x_Cv X mX8_isAccurate [.ref 0, .int v, .int p] (I, L, R) 233 (.inl (some (.int (1))), (I, L, R), 233) := by
  have Z0 := Z
  obtain ⟨hNs, hn, hNp, hp, hNl, hl, hNm, hmm⟩ := Z
  have hR := h_R H
  have hβ := h_β H
  have hS := h_S H
  have hσ := sp_of hNs hn h0
  have n2 : 2 ≤ Np := by
    rw [hp, kn_2, n_le (by omega) (by omega)] at h2
    exact h2
  show x_Ev X mX8_isAccurate 0 [some (.ref 0), some (.int v), some (.int p), none, none, none, none, none, none] [] ((I, L, R), 233, 0, 0) _
  refine f_aload_n (M := mX8_isAccurate) 1 dX8_isAccurate_0 rfl rfl ?_
  refine f_iload_n (M := mX8_isAccurate) 2 dX8_isAccurate_1 rfl rfl ?_
  refine f_iload_n (M := mX8_isAccurate) 3 dX8_isAccurate_2 rfl rfl ?_
  refine e_cV (M := mX8_isAccurate) [] 3 18 dX8_isAccurate_3 pa_8124 pb_8124 cc_8124 rfl rfl rfl rfl rfl (x_kk rfl) (x_kk rfl) rfl (ko_requireAccuracyQuestion H Z0 h0 h1 h2) rfl ?_
  refine f_aload_n (M := mX8_isAccurate) 7 dX8_isAccurate_6 rfl rfl ?_
  refine e_getR (M := mX8_isAccurate) dX8_isAccurate_7 fl_8026 (x_kk rfl) (x_kk rfl) rfl hS ?_
  refine e_getR (M := mX8_isAccurate) dX8_isAccurate_10 fl_8083 (x_kk rfl) (sl_lt hβ 0 rfl) (sl_s hβ 0 rfl rfl) (wf_6_1 hR hβ) ?_
  refine e_getR (M := mX8_isAccurate) dX8_isAccurate_13 fl_8087 (x_kk rfl) (sl_lt hβ 1 rfl) (sl_s hβ 1 rfl rfl) (wf_7_1 hR hβ) ?_
  refine f_iconst (M := mX8_isAccurate) 17 dX8_isAccurate_16 ki_0 rfl ?_
  refine e_ild (M := mX8_isAccurate) (w := 7) (j := 0) dX8_isAccurate_17 (sl_lt hβ 2 rfl) (sl_shp hβ 2 rfl) kn_0 (by omega) (by omega) ?_
  refine f_istore_n (M := mX8_isAccurate) (ls' := [_, _, _, _, _, _, _, _, _]) 19 dX8_isAccurate_18 rfl rfl rfl ?_
  refine f_aload_n (M := mX8_isAccurate) 20 dX8_isAccurate_19 rfl rfl ?_
  refine e_getR (M := mX8_isAccurate) dX8_isAccurate_20 fl_8026 (x_kk rfl) (x_kk rfl) rfl hS ?_
  refine e_getR (M := mX8_isAccurate) dX8_isAccurate_23 fl_8070 (x_kk rfl) (sl_lt hβ 0 rfl) (sl_s hβ 0 rfl rfl) (wf_6_2 hR hβ) ?_
  refine e_getI (M := mX8_isAccurate) dX8_isAccurate_26 fl_8074 (x_kk rfl) (sl_lt hβ 5 rfl) (sl_s hβ 5 rfl rfl) ?_
  refine f_istore (M := mX8_isAccurate) (ls' := [_, _, _, _, _, _, _, _, _]) 31 dX8_isAccurate_29 rfl rfl rfl ?_
  refine f_aload_n (M := mX8_isAccurate) 32 dX8_isAccurate_31 rfl rfl ?_
  refine e_getR (M := mX8_isAccurate) dX8_isAccurate_32 fl_8026 (x_kk rfl) (x_kk rfl) rfl hS ?_
  refine e_getR (M := mX8_isAccurate) dX8_isAccurate_35 fl_8070 (x_kk rfl) (sl_lt hβ 0 rfl) (sl_s hβ 0 rfl rfl) (wf_6_2 hR hβ) ?_
  refine f_iload_n (M := mX8_isAccurate) 39 dX8_isAccurate_38 rfl rfl ?_
  refine e_cV (M := mX8_isAccurate) [_] 3 18 dX8_isAccurate_39 pa_8128 pb_8128 cc_8128 rfl rfl rfl rfl rfl (x_kk rfl) (x_kk rfl) (x_rcvOK (sl_lt hβ 5 rfl) (sl_s hβ 5 rfl rfl) rfl) (k_weightedError H hNp hp hσ) rfl ?_
  refine f_lstore (M := mX8_isAccurate) (ls' := [_, _, _, _, _, _, _, _, _]) 44 dX8_isAccurate_42 rfl rfl rfl ?_
  refine f_aload_n (M := mX8_isAccurate) 45 dX8_isAccurate_44 rfl rfl ?_
  refine e_getR (M := mX8_isAccurate) dX8_isAccurate_45 fl_8026 (x_kk rfl) (x_kk rfl) rfl hS ?_
  refine e_getR (M := mX8_isAccurate) dX8_isAccurate_48 fl_8070 (x_kk rfl) (sl_lt hβ 0 rfl) (sl_s hβ 0 rfl rfl) (wf_6_2 hR hβ) ?_
  refine f_iload_n (M := mX8_isAccurate) 52 dX8_isAccurate_51 rfl rfl ?_
  refine f_iload_n (M := mX8_isAccurate) 53 dX8_isAccurate_52 rfl rfl ?_
  refine f_iload_n (M := mX8_isAccurate) 54 dX8_isAccurate_53 rfl rfl ?_
  refine e_cV (M := mX8_isAccurate) [_] 3 18 dX8_isAccurate_54 pa_8131 pb_8131 cc_8131 rfl rfl rfl rfl rfl (x_kk rfl) (x_kk rfl) (x_rcvOK (sl_lt hβ 5 rfl) (sl_s hβ 5 rfl rfl) rfl) (k_allowance H hNp hp hσ) rfl ?_
  refine f_lstore (M := mX8_isAccurate) (ls' := [_, _, _, _, _, _, _, _, _]) 59 dX8_isAccurate_57 rfl rfl rfl ?_
  refine f_lload (M := mX8_isAccurate) 61 dX8_isAccurate_59 rfl rfl ?_
  refine f_iload_n (M := mX8_isAccurate) 62 dX8_isAccurate_61 rfl rfl ?_
  refine f_iload (M := mX8_isAccurate) 64 dX8_isAccurate_62 rfl rfl ?_
  refine f_isub (M := mX8_isAccurate) 65 dX8_isAccurate_64 rfl ?_
  refine f_i2l (M := mX8_isAccurate) 66 dX8_isAccurate_65 rfl ?_
  refine f_lmul (M := mX8_isAccurate) 67 dX8_isAccurate_66 rfl ?_
  refine f_lload (M := mX8_isAccurate) 69 dX8_isAccurate_67 rfl rfl ?_
  refine f_iload (M := mX8_isAccurate) 71 dX8_isAccurate_69 rfl rfl ?_
  refine f_i2l (M := mX8_isAccurate) 72 dX8_isAccurate_71 rfl ?_
  refine f_lmul (M := mX8_isAccurate) 73 dX8_isAccurate_72 rfl ?_
  refine f_lcmp (M := mX8_isAccurate) 74 dX8_isAccurate_73 rfl ?_
  refine e_if_gtF (M := mX8_isAccurate) 81 dX8_isAccurate_74 rfl (by intro z0; have z := lc_gt.mp z0; have e0 : sp_wide a v Np * (a 1 - Int32.ofNat Np).toInt64 ≤ sp_narr a v p Np * (Int32.ofNat Np).toInt64 := (acc_iff (h_IT H) (h_IC H) hσ hNp hp n2 h1).mpr h; rw [← hp] at e0; unfold sp_wide sp_narr at e0; rw [(h_T H).2.1 0 (by decide), (h_C H).1, n91 hNp hp] at z; exact absurd z (l_nlt.mpr e0)) ?_
  refine f_iconst (M := mX8_isAccurate) 78 dX8_isAccurate_77 ki_1 rfl ?_
  refine f_goto (M := mX8_isAccurate) 82 dX8_isAccurate_78 rfl ?_
  refine e_rb (M := mX8_isAccurate) dX8_isAccurate_82 rfl (x_kk rfl) (x_kk rfl) (by decide) ?_
  rfl
theorem ko_isAccurate_f {N β : Nat} {a : Nat → Int32} {b : Nat → Int64} (H : y_CS N I L R β a b) {Ns Np Nl Nm : Nat} (Z : y_Z a Ns Np Nl Nm) {v : Int32} {p : Int32} (h0 : v = -1 ∨ (0 ≤ v ∧ v ≤ a 8 - 1)) (h1 : 1 ≤ p ∧ p ≤ 20) (h2 : 2 ≤ a 9) (h : ¬ sp_acc a v p Np) : x_Cv X mX8_isAccurate [.ref 0, .int v, .int p] (I, L, R) 233 (.inl (some (.int (0))), (I, L, R), 233) := by
  have Z0 := Z
  obtain ⟨hNs, hn, hNp, hp, hNl, hl, hNm, hmm⟩ := Z
  have hR := h_R H
  have hβ := h_β H
  have hS := h_S H
  have hσ := sp_of hNs hn h0
  have n2 : 2 ≤ Np := by
    rw [hp, kn_2, n_le (by omega) (by omega)] at h2
    exact h2
  show x_Ev X mX8_isAccurate 0 [some (.ref 0), some (.int v), some (.int p), none, none, none, none, none, none] [] ((I, L, R), 233, 0, 0) _
  refine f_aload_n (M := mX8_isAccurate) 1 dX8_isAccurate_0 rfl rfl ?_
  refine f_iload_n (M := mX8_isAccurate) 2 dX8_isAccurate_1 rfl rfl ?_
  refine f_iload_n (M := mX8_isAccurate) 3 dX8_isAccurate_2 rfl rfl ?_
  refine e_cV (M := mX8_isAccurate) [] 3 18 dX8_isAccurate_3 pa_8124 pb_8124 cc_8124 rfl rfl rfl rfl rfl (x_kk rfl) (x_kk rfl) rfl (ko_requireAccuracyQuestion H Z0 h0 h1 h2) rfl ?_
  refine f_aload_n (M := mX8_isAccurate) 7 dX8_isAccurate_6 rfl rfl ?_
  refine e_getR (M := mX8_isAccurate) dX8_isAccurate_7 fl_8026 (x_kk rfl) (x_kk rfl) rfl hS ?_
  refine e_getR (M := mX8_isAccurate) dX8_isAccurate_10 fl_8083 (x_kk rfl) (sl_lt hβ 0 rfl) (sl_s hβ 0 rfl rfl) (wf_6_1 hR hβ) ?_
  refine e_getR (M := mX8_isAccurate) dX8_isAccurate_13 fl_8087 (x_kk rfl) (sl_lt hβ 1 rfl) (sl_s hβ 1 rfl rfl) (wf_7_1 hR hβ) ?_
  refine f_iconst (M := mX8_isAccurate) 17 dX8_isAccurate_16 ki_0 rfl ?_
  refine e_ild (M := mX8_isAccurate) (w := 7) (j := 0) dX8_isAccurate_17 (sl_lt hβ 2 rfl) (sl_shp hβ 2 rfl) kn_0 (by omega) (by omega) ?_
  refine f_istore_n (M := mX8_isAccurate) (ls' := [_, _, _, _, _, _, _, _, _]) 19 dX8_isAccurate_18 rfl rfl rfl ?_
  refine f_aload_n (M := mX8_isAccurate) 20 dX8_isAccurate_19 rfl rfl ?_
  refine e_getR (M := mX8_isAccurate) dX8_isAccurate_20 fl_8026 (x_kk rfl) (x_kk rfl) rfl hS ?_
  refine e_getR (M := mX8_isAccurate) dX8_isAccurate_23 fl_8070 (x_kk rfl) (sl_lt hβ 0 rfl) (sl_s hβ 0 rfl rfl) (wf_6_2 hR hβ) ?_
  refine e_getI (M := mX8_isAccurate) dX8_isAccurate_26 fl_8074 (x_kk rfl) (sl_lt hβ 5 rfl) (sl_s hβ 5 rfl rfl) ?_
  refine f_istore (M := mX8_isAccurate) (ls' := [_, _, _, _, _, _, _, _, _]) 31 dX8_isAccurate_29 rfl rfl rfl ?_
  refine f_aload_n (M := mX8_isAccurate) 32 dX8_isAccurate_31 rfl rfl ?_
  refine e_getR (M := mX8_isAccurate) dX8_isAccurate_32 fl_8026 (x_kk rfl) (x_kk rfl) rfl hS ?_
  refine e_getR (M := mX8_isAccurate) dX8_isAccurate_35 fl_8070 (x_kk rfl) (sl_lt hβ 0 rfl) (sl_s hβ 0 rfl rfl) (wf_6_2 hR hβ) ?_
  refine f_iload_n (M := mX8_isAccurate) 39 dX8_isAccurate_38 rfl rfl ?_
  refine e_cV (M := mX8_isAccurate) [_] 3 18 dX8_isAccurate_39 pa_8128 pb_8128 cc_8128 rfl rfl rfl rfl rfl (x_kk rfl) (x_kk rfl) (x_rcvOK (sl_lt hβ 5 rfl) (sl_s hβ 5 rfl rfl) rfl) (k_weightedError H hNp hp hσ) rfl ?_
  refine f_lstore (M := mX8_isAccurate) (ls' := [_, _, _, _, _, _, _, _, _]) 44 dX8_isAccurate_42 rfl rfl rfl ?_
  refine f_aload_n (M := mX8_isAccurate) 45 dX8_isAccurate_44 rfl rfl ?_
  refine e_getR (M := mX8_isAccurate) dX8_isAccurate_45 fl_8026 (x_kk rfl) (x_kk rfl) rfl hS ?_
  refine e_getR (M := mX8_isAccurate) dX8_isAccurate_48 fl_8070 (x_kk rfl) (sl_lt hβ 0 rfl) (sl_s hβ 0 rfl rfl) (wf_6_2 hR hβ) ?_
  refine f_iload_n (M := mX8_isAccurate) 52 dX8_isAccurate_51 rfl rfl ?_
  refine f_iload_n (M := mX8_isAccurate) 53 dX8_isAccurate_52 rfl rfl ?_
  refine f_iload_n (M := mX8_isAccurate) 54 dX8_isAccurate_53 rfl rfl ?_
  refine e_cV (M := mX8_isAccurate) [_] 3 18 dX8_isAccurate_54 pa_8131 pb_8131 cc_8131 rfl rfl rfl rfl rfl (x_kk rfl) (x_kk rfl) (x_rcvOK (sl_lt hβ 5 rfl) (sl_s hβ 5 rfl rfl) rfl) (k_allowance H hNp hp hσ) rfl ?_
  refine f_lstore (M := mX8_isAccurate) (ls' := [_, _, _, _, _, _, _, _, _]) 59 dX8_isAccurate_57 rfl rfl rfl ?_
  refine f_lload (M := mX8_isAccurate) 61 dX8_isAccurate_59 rfl rfl ?_
  refine f_iload_n (M := mX8_isAccurate) 62 dX8_isAccurate_61 rfl rfl ?_
  refine f_iload (M := mX8_isAccurate) 64 dX8_isAccurate_62 rfl rfl ?_
  refine f_isub (M := mX8_isAccurate) 65 dX8_isAccurate_64 rfl ?_
  refine f_i2l (M := mX8_isAccurate) 66 dX8_isAccurate_65 rfl ?_
  refine f_lmul (M := mX8_isAccurate) 67 dX8_isAccurate_66 rfl ?_
  refine f_lload (M := mX8_isAccurate) 69 dX8_isAccurate_67 rfl rfl ?_
  refine f_iload (M := mX8_isAccurate) 71 dX8_isAccurate_69 rfl rfl ?_
  refine f_i2l (M := mX8_isAccurate) 72 dX8_isAccurate_71 rfl ?_
  refine f_lmul (M := mX8_isAccurate) 73 dX8_isAccurate_72 rfl ?_
  refine f_lcmp (M := mX8_isAccurate) 74 dX8_isAccurate_73 rfl ?_
  refine e_if_gtT (M := mX8_isAccurate) 81 dX8_isAccurate_74 rfl (lc_gt.mpr (by refine l_nle.mp (fun z => h ((acc_iff (h_IT H) (h_IC H) hσ hNp hp n2 h1).mp ?_)); show sp_wide a v Np * (a 1 - Int32.ofNat Np).toInt64 ≤ sp_narr a v p Np * (Int32.ofNat Np).toInt64; rw [← hp]; unfold sp_wide sp_narr; rw [(h_T H).2.1 0 (by decide), (h_C H).1, n91 hNp hp] at z; exact z)) ?_
  refine f_iconst (M := mX8_isAccurate) 82 dX8_isAccurate_81 ki_0 rfl ?_
  refine e_rb (M := mX8_isAccurate) dX8_isAccurate_82 rfl (x_kk rfl) (x_kk rfl) (by decide) ?_
  rfl
theorem mo_isAccurate_t (hR : x_wf R) {Ns Np Nl Nm : Nat} (Z : y_Z (I 226) Ns Np Nl Nm) {v : Int32} {p : Int32} (h0 : v = -1 ∨ (0 ≤ v ∧ v ≤ I 226 8 - 1)) (h1 : 1 ≤ p ∧ p ≤ 20) (h2 : 2 ≤ I 226 9) (h : sp_acc (I 226) v p Np) : x_Cv X mX9_isAccurate [.ref 225, .int v, .int p] (I, L, R) 233 (.inl (some (.int (1))), (x_tw I 0, L, R), 233) := by
  obtain ⟨hNs, hn, hNp, hp, hNl, hl, hNm, hmm⟩ := Z
  have hσ := sp_of hNs hn h0
  have n2 : 2 ≤ Np := by
    rw [hp, kn_2, n_le (by omega) (by omega)] at h2
    exact h2
  show x_Ev X mX9_isAccurate 0 [some (.ref 225), some (.int v), some (.int p), none, none] [] ((I, L, R), 233, 0, 0) _
  refine f_aload_n (M := mX9_isAccurate) 1 dX9_isAccurate_0 rfl rfl ?_
  refine f_aload_n (M := mX9_isAccurate) 2 dX9_isAccurate_1 rfl rfl ?_
  refine f_iload_n (M := mX9_isAccurate) 3 dX9_isAccurate_2 rfl rfl ?_
  refine f_iload_n (M := mX9_isAccurate) 4 dX9_isAccurate_3 rfl rfl ?_
  refine e_cV (M := mX9_isAccurate) [_, _] 0 0 dX9_isAccurate_4 pa_9163 pb_9163 cc_9163 rfl rfl rfl rfl rfl (x_kk rfl) (x_kk rfl) rfl ((by have e := c_X9_refusal (X := X) (I := I) (L := L) (σ := v) (p := p) hR; rw [show sp_refu (I 226) v p = 0 from (if_neg (fun z => z h0)).trans ((if_neg (fun z => z h1)).trans (if_neg (fun z => z h2)))] at e; exact e)) rfl ?_
  refine e_putI (M := mX9_isAccurate) dX9_isAccurate_7 fl_9033 (x_kk rfl) (x_kk rfl) rfl (fun q9 => Bool.noConfusion q9) ?_
  refine f_aload_n (M := mX9_isAccurate) 11 dX9_isAccurate_10 rfl rfl ?_
  refine e_getI (M := mX9_isAccurate) dX9_isAccurate_11 fl_9033 (x_kk rfl) (x_kk rfl) rfl ?_
  refine e_if_leT (M := mX9_isAccurate) 19 dX9_isAccurate_14 rfl (show (0 : Int32) ≤ 0 by decide) ?_
  refine f_aload_n (M := mX9_isAccurate) 20 dX9_isAccurate_19 rfl rfl ?_
  refine e_getR (M := mX9_isAccurate) dX9_isAccurate_20 fl_9007 (x_kk rfl) (x_kk rfl) rfl (wf_9_0 hR) ?_
  refine f_bipush (M := mX9_isAccurate) 25 dX9_isAccurate_23 kb_9 rfl ?_
  refine e_ild (M := mX9_isAccurate) (w := 606) (j := 9) dX9_isAccurate_25 (x_kk rfl) rfl kn_9 (by omega) (by omega) ?_
  refine f_i2l (M := mX9_isAccurate) 27 dX9_isAccurate_26 rfl ?_
  refine f_lstore_n (M := mX9_isAccurate) (ls' := [_, _, _, _, _]) 28 dX9_isAccurate_27 rfl rfl rfl ?_
  refine f_ldc2 (M := mX9_isAccurate) 31 dX9_isAccurate_28 (x_kk rfl) csl_9166 rfl ?_
  refine f_aload_n (M := mX9_isAccurate) 32 dX9_isAccurate_31 rfl rfl ?_
  refine e_getR (M := mX9_isAccurate) dX9_isAccurate_32 fl_9007 (x_kk rfl) (x_kk rfl) rfl (wf_9_0 hR) ?_
  refine f_iconst (M := mX9_isAccurate) 36 dX9_isAccurate_35 ki_1 rfl ?_
  refine e_ild (M := mX9_isAccurate) (w := 606) (j := 1) dX9_isAccurate_36 (x_kk rfl) rfl kn_1 (by omega) (by omega) ?_
  refine f_i2l (M := mX9_isAccurate) 38 dX9_isAccurate_37 rfl ?_
  refine f_lload_n (M := mX9_isAccurate) 39 dX9_isAccurate_38 rfl rfl ?_
  refine f_lsub (M := mX9_isAccurate) 40 dX9_isAccurate_39 rfl ?_
  refine f_lmul (M := mX9_isAccurate) 41 dX9_isAccurate_40 rfl ?_
  refine f_aload_n (M := mX9_isAccurate) 42 dX9_isAccurate_41 rfl rfl ?_
  refine f_iload_n (M := mX9_isAccurate) 43 dX9_isAccurate_42 rfl rfl ?_
  refine e_cV (M := mX9_isAccurate) [_, _] 0 0 dX9_isAccurate_43 pa_9158 pb_9158 cc_9158 rfl rfl rfl rfl rfl (x_kk rfl) (x_kk rfl) rfl (c_X9_spreadOf (I := x_tw I 0) hR hNp hp hσ) rfl ?_
  refine f_lmul (M := mX9_isAccurate) 47 dX9_isAccurate_46 rfl ?_
  refine f_iload_n (M := mX9_isAccurate) 48 dX9_isAccurate_47 rfl rfl ?_
  refine f_i2l (M := mX9_isAccurate) 49 dX9_isAccurate_48 rfl ?_
  refine f_iload_n (M := mX9_isAccurate) 50 dX9_isAccurate_49 rfl rfl ?_
  refine f_i2l (M := mX9_isAccurate) 51 dX9_isAccurate_50 rfl ?_
  refine f_lmul (M := mX9_isAccurate) 52 dX9_isAccurate_51 rfl ?_
  refine f_aload_n (M := mX9_isAccurate) 53 dX9_isAccurate_52 rfl rfl ?_
  refine e_getR (M := mX9_isAccurate) dX9_isAccurate_53 fl_9007 (x_kk rfl) (x_kk rfl) rfl (wf_9_0 hR) ?_
  refine f_iconst (M := mX9_isAccurate) 57 dX9_isAccurate_56 ki_1 rfl ?_
  refine e_ild (M := mX9_isAccurate) (w := 606) (j := 1) dX9_isAccurate_57 (x_kk rfl) rfl kn_1 (by omega) (by omega) ?_
  refine f_i2l (M := mX9_isAccurate) 59 dX9_isAccurate_58 rfl ?_
  refine f_lmul (M := mX9_isAccurate) 60 dX9_isAccurate_59 rfl ?_
  refine f_aload_n (M := mX9_isAccurate) 61 dX9_isAccurate_60 rfl rfl ?_
  refine f_iload_n (M := mX9_isAccurate) 62 dX9_isAccurate_61 rfl rfl ?_
  refine e_cV (M := mX9_isAccurate) [_, _, _] 0 0 dX9_isAccurate_62 pa_9143 pb_9143 cc_9143 rfl rfl rfl rfl rfl (x_kk rfl) (x_kk rfl) rfl (c_X9_sumOf (I := x_tw I 0) hR hNp hp hσ) rfl ?_
  refine f_lmul (M := mX9_isAccurate) 66 dX9_isAccurate_65 rfl ?_
  refine f_aload_n (M := mX9_isAccurate) 67 dX9_isAccurate_66 rfl rfl ?_
  refine f_iload_n (M := mX9_isAccurate) 68 dX9_isAccurate_67 rfl rfl ?_
  refine e_cV (M := mX9_isAccurate) [_, _, _] 0 0 dX9_isAccurate_68 pa_9143 pb_9143 cc_9143 rfl rfl rfl rfl rfl (x_kk rfl) (x_kk rfl) rfl (c_X9_sumOf (I := x_tw I 0) hR hNp hp hσ) rfl ?_
  refine f_lmul (M := mX9_isAccurate) 72 dX9_isAccurate_71 rfl ?_
  refine f_lload_n (M := mX9_isAccurate) 73 dX9_isAccurate_72 rfl rfl ?_
  refine f_lconst (M := mX9_isAccurate) 74 dX9_isAccurate_73 kl_1 rfl ?_
  refine f_lsub (M := mX9_isAccurate) 75 dX9_isAccurate_74 rfl ?_
  refine f_lmul (M := mX9_isAccurate) 76 dX9_isAccurate_75 rfl ?_
  refine f_lcmp (M := mX9_isAccurate) 77 dX9_isAccurate_76 rfl ?_
  refine e_if_gtF (M := mX9_isAccurate) 84 dX9_isAccurate_77 rfl (fun z => l_nlt.mpr h (lc_gt.mp z)) ?_
  refine f_iconst (M := mX9_isAccurate) 81 dX9_isAccurate_80 ki_1 rfl ?_
  refine f_goto (M := mX9_isAccurate) 85 dX9_isAccurate_81 rfl ?_
  refine e_rb (M := mX9_isAccurate) dX9_isAccurate_85 rfl (x_kk rfl) (x_kk rfl) (by decide) ?_
  rfl
theorem mo_isAccurate_f (hR : x_wf R) {Ns Np Nl Nm : Nat} (Z : y_Z (I 226) Ns Np Nl Nm) {v : Int32} {p : Int32} (h0 : v = -1 ∨ (0 ≤ v ∧ v ≤ I 226 8 - 1)) (h1 : 1 ≤ p ∧ p ≤ 20) (h2 : 2 ≤ I 226 9) (h : ¬ sp_acc (I 226) v p Np) : x_Cv X mX9_isAccurate [.ref 225, .int v, .int p] (I, L, R) 233 (.inl (some (.int (0))), (x_tw I 0, L, R), 233) := by
  obtain ⟨hNs, hn, hNp, hp, hNl, hl, hNm, hmm⟩ := Z
  have hσ := sp_of hNs hn h0
  have n2 : 2 ≤ Np := by
    rw [hp, kn_2, n_le (by omega) (by omega)] at h2
    exact h2
  show x_Ev X mX9_isAccurate 0 [some (.ref 225), some (.int v), some (.int p), none, none] [] ((I, L, R), 233, 0, 0) _
  refine f_aload_n (M := mX9_isAccurate) 1 dX9_isAccurate_0 rfl rfl ?_
  refine f_aload_n (M := mX9_isAccurate) 2 dX9_isAccurate_1 rfl rfl ?_
  refine f_iload_n (M := mX9_isAccurate) 3 dX9_isAccurate_2 rfl rfl ?_
  refine f_iload_n (M := mX9_isAccurate) 4 dX9_isAccurate_3 rfl rfl ?_
  refine e_cV (M := mX9_isAccurate) [_, _] 0 0 dX9_isAccurate_4 pa_9163 pb_9163 cc_9163 rfl rfl rfl rfl rfl (x_kk rfl) (x_kk rfl) rfl ((by have e := c_X9_refusal (X := X) (I := I) (L := L) (σ := v) (p := p) hR; rw [show sp_refu (I 226) v p = 0 from (if_neg (fun z => z h0)).trans ((if_neg (fun z => z h1)).trans (if_neg (fun z => z h2)))] at e; exact e)) rfl ?_
  refine e_putI (M := mX9_isAccurate) dX9_isAccurate_7 fl_9033 (x_kk rfl) (x_kk rfl) rfl (fun q9 => Bool.noConfusion q9) ?_
  refine f_aload_n (M := mX9_isAccurate) 11 dX9_isAccurate_10 rfl rfl ?_
  refine e_getI (M := mX9_isAccurate) dX9_isAccurate_11 fl_9033 (x_kk rfl) (x_kk rfl) rfl ?_
  refine e_if_leT (M := mX9_isAccurate) 19 dX9_isAccurate_14 rfl (show (0 : Int32) ≤ 0 by decide) ?_
  refine f_aload_n (M := mX9_isAccurate) 20 dX9_isAccurate_19 rfl rfl ?_
  refine e_getR (M := mX9_isAccurate) dX9_isAccurate_20 fl_9007 (x_kk rfl) (x_kk rfl) rfl (wf_9_0 hR) ?_
  refine f_bipush (M := mX9_isAccurate) 25 dX9_isAccurate_23 kb_9 rfl ?_
  refine e_ild (M := mX9_isAccurate) (w := 606) (j := 9) dX9_isAccurate_25 (x_kk rfl) rfl kn_9 (by omega) (by omega) ?_
  refine f_i2l (M := mX9_isAccurate) 27 dX9_isAccurate_26 rfl ?_
  refine f_lstore_n (M := mX9_isAccurate) (ls' := [_, _, _, _, _]) 28 dX9_isAccurate_27 rfl rfl rfl ?_
  refine f_ldc2 (M := mX9_isAccurate) 31 dX9_isAccurate_28 (x_kk rfl) csl_9166 rfl ?_
  refine f_aload_n (M := mX9_isAccurate) 32 dX9_isAccurate_31 rfl rfl ?_
  refine e_getR (M := mX9_isAccurate) dX9_isAccurate_32 fl_9007 (x_kk rfl) (x_kk rfl) rfl (wf_9_0 hR) ?_
  refine f_iconst (M := mX9_isAccurate) 36 dX9_isAccurate_35 ki_1 rfl ?_
  refine e_ild (M := mX9_isAccurate) (w := 606) (j := 1) dX9_isAccurate_36 (x_kk rfl) rfl kn_1 (by omega) (by omega) ?_
  refine f_i2l (M := mX9_isAccurate) 38 dX9_isAccurate_37 rfl ?_
  refine f_lload_n (M := mX9_isAccurate) 39 dX9_isAccurate_38 rfl rfl ?_
  refine f_lsub (M := mX9_isAccurate) 40 dX9_isAccurate_39 rfl ?_
  refine f_lmul (M := mX9_isAccurate) 41 dX9_isAccurate_40 rfl ?_
  refine f_aload_n (M := mX9_isAccurate) 42 dX9_isAccurate_41 rfl rfl ?_
  refine f_iload_n (M := mX9_isAccurate) 43 dX9_isAccurate_42 rfl rfl ?_
  refine e_cV (M := mX9_isAccurate) [_, _] 0 0 dX9_isAccurate_43 pa_9158 pb_9158 cc_9158 rfl rfl rfl rfl rfl (x_kk rfl) (x_kk rfl) rfl (c_X9_spreadOf (I := x_tw I 0) hR hNp hp hσ) rfl ?_
  refine f_lmul (M := mX9_isAccurate) 47 dX9_isAccurate_46 rfl ?_
  refine f_iload_n (M := mX9_isAccurate) 48 dX9_isAccurate_47 rfl rfl ?_
  refine f_i2l (M := mX9_isAccurate) 49 dX9_isAccurate_48 rfl ?_
  refine f_iload_n (M := mX9_isAccurate) 50 dX9_isAccurate_49 rfl rfl ?_
  refine f_i2l (M := mX9_isAccurate) 51 dX9_isAccurate_50 rfl ?_
  refine f_lmul (M := mX9_isAccurate) 52 dX9_isAccurate_51 rfl ?_
  refine f_aload_n (M := mX9_isAccurate) 53 dX9_isAccurate_52 rfl rfl ?_
  refine e_getR (M := mX9_isAccurate) dX9_isAccurate_53 fl_9007 (x_kk rfl) (x_kk rfl) rfl (wf_9_0 hR) ?_
  refine f_iconst (M := mX9_isAccurate) 57 dX9_isAccurate_56 ki_1 rfl ?_
  refine e_ild (M := mX9_isAccurate) (w := 606) (j := 1) dX9_isAccurate_57 (x_kk rfl) rfl kn_1 (by omega) (by omega) ?_
  refine f_i2l (M := mX9_isAccurate) 59 dX9_isAccurate_58 rfl ?_
  refine f_lmul (M := mX9_isAccurate) 60 dX9_isAccurate_59 rfl ?_
  refine f_aload_n (M := mX9_isAccurate) 61 dX9_isAccurate_60 rfl rfl ?_
  refine f_iload_n (M := mX9_isAccurate) 62 dX9_isAccurate_61 rfl rfl ?_
  refine e_cV (M := mX9_isAccurate) [_, _, _] 0 0 dX9_isAccurate_62 pa_9143 pb_9143 cc_9143 rfl rfl rfl rfl rfl (x_kk rfl) (x_kk rfl) rfl (c_X9_sumOf (I := x_tw I 0) hR hNp hp hσ) rfl ?_
  refine f_lmul (M := mX9_isAccurate) 66 dX9_isAccurate_65 rfl ?_
  refine f_aload_n (M := mX9_isAccurate) 67 dX9_isAccurate_66 rfl rfl ?_
  refine f_iload_n (M := mX9_isAccurate) 68 dX9_isAccurate_67 rfl rfl ?_
  refine e_cV (M := mX9_isAccurate) [_, _, _] 0 0 dX9_isAccurate_68 pa_9143 pb_9143 cc_9143 rfl rfl rfl rfl rfl (x_kk rfl) (x_kk rfl) rfl (c_X9_sumOf (I := x_tw I 0) hR hNp hp hσ) rfl ?_
  refine f_lmul (M := mX9_isAccurate) 72 dX9_isAccurate_71 rfl ?_
  refine f_lload_n (M := mX9_isAccurate) 73 dX9_isAccurate_72 rfl rfl ?_
  refine f_lconst (M := mX9_isAccurate) 74 dX9_isAccurate_73 kl_1 rfl ?_
  refine f_lsub (M := mX9_isAccurate) 75 dX9_isAccurate_74 rfl ?_
  refine f_lmul (M := mX9_isAccurate) 76 dX9_isAccurate_75 rfl ?_
  refine f_lcmp (M := mX9_isAccurate) 77 dX9_isAccurate_76 rfl ?_
  refine e_if_gtT (M := mX9_isAccurate) 84 dX9_isAccurate_77 rfl (lc_gt.mpr (l_nle.mp h)) ?_
  refine f_iconst (M := mX9_isAccurate) 85 dX9_isAccurate_84 ki_0 rfl ?_
  refine e_rb (M := mX9_isAccurate) dX9_isAccurate_85 rfl (x_kk rfl) (x_kk rfl) (by decide) ?_
  rfl
theorem sim_isAccurate (T : y_T N I L R) {v : Int32} {p : Int32} : y_OI N X mL_isAccurate [.ref 0, .int v, .int p, .ref 232] mX9_isAccurate [.ref 225, .int v, .int p] I L R := by
  have T0 := T
  obtain ⟨a, b, kn, ks, bf, bn, ep, ⟨β, δ, γ, ν, hB⟩, hM, hI⟩ := T
  have H : y_CS N I L R β a b := ⟨hM.1, hB.1.2.1, hB.1.2.2.2.2.1, hB.2.2.2.2.2.1, hI.1⟩
  obtain ⟨Ns, Np, Nl, Nm, Z⟩ := Z_of hI.1
  have hR := hM.1
  have ha : I 226 = a := hM.2.1
  have hb : L 229 = b := hM.2.2.1
  subst ha
  subst hb
  obtain ⟨hNs, hn, hNp, hp, hNl, hl, hNm, hmm⟩ := id Z
  by_cases h0 : v = -1 ∨ (0 ≤ v ∧ v ≤ I 226 8 - 1)
  · skip
    by_cases h1 : 1 ≤ p ∧ p ≤ 20
    · skip
      by_cases h2 : 2 ≤ I 226 9
      · skip
        by_cases h : sp_acc (I 226) v p Np
        · exact OI_q (v := 1) T0 (w_isAccurate_t (ko_isAccurate_t H Z h0 h1 h2 h)) (mo_isAccurate_t hR Z h0 h1 h2 h)
        · exact OI_q (v := 0) T0 (w_isAccurate_f (ko_isAccurate_f H Z h0 h1 h2 h)) (mo_isAccurate_f hR Z h0 h1 h2 h)
      · exact OI_x T0 (by decide) (w_isAccurate_x0 (kf_isAccurate_2 H Z h0 h1 h2)) (mf_isAccurate_2 hR Z h0 h1 h2)
    · exact OI_x T0 (by decide) (w_isAccurate_x1 (kf_isAccurate_1 H Z h0 h1)) (mf_isAccurate_1 hR Z h0 h1)
  · exact OI_x T0 (by decide) (w_isAccurate_x2 (kf_isAccurate_0 H Z h0)) (mf_isAccurate_0 hR Z h0)
theorem l_X8_neededPlots {a : Nat → Int32} {σ p : Int32} {Np zz : Nat} (hzz : zz < 1000) (hz : a 1 = Int32.ofNat zz) : ∀ d k, k + d = zz → x_Ev X mX8_neededPlots 50 [some (.ref 0), some (.int σ), some (.int p), some (.int (a 1)), some (.long (sp_wide a σ Np)), none, some (.long (sp_narr a σ p Np)), none, some (.int (Int32.ofNat k))] [] ((I, L, R), 233, 3, 18) (.inl (some (.int (Int32.ofNat (y_sch (fun k => sp_okm a σ p Np k) d k)))), (I, L, R), 233) := by
  intro d
  induction d with
  | zero =>
    intro k hd
    obtain rfl : zz = k := by omega
    refine f_iload (M := mX8_neededPlots) 52 dX8_neededPlots_50 rfl rfl ?_
    refine f_iload_n (M := mX8_neededPlots) 53 dX8_neededPlots_52 rfl rfl ?_
    refine e_icmp_geT (M := mX8_neededPlots) 83 dX8_neededPlots_53 rfl (by rw [hz]; exact Int32.le_refl _) ?_
    refine f_iload_n (M := mX8_neededPlots) 84 dX8_neededPlots_83 rfl rfl ?_
    refine e_ri (M := mX8_neededPlots) dX8_neededPlots_84 rfl (x_kk rfl) (x_kk rfl) ?_
    exact r_i hz
  | succ d ih =>
    intro k hd
    refine f_iload (M := mX8_neededPlots) 52 dX8_neededPlots_50 rfl rfl ?_
    refine f_iload_n (M := mX8_neededPlots) 53 dX8_neededPlots_52 rfl rfl ?_
    refine e_icmp_geF (M := mX8_neededPlots) 83 dX8_neededPlots_53 rfl (by rw [hz, n_le (by omega) (by omega)]; omega) ?_
    refine f_lload (M := mX8_neededPlots) 58 dX8_neededPlots_56 rfl rfl ?_
    refine f_iload_n (M := mX8_neededPlots) 59 dX8_neededPlots_58 rfl rfl ?_
    refine f_iload (M := mX8_neededPlots) 61 dX8_neededPlots_59 rfl rfl ?_
    refine f_isub (M := mX8_neededPlots) 62 dX8_neededPlots_61 rfl ?_
    refine f_i2l (M := mX8_neededPlots) 63 dX8_neededPlots_62 rfl ?_
    refine f_lmul (M := mX8_neededPlots) 64 dX8_neededPlots_63 rfl ?_
    refine f_lload (M := mX8_neededPlots) 66 dX8_neededPlots_64 rfl rfl ?_
    refine f_iload (M := mX8_neededPlots) 68 dX8_neededPlots_66 rfl rfl ?_
    refine f_i2l (M := mX8_neededPlots) 69 dX8_neededPlots_68 rfl ?_
    refine f_lmul (M := mX8_neededPlots) 70 dX8_neededPlots_69 rfl ?_
    refine f_lcmp (M := mX8_neededPlots) 71 dX8_neededPlots_70 rfl ?_
    refine e_if_gt (M := mX8_neededPlots) (t := 77) dX8_neededPlots_71 rfl (fun h1 => ?_) (fun h1 => ?_)
    · refine f_iinc (M := mX8_neededPlots) (ls' := [_, _, _, _, _, _, _, _, _]) 80 dX8_neededPlots_77 ki_1 rfl rfl rfl rfl ?_
      refine f_goto (M := mX8_neededPlots) 50 dX8_neededPlots_80 rfl ?_
      rw [n_inc (s := k), show y_sch (fun k => sp_okm a σ p Np k) (d + 1) k = _ from if_neg (fun z => l_nlt.mpr z (lc_gt.mp h1))]; exact ih (k + 1) (by omega)
    · refine f_iload (M := mX8_neededPlots) 76 dX8_neededPlots_74 rfl rfl ?_
      refine e_ri (M := mX8_neededPlots) dX8_neededPlots_76 rfl (x_kk rfl) (x_kk rfl) ?_
      exact r_i (by rw [show y_sch (fun k => sp_okm a σ p Np k) (d + 1) k = _ from if_pos (l_nlt.mp (fun z => h1 (lc_gt.mpr z)))])
theorem ko_neededPlots {N β : Nat} {a : Nat → Int32} {b : Nat → Int64} (H : y_CS N I L R β a b) {Ns Np Nl Nm : Nat} (Z : y_Z a Ns Np Nl Nm) {v : Int32} {p : Int32} (h0 : v = -1 ∨ (0 ≤ v ∧ v ≤ a 8 - 1)) (h1 : 1 ≤ p ∧ p ≤ 20) (h2 : 2 ≤ a 9) {zz : Nat} (hzz : zz < 1000 ∧ 1 ≤ zz) (hz : a 1 = Int32.ofNat zz) : x_Cv X mX8_neededPlots [.ref 0, .int v, .int p] (I, L, R) 233 (.inl (some (.int (Int32.ofNat (y_sch (fun k => sp_okm a v p Np k) (zz - 1) 1)))), (I, L, R), 233) := by
  have Z0 := Z
  obtain ⟨hNs, hn, hNp, hp, hNl, hl, hNm, hmm⟩ := Z
  have hR := h_R H
  have hβ := h_β H
  have hS := h_S H
  have hσ := sp_of hNs hn h0
  have n2 : 2 ≤ Np := by
    rw [hp, kn_2, n_le (by omega) (by omega)] at h2
    exact h2
  show x_Ev X mX8_neededPlots 0 [some (.ref 0), some (.int v), some (.int p), none, none, none, none, none, none] [] ((I, L, R), 233, 0, 0) _
  refine f_aload_n (M := mX8_neededPlots) 1 dX8_neededPlots_0 rfl rfl ?_
  refine f_iload_n (M := mX8_neededPlots) 2 dX8_neededPlots_1 rfl rfl ?_
  refine f_iload_n (M := mX8_neededPlots) 3 dX8_neededPlots_2 rfl rfl ?_
  refine e_cV (M := mX8_neededPlots) [] 3 18 dX8_neededPlots_3 pa_8124 pb_8124 cc_8124 rfl rfl rfl rfl rfl (x_kk rfl) (x_kk rfl) rfl (ko_requireAccuracyQuestion H Z0 h0 h1 h2) rfl ?_
  refine f_aload_n (M := mX8_neededPlots) 7 dX8_neededPlots_6 rfl rfl ?_
  refine e_getR (M := mX8_neededPlots) dX8_neededPlots_7 fl_8026 (x_kk rfl) (x_kk rfl) rfl hS ?_
  refine e_getR (M := mX8_neededPlots) dX8_neededPlots_10 fl_8083 (x_kk rfl) (sl_lt hβ 0 rfl) (sl_s hβ 0 rfl rfl) (wf_6_1 hR hβ) ?_
  refine e_getR (M := mX8_neededPlots) dX8_neededPlots_13 fl_8087 (x_kk rfl) (sl_lt hβ 1 rfl) (sl_s hβ 1 rfl rfl) (wf_7_1 hR hβ) ?_
  refine f_iconst (M := mX8_neededPlots) 17 dX8_neededPlots_16 ki_0 rfl ?_
  refine e_ild (M := mX8_neededPlots) (w := 7) (j := 0) dX8_neededPlots_17 (sl_lt hβ 2 rfl) (sl_shp hβ 2 rfl) kn_0 (by omega) (by omega) ?_
  refine f_istore_n (M := mX8_neededPlots) (ls' := [_, _, _, _, _, _, _, _, _]) 19 dX8_neededPlots_18 rfl rfl rfl ?_
  refine f_aload_n (M := mX8_neededPlots) 20 dX8_neededPlots_19 rfl rfl ?_
  refine e_getR (M := mX8_neededPlots) dX8_neededPlots_20 fl_8026 (x_kk rfl) (x_kk rfl) rfl hS ?_
  refine e_getR (M := mX8_neededPlots) dX8_neededPlots_23 fl_8070 (x_kk rfl) (sl_lt hβ 0 rfl) (sl_s hβ 0 rfl rfl) (wf_6_2 hR hβ) ?_
  refine f_iload_n (M := mX8_neededPlots) 27 dX8_neededPlots_26 rfl rfl ?_
  refine e_cV (M := mX8_neededPlots) [_] 3 18 dX8_neededPlots_27 pa_8128 pb_8128 cc_8128 rfl rfl rfl rfl rfl (x_kk rfl) (x_kk rfl) (x_rcvOK (sl_lt hβ 5 rfl) (sl_s hβ 5 rfl rfl) rfl) (k_weightedError H hNp hp hσ) rfl ?_
  refine f_lstore (M := mX8_neededPlots) (ls' := [_, _, _, _, _, _, _, _, _]) 32 dX8_neededPlots_30 rfl rfl rfl ?_
  refine f_aload_n (M := mX8_neededPlots) 33 dX8_neededPlots_32 rfl rfl ?_
  refine e_getR (M := mX8_neededPlots) dX8_neededPlots_33 fl_8026 (x_kk rfl) (x_kk rfl) rfl hS ?_
  refine e_getR (M := mX8_neededPlots) dX8_neededPlots_36 fl_8070 (x_kk rfl) (sl_lt hβ 0 rfl) (sl_s hβ 0 rfl rfl) (wf_6_2 hR hβ) ?_
  refine f_iload_n (M := mX8_neededPlots) 40 dX8_neededPlots_39 rfl rfl ?_
  refine f_iload_n (M := mX8_neededPlots) 41 dX8_neededPlots_40 rfl rfl ?_
  refine f_iload_n (M := mX8_neededPlots) 42 dX8_neededPlots_41 rfl rfl ?_
  refine e_cV (M := mX8_neededPlots) [_] 3 18 dX8_neededPlots_42 pa_8131 pb_8131 cc_8131 rfl rfl rfl rfl rfl (x_kk rfl) (x_kk rfl) (x_rcvOK (sl_lt hβ 5 rfl) (sl_s hβ 5 rfl rfl) rfl) (k_allowance H hNp hp hσ) rfl ?_
  refine f_lstore (M := mX8_neededPlots) (ls' := [_, _, _, _, _, _, _, _, _]) 47 dX8_neededPlots_45 rfl rfl rfl ?_
  refine f_iconst (M := mX8_neededPlots) 48 dX8_neededPlots_47 ki_1 rfl ?_
  refine f_istore (M := mX8_neededPlots) (ls' := [_, _, _, _, _, _, _, _, _]) 50 dX8_neededPlots_48 rfl rfl rfl ?_
  rw [(h_T H).2.1 0 (by decide), n91 hNp hp]; exact l_X8_neededPlots (a := a) (σ := v) (p := p) (Np := Np) hzz.1 hz (zz - 1) 1 (by omega)
theorem l_X9_neededPlots (hR : x_wf R) {σ p : Int32} {Np zz : Nat} (hzz : zz < 1000) (hC : sp_okm (I 226) σ p Np zz) {n3 : Int64} : ∀ d k, k + d = zz → x_Ev X mX9_neededPlots 75 [some (.ref 225), some (.int σ), some (.int p), some (.long n3), none, some (.long (sp_wide (I 226) σ Np)), none, some (.long (sp_narr (I 226) σ p Np)), none, some (.int (Int32.ofNat k))] [] ((I, L, R), 233, 0, 0) (.inl (some (.int (Int32.ofNat (y_sch (fun k => sp_okm (I 226) σ p Np k) d k)))), (I, L, R), 233) := by
  intro d
  induction d with
  | zero =>
    intro k hd
    obtain rfl : zz = k := by omega
    refine f_lload (M := mX9_neededPlots) 77 dX9_neededPlots_75 rfl rfl ?_
    refine f_aload_n (M := mX9_neededPlots) 78 dX9_neededPlots_77 rfl rfl ?_
    refine e_getR (M := mX9_neededPlots) dX9_neededPlots_78 fl_9007 (x_kk rfl) (x_kk rfl) rfl (wf_9_0 hR) ?_
    refine f_iconst (M := mX9_neededPlots) 82 dX9_neededPlots_81 ki_1 rfl ?_
    refine e_ild (M := mX9_neededPlots) (w := 606) (j := 1) dX9_neededPlots_82 (x_kk rfl) rfl kn_1 (by omega) (by omega) ?_
    refine f_iload (M := mX9_neededPlots) 85 dX9_neededPlots_83 rfl rfl ?_
    refine f_isub (M := mX9_neededPlots) 86 dX9_neededPlots_85 rfl ?_
    refine f_i2l (M := mX9_neededPlots) 87 dX9_neededPlots_86 rfl ?_
    refine f_lmul (M := mX9_neededPlots) 88 dX9_neededPlots_87 rfl ?_
    refine f_lload (M := mX9_neededPlots) 90 dX9_neededPlots_88 rfl rfl ?_
    refine f_iload (M := mX9_neededPlots) 92 dX9_neededPlots_90 rfl rfl ?_
    refine f_i2l (M := mX9_neededPlots) 93 dX9_neededPlots_92 rfl ?_
    refine f_lmul (M := mX9_neededPlots) 94 dX9_neededPlots_93 rfl ?_
    refine f_lcmp (M := mX9_neededPlots) 95 dX9_neededPlots_94 rfl ?_
    refine e_if_leT (M := mX9_neededPlots) 104 dX9_neededPlots_95 rfl (lc_le.mpr hC) ?_
    refine f_iload (M := mX9_neededPlots) 106 dX9_neededPlots_104 rfl rfl ?_
    refine e_ri (M := mX9_neededPlots) dX9_neededPlots_106 rfl (x_kk rfl) (x_kk rfl) ?_
    rfl
  | succ d ih =>
    intro k hd
    refine f_lload (M := mX9_neededPlots) 77 dX9_neededPlots_75 rfl rfl ?_
    refine f_aload_n (M := mX9_neededPlots) 78 dX9_neededPlots_77 rfl rfl ?_
    refine e_getR (M := mX9_neededPlots) dX9_neededPlots_78 fl_9007 (x_kk rfl) (x_kk rfl) rfl (wf_9_0 hR) ?_
    refine f_iconst (M := mX9_neededPlots) 82 dX9_neededPlots_81 ki_1 rfl ?_
    refine e_ild (M := mX9_neededPlots) (w := 606) (j := 1) dX9_neededPlots_82 (x_kk rfl) rfl kn_1 (by omega) (by omega) ?_
    refine f_iload (M := mX9_neededPlots) 85 dX9_neededPlots_83 rfl rfl ?_
    refine f_isub (M := mX9_neededPlots) 86 dX9_neededPlots_85 rfl ?_
    refine f_i2l (M := mX9_neededPlots) 87 dX9_neededPlots_86 rfl ?_
    refine f_lmul (M := mX9_neededPlots) 88 dX9_neededPlots_87 rfl ?_
    refine f_lload (M := mX9_neededPlots) 90 dX9_neededPlots_88 rfl rfl ?_
    refine f_iload (M := mX9_neededPlots) 92 dX9_neededPlots_90 rfl rfl ?_
    refine f_i2l (M := mX9_neededPlots) 93 dX9_neededPlots_92 rfl ?_
    refine f_lmul (M := mX9_neededPlots) 94 dX9_neededPlots_93 rfl ?_
    refine f_lcmp (M := mX9_neededPlots) 95 dX9_neededPlots_94 rfl ?_
    refine e_if_le (M := mX9_neededPlots) (t := 104) dX9_neededPlots_95 rfl (fun h1 => ?_) (fun h1 => ?_)
    · refine f_iload (M := mX9_neededPlots) 106 dX9_neededPlots_104 rfl rfl ?_
      refine e_ri (M := mX9_neededPlots) dX9_neededPlots_106 rfl (x_kk rfl) (x_kk rfl) ?_
      exact r_i (by rw [show y_sch (fun k => sp_okm (I 226) σ p Np k) (d + 1) k = _ from if_pos (lc_le.mp h1)])
    · refine f_iinc (M := mX9_neededPlots) (ls' := [_, _, _, _, _, _, _, _, _, _]) 101 dX9_neededPlots_98 ki_1 rfl rfl rfl rfl ?_
      refine f_goto (M := mX9_neededPlots) 75 dX9_neededPlots_101 rfl ?_
      rw [n_inc (s := k), show y_sch (fun k => sp_okm (I 226) σ p Np k) (d + 1) k = _ from if_neg (fun z => h1 (lc_le.mpr z))]; exact ih (k + 1) (by omega)
theorem mo_neededPlots (hR : x_wf R) {Ns Np Nl Nm : Nat} (Z : y_Z (I 226) Ns Np Nl Nm) {v : Int32} {p : Int32} (h0 : v = -1 ∨ (0 ≤ v ∧ v ≤ I 226 8 - 1)) (h1 : 1 ≤ p ∧ p ≤ 20) (h2 : 2 ≤ I 226 9) (hIT : y_IT (I 226)) (hIC : y_IC (I 226)) {zz : Nat} (hzz : zz < 1000 ∧ 1 ≤ zz) (hz : I 226 1 = Int32.ofNat zz) : x_Cv X mX9_neededPlots [.ref 225, .int v, .int p] (I, L, R) 233 (.inl (some (.int (Int32.ofNat (y_sch (fun k => sp_okm (I 226) v p Np k) (zz - 1) 1)))), (x_tw I 0, L, R), 233) := by
  obtain ⟨hNs, hn, hNp, hp, hNl, hl, hNm, hmm⟩ := Z
  have hσ := sp_of hNs hn h0
  have n2 : 2 ≤ Np := by
    rw [hp, kn_2, n_le (by omega) (by omega)] at h2
    exact h2
  show x_Ev X mX9_neededPlots 0 [some (.ref 225), some (.int v), some (.int p), none, none, none, none, none, none, none] [] ((I, L, R), 233, 0, 0) _
  refine f_aload_n (M := mX9_neededPlots) 1 dX9_neededPlots_0 rfl rfl ?_
  refine f_aload_n (M := mX9_neededPlots) 2 dX9_neededPlots_1 rfl rfl ?_
  refine f_iload_n (M := mX9_neededPlots) 3 dX9_neededPlots_2 rfl rfl ?_
  refine f_iload_n (M := mX9_neededPlots) 4 dX9_neededPlots_3 rfl rfl ?_
  refine e_cV (M := mX9_neededPlots) [_, _] 0 0 dX9_neededPlots_4 pa_9163 pb_9163 cc_9163 rfl rfl rfl rfl rfl (x_kk rfl) (x_kk rfl) rfl ((by have e := c_X9_refusal (X := X) (I := I) (L := L) (σ := v) (p := p) hR; rw [show sp_refu (I 226) v p = 0 from (if_neg (fun z => z h0)).trans ((if_neg (fun z => z h1)).trans (if_neg (fun z => z h2)))] at e; exact e)) rfl ?_
  refine e_putI (M := mX9_neededPlots) dX9_neededPlots_7 fl_9033 (x_kk rfl) (x_kk rfl) rfl (fun q9 => Bool.noConfusion q9) ?_
  refine f_aload_n (M := mX9_neededPlots) 11 dX9_neededPlots_10 rfl rfl ?_
  refine e_getI (M := mX9_neededPlots) dX9_neededPlots_11 fl_9033 (x_kk rfl) (x_kk rfl) rfl ?_
  refine e_if_leT (M := mX9_neededPlots) 19 dX9_neededPlots_14 rfl (show (0 : Int32) ≤ 0 by decide) ?_
  refine f_aload_n (M := mX9_neededPlots) 20 dX9_neededPlots_19 rfl rfl ?_
  refine e_getR (M := mX9_neededPlots) dX9_neededPlots_20 fl_9007 (x_kk rfl) (x_kk rfl) rfl (wf_9_0 hR) ?_
  refine f_bipush (M := mX9_neededPlots) 25 dX9_neededPlots_23 kb_9 rfl ?_
  refine e_ild (M := mX9_neededPlots) (w := 606) (j := 9) dX9_neededPlots_25 (x_kk rfl) rfl kn_9 (by omega) (by omega) ?_
  refine f_i2l (M := mX9_neededPlots) 27 dX9_neededPlots_26 rfl ?_
  refine f_lstore_n (M := mX9_neededPlots) (ls' := [_, _, _, _, _, _, _, _, _, _]) 28 dX9_neededPlots_27 rfl rfl rfl ?_
  refine f_ldc2 (M := mX9_neededPlots) 31 dX9_neededPlots_28 (x_kk rfl) csl_9166 rfl ?_
  refine f_aload_n (M := mX9_neededPlots) 32 dX9_neededPlots_31 rfl rfl ?_
  refine f_iload_n (M := mX9_neededPlots) 33 dX9_neededPlots_32 rfl rfl ?_
  refine e_cV (M := mX9_neededPlots) [_, _] 0 0 dX9_neededPlots_33 pa_9158 pb_9158 cc_9158 rfl rfl rfl rfl rfl (x_kk rfl) (x_kk rfl) rfl (c_X9_spreadOf (I := x_tw I 0) hR hNp hp hσ) rfl ?_
  refine f_lmul (M := mX9_neededPlots) 37 dX9_neededPlots_36 rfl ?_
  refine f_lload_n (M := mX9_neededPlots) 38 dX9_neededPlots_37 rfl rfl ?_
  refine f_lmul (M := mX9_neededPlots) 39 dX9_neededPlots_38 rfl ?_
  refine f_lstore (M := mX9_neededPlots) (ls' := [_, _, _, _, _, _, _, _, _, _]) 41 dX9_neededPlots_39 rfl rfl rfl ?_
  refine f_iload_n (M := mX9_neededPlots) 42 dX9_neededPlots_41 rfl rfl ?_
  refine f_i2l (M := mX9_neededPlots) 43 dX9_neededPlots_42 rfl ?_
  refine f_iload_n (M := mX9_neededPlots) 44 dX9_neededPlots_43 rfl rfl ?_
  refine f_i2l (M := mX9_neededPlots) 45 dX9_neededPlots_44 rfl ?_
  refine f_lmul (M := mX9_neededPlots) 46 dX9_neededPlots_45 rfl ?_
  refine f_aload_n (M := mX9_neededPlots) 47 dX9_neededPlots_46 rfl rfl ?_
  refine e_getR (M := mX9_neededPlots) dX9_neededPlots_47 fl_9007 (x_kk rfl) (x_kk rfl) rfl (wf_9_0 hR) ?_
  refine f_iconst (M := mX9_neededPlots) 51 dX9_neededPlots_50 ki_1 rfl ?_
  refine e_ild (M := mX9_neededPlots) (w := 606) (j := 1) dX9_neededPlots_51 (x_kk rfl) rfl kn_1 (by omega) (by omega) ?_
  refine f_i2l (M := mX9_neededPlots) 53 dX9_neededPlots_52 rfl ?_
  refine f_lmul (M := mX9_neededPlots) 54 dX9_neededPlots_53 rfl ?_
  refine f_aload_n (M := mX9_neededPlots) 55 dX9_neededPlots_54 rfl rfl ?_
  refine f_iload_n (M := mX9_neededPlots) 56 dX9_neededPlots_55 rfl rfl ?_
  refine e_cV (M := mX9_neededPlots) [_, _] 0 0 dX9_neededPlots_56 pa_9143 pb_9143 cc_9143 rfl rfl rfl rfl rfl (x_kk rfl) (x_kk rfl) rfl (c_X9_sumOf (I := x_tw I 0) hR hNp hp hσ) rfl ?_
  refine f_lmul (M := mX9_neededPlots) 60 dX9_neededPlots_59 rfl ?_
  refine f_aload_n (M := mX9_neededPlots) 61 dX9_neededPlots_60 rfl rfl ?_
  refine f_iload_n (M := mX9_neededPlots) 62 dX9_neededPlots_61 rfl rfl ?_
  refine e_cV (M := mX9_neededPlots) [_, _] 0 0 dX9_neededPlots_62 pa_9143 pb_9143 cc_9143 rfl rfl rfl rfl rfl (x_kk rfl) (x_kk rfl) rfl (c_X9_sumOf (I := x_tw I 0) hR hNp hp hσ) rfl ?_
  refine f_lmul (M := mX9_neededPlots) 66 dX9_neededPlots_65 rfl ?_
  refine f_lload_n (M := mX9_neededPlots) 67 dX9_neededPlots_66 rfl rfl ?_
  refine f_lconst (M := mX9_neededPlots) 68 dX9_neededPlots_67 kl_1 rfl ?_
  refine f_lsub (M := mX9_neededPlots) 69 dX9_neededPlots_68 rfl ?_
  refine f_lmul (M := mX9_neededPlots) 70 dX9_neededPlots_69 rfl ?_
  refine f_lstore (M := mX9_neededPlots) (ls' := [_, _, _, _, _, _, _, _, _, _]) 72 dX9_neededPlots_70 rfl rfl rfl ?_
  refine f_iconst (M := mX9_neededPlots) 73 dX9_neededPlots_72 ki_1 rfl ?_
  refine f_istore (M := mX9_neededPlots) (ls' := [_, _, _, _, _, _, _, _, _, _]) 75 dX9_neededPlots_73 rfl rfl rfl ?_
  exact l_X9_neededPlots (I := x_tw I 0) (σ := v) (p := p) (Np := Np) hR hzz.1 (okm_z hIT hIC hσ hNp hp n2 h1 hzz.1 hz) (zz - 1) 1 (by omega)
theorem sim_neededPlots (T : y_T N I L R) {v : Int32} {p : Int32} : y_OI N X mL_neededPlots [.ref 0, .int v, .int p, .ref 232] mX9_neededPlots [.ref 225, .int v, .int p] I L R := by
  have T0 := T
  obtain ⟨a, b, kn, ks, bf, bn, ep, ⟨β, δ, γ, ν, hB⟩, hM, hI⟩ := T
  have H : y_CS N I L R β a b := ⟨hM.1, hB.1.2.1, hB.1.2.2.2.2.1, hB.2.2.2.2.2.1, hI.1⟩
  obtain ⟨Ns, Np, Nl, Nm, Z⟩ := Z_of hI.1
  have hR := hM.1
  have ha : I 226 = a := hM.2.1
  have hb : L 229 = b := hM.2.2.1
  subst ha
  subst hb
  obtain ⟨hNs, hn, hNp, hp, hNl, hl, hNm, hmm⟩ := id Z
  by_cases h0 : v = -1 ∨ (0 ≤ v ∧ v ≤ I 226 8 - 1)
  · skip
    by_cases h1 : 1 ≤ p ∧ p ≤ 20
    · skip
      by_cases h2 : 2 ≤ I 226 9
      · skip
        have bz := (h_IT H).2.1
        have bz1 := bz.1
        have bz2 := bz.2
        have hz := t_nat (x := I 226 1) (by omega)
        exact OI_q T0 (w_neededPlots (ko_neededPlots H Z h0 h1 h2 (by omega) hz)) (mo_neededPlots hR Z h0 h1 h2 (h_IT H) (h_IC H) (by omega) hz)
      · exact OI_x T0 (by decide) (w_neededPlots_x0 (kf_neededPlots_2 H Z h0 h1 h2)) (mf_neededPlots_2 hR Z h0 h1 h2)
    · exact OI_x T0 (by decide) (w_neededPlots_x1 (kf_neededPlots_1 H Z h0 h1)) (mf_neededPlots_1 hR Z h0 h1)
  · exact OI_x T0 (by decide) (w_neededPlots_x2 (kf_neededPlots_0 H Z h0)) (mf_neededPlots_0 hR Z h0)
end

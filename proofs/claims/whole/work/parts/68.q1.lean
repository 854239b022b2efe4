/-! ===== queries of both (laid by wip/whole/src/q1.py) ===== -/
section
variable {X : x_X} {I : Nat → Nat → Int32} {L : Nat → Nat → Int64} {R : Nat → Nat → Option Nat} {N : Nat}
theorem ko_volume {N β : Nat} {a : Nat → Int32} {b : Nat → Int64} (H : y_CS N I L R β a b) {Ns Np Nl Nm : Nat} (Z : y_Z a Ns Np Nl Nm) {s : Nat} (hs : s < Ns) (h1 : ¬ a 0 = 0)  : x_Cv X mX8_volume [.ref 0, .int (Int32.ofNat s)] (I, L, R) 233 (.inl (some (.int (sp_vol a s))), (I, L, R), 233) := by
  obtain ⟨hNs, hn, hNp, hp, hNl, hl, hNm, hmm⟩ := Z
  have hR := h_R H
  have hβ := h_β H
  have hS := h_S H
  show x_Ev X mX8_volume 0 [some (.ref 0), some (.int (Int32.ofNat s))] [] ((I, L, R), 233, 0, 0) _
  refine f_aload_n (M := mX8_volume) 1 dX8_volume_0 rfl rfl ?_
  refine f_iload_n (M := mX8_volume) 2 dX8_volume_1 rfl rfl ?_
  refine e_cV (M := mX8_volume) [_] 0 0 dX8_volume_2 pa_8161 pb_8161 cc_8161 rfl rfl rfl rfl rfl (x_kk rfl) (x_kk rfl) rfl (k_isSpecies H) rfl ?_
  refine e_cS (M := mX8_volume) [] 1 6 dX8_volume_5 pa_8103 cc_8103 rfl rfl rfl rfl rfl (x_kk rfl) (x_kk rfl) rfl (c_X8_requireExisting (x_bn (in_ok hn (by omega) hs))) rfl ?_
  refine f_aload_n (M := mX8_volume) 9 dX8_volume_8 rfl rfl ?_
  refine e_getR (M := mX8_volume) dX8_volume_9 fl_8026 (x_kk rfl) (x_kk rfl) rfl hS ?_
  refine e_getI (M := mX8_volume) dX8_volume_12 fl_8067 (x_kk rfl) (sl_lt hβ 0 rfl) (sl_s hβ 0 rfl rfl) ?_
  refine e_if_eqF (M := mX8_volume) 22 dX8_volume_15 rfl (by rw [h_ph H]; exact h1) ?_
  refine f_iconst (M := mX8_volume) 19 dX8_volume_18 ki_1 rfl ?_
  refine f_goto (M := mX8_volume) 23 dX8_volume_19 rfl ?_
  refine e_cS (M := mX8_volume) [] 2 12 dX8_volume_23 pa_8037 cc_8037 rfl rfl rfl rfl rfl (x_kk rfl) (x_kk rfl) rfl (c_X8_requireState (by decide)) rfl ?_
  refine f_aload_n (M := mX8_volume) 27 dX8_volume_26 rfl rfl ?_
  refine e_getR (M := mX8_volume) dX8_volume_27 fl_8026 (x_kk rfl) (x_kk rfl) rfl hS ?_
  refine e_getR (M := mX8_volume) dX8_volume_30 fl_8148 (x_kk rfl) (sl_lt hβ 0 rfl) (sl_s hβ 0 rfl rfl) (wf_6_3 hR hβ) ?_
  refine e_getR (M := mX8_volume) dX8_volume_33 fl_8152 (x_kk rfl) (sl_lt hβ 7 rfl) (sl_s hβ 7 rfl rfl) (wf_0_0 hR hβ) ?_
  refine f_iload_n (M := mX8_volume) 37 dX8_volume_36 rfl rfl ?_
  refine e_ild (M := mX8_volume) (w := 6) (j := s) dX8_volume_37 (sl_lt hβ 8 rfl) (sl_shp hβ 8 rfl) rfl (by omega) (by omega) ?_
  refine e_ri (M := mX8_volume) dX8_volume_38 rfl (x_kk rfl) (x_kk rfl) ?_
  exact r_i ((h_B H).1 s (by omega))
theorem mo_volume (hR : x_wf R) {Ns Np Nl Nm : Nat} (Z : y_Z (I 226) Ns Np Nl Nm) {s : Nat} (hs : s < Ns) (h1 : ¬ I 226 0 = 0)  : x_Cv X mX9_volume [.ref 225, .int (Int32.ofNat s)] (I, L, R) 233 (.inl (some (.int (sp_vol (I 226) s))), (x_tw I 0, L, R), 233) := by
  obtain ⟨hNs, hn, hNp, hp, hNl, hl, hNm, hmm⟩ := Z
  show x_Ev X mX9_volume 0 [some (.ref 225), some (.int (Int32.ofNat s))] [] ((I, L, R), 233, 0, 0) _
  refine f_aload_n (M := mX9_volume) 1 dX9_volume_0 rfl rfl ?_
  refine f_aload_n (M := mX9_volume) 2 dX9_volume_1 rfl rfl ?_
  refine f_iload_n (M := mX9_volume) 3 dX9_volume_2 rfl rfl ?_
  refine e_cV (M := mX9_volume) [_, _] 0 0 dX9_volume_3 pa_9137 pb_9137 cc_9137 rfl rfl rfl rfl rfl (x_kk rfl) (x_kk rfl) rfl (c_X9_isSpecies hR) rfl ?_
  refine e_if_neT (M := mX9_volume) 13 dX9_volume_6 rfl (x_bn (in_ok hn (by omega) hs)) ?_
  refine f_aload_n (M := mX9_volume) 14 dX9_volume_13 rfl rfl ?_
  refine e_getR (M := mX9_volume) dX9_volume_14 fl_9007 (x_kk rfl) (x_kk rfl) rfl (wf_9_0 hR) ?_
  refine f_iconst (M := mX9_volume) 18 dX9_volume_17 ki_0 rfl ?_
  refine e_ild (M := mX9_volume) (w := 606) (j := 0) dX9_volume_18 (x_kk rfl) rfl kn_0 (by omega) (by omega) ?_
  refine e_if_neT (M := mX9_volume) 26 dX9_volume_19 rfl h1 ?_
  refine f_iconst (M := mX9_volume) 27 dX9_volume_26 ki_0 rfl ?_
  refine e_putI (M := mX9_volume) dX9_volume_27 fl_9033 (x_kk rfl) (x_kk rfl) rfl (fun q9 => Bool.noConfusion q9) ?_
  refine f_aload_n (M := mX9_volume) 31 dX9_volume_30 rfl rfl ?_
  refine e_getI (M := mX9_volume) dX9_volume_31 fl_9033 (x_kk rfl) (x_kk rfl) rfl ?_
  refine e_if_leT (M := mX9_volume) 41 dX9_volume_34 rfl (show (0 : Int32) ≤ 0 by decide) ?_
  refine f_aload_n (M := mX9_volume) 42 dX9_volume_41 rfl rfl ?_
  refine f_iload_n (M := mX9_volume) 43 dX9_volume_42 rfl rfl ?_
  refine e_cV (M := mX9_volume) [_] 0 0 dX9_volume_43 pa_9177 pb_9177 cc_9177 rfl rfl rfl rfl rfl (x_kk rfl) (x_kk rfl) rfl (c_X9_volumeAt hR (by omega)) rfl ?_
  refine e_ri (M := mX9_volume) dX9_volume_46 rfl (x_kk rfl) (x_kk rfl) ?_
  rfl
theorem ko_rate {N β : Nat} {a : Nat → Int32} {b : Nat → Int64} (H : y_CS N I L R β a b) {Ns Np Nl Nm : Nat} (Z : y_Z a Ns Np Nl Nm) {s : Nat} (hs : s < Ns) {Q : Nat} (hQ : Q < 12) (h2 : 3 ≤ a 0)  : x_Cv X mX8_rate [.ref 0, .int (Int32.ofNat s), .int (Int32.ofNat Q)] (I, L, R) 233 (.inl (some (.int (sp_rateOf a s Q))), (I, L, R), 233) := by
  obtain ⟨hNs, hn, hNp, hp, hNl, hl, hNm, hmm⟩ := Z
  have hR := h_R H
  have hβ := h_β H
  have hS := h_S H
  show x_Ev X mX8_rate 0 [some (.ref 0), some (.int (Int32.ofNat s)), some (.int (Int32.ofNat Q))] [] ((I, L, R), 233, 0, 0) _
  refine f_aload_n (M := mX8_rate) 1 dX8_rate_0 rfl rfl ?_
  refine f_iload_n (M := mX8_rate) 2 dX8_rate_1 rfl rfl ?_
  refine e_cV (M := mX8_rate) [_] 0 0 dX8_rate_2 pa_8161 pb_8161 cc_8161 rfl rfl rfl rfl rfl (x_kk rfl) (x_kk rfl) rfl (k_isSpecies H) rfl ?_
  refine e_if_eqF (M := mX8_rate) 19 dX8_rate_5 rfl (x_bn (in_ok hn (by omega) hs)) ?_
  refine f_iload_n (M := mX8_rate) 9 dX8_rate_8 rfl rfl ?_
  refine e_cS (M := mX8_rate) [_] 0 0 dX8_rate_9 pa_8224 cc_8224 rfl rfl rfl rfl rfl (x_kk rfl) (x_kk rfl) rfl (c_X8_isQuarter) rfl ?_
  refine e_if_eqF (M := mX8_rate) 19 dX8_rate_12 rfl (x_bn (ib_ok kn_11 (by omega) (by omega))) ?_
  refine f_iconst (M := mX8_rate) 16 dX8_rate_15 ki_1 rfl ?_
  refine f_goto (M := mX8_rate) 20 dX8_rate_16 rfl ?_
  refine e_cS (M := mX8_rate) [] 1 6 dX8_rate_20 pa_8103 cc_8103 rfl rfl rfl rfl rfl (x_kk rfl) (x_kk rfl) rfl (c_X8_requireExisting (by decide)) rfl ?_
  refine f_aload_n (M := mX8_rate) 24 dX8_rate_23 rfl rfl ?_
  refine e_getR (M := mX8_rate) dX8_rate_24 fl_8026 (x_kk rfl) (x_kk rfl) rfl hS ?_
  refine e_cV (M := mX8_rate) [_] 1 6 dX8_rate_27 pa_8236 pb_8236 cc_8236 rfl rfl rfl rfl rfl (x_kk rfl) (x_kk rfl) (x_rcvOK (sl_lt hβ 0 rfl) (sl_s hβ 0 rfl rfl) rfl) (k_hasContract H) rfl ?_
  refine e_cS (M := mX8_rate) [] 2 12 dX8_rate_30 pa_8037 cc_8037 rfl rfl rfl rfl rfl (x_kk rfl) (x_kk rfl) rfl (c_X8_requireState (x_bn h2)) rfl ?_
  refine f_aload_n (M := mX8_rate) 34 dX8_rate_33 rfl rfl ?_
  refine e_getR (M := mX8_rate) dX8_rate_34 fl_8026 (x_kk rfl) (x_kk rfl) rfl hS ?_
  refine e_getR (M := mX8_rate) dX8_rate_37 fl_8227 (x_kk rfl) (sl_lt hβ 0 rfl) (sl_s hβ 0 rfl rfl) (wf_6_4 hR hβ) ?_
  refine f_iload_n (M := mX8_rate) 41 dX8_rate_40 rfl rfl ?_
  refine f_iload_n (M := mX8_rate) 42 dX8_rate_41 rfl rfl ?_
  refine f_aload_n (M := mX8_rate) 43 dX8_rate_42 rfl rfl ?_
  refine e_getR (M := mX8_rate) dX8_rate_43 fl_8026 (x_kk rfl) (x_kk rfl) rfl hS ?_
  refine e_getR (M := mX8_rate) dX8_rate_46 fl_8083 (x_kk rfl) (sl_lt hβ 0 rfl) (sl_s hβ 0 rfl rfl) (wf_6_1 hR hβ) ?_
  refine e_cV (M := mX8_rate) [_] 2 12 dX8_rate_49 pa_8239 pb_8239 cc_8239 rfl rfl rfl rfl rfl (x_kk rfl) (x_kk rfl) (x_rcvOK (sl_lt hβ 12 rfl) (sl_s hβ 12 rfl rfl) rfl) (k_adjustedRate H (by omega) hQ) rfl ?_
  refine e_ri (M := mX8_rate) dX8_rate_52 rfl (x_kk rfl) (x_kk rfl) ?_
  rfl
theorem mo_rate (hR : x_wf R) {Ns Np Nl Nm : Nat} (Z : y_Z (I 226) Ns Np Nl Nm) {s : Nat} (hs : s < Ns) {Q : Nat} (hQ : Q < 12) (h2 : 3 ≤ I 226 0)  : x_Cv X mX9_rate [.ref 225, .int (Int32.ofNat s), .int (Int32.ofNat Q)] (I, L, R) 233 (.inl (some (.int (sp_rateOf (I 226) s Q))), (x_tw I 0, L, R), 233) := by
  obtain ⟨hNs, hn, hNp, hp, hNl, hl, hNm, hmm⟩ := Z
  show x_Ev X mX9_rate 0 [some (.ref 225), some (.int (Int32.ofNat s)), some (.int (Int32.ofNat Q))] [] ((I, L, R), 233, 0, 0) _
  refine f_aload_n (M := mX9_rate) 1 dX9_rate_0 rfl rfl ?_
  refine f_aload_n (M := mX9_rate) 2 dX9_rate_1 rfl rfl ?_
  refine f_iload_n (M := mX9_rate) 3 dX9_rate_2 rfl rfl ?_
  refine e_cV (M := mX9_rate) [_, _] 0 0 dX9_rate_3 pa_9137 pb_9137 cc_9137 rfl rfl rfl rfl rfl (x_kk rfl) (x_kk rfl) rfl (c_X9_isSpecies hR) rfl ?_
  refine e_if_eqF (M := mX9_rate) 21 dX9_rate_6 rfl (x_bn (in_ok hn (by omega) hs)) ?_
  refine f_iload_n (M := mX9_rate) 10 dX9_rate_9 rfl rfl ?_
  refine f_i2l (M := mX9_rate) 11 dX9_rate_10 rfl ?_
  refine f_lconst (M := mX9_rate) 12 dX9_rate_11 kl_0 rfl ?_
  refine f_ldc2 (M := mX9_rate) 15 dX9_rate_12 (x_kk rfl) csl_9239 rfl ?_
  refine e_cS (M := mX9_rate) [_, _] 0 0 dX9_rate_15 pa_9074 cc_9074 rfl rfl rfl rfl rfl (x_kk rfl) (x_kk rfl) rfl (c_X9_isInI (lo := 0) (hi := 11)) rfl ?_
  refine e_if_neT (M := mX9_rate) 25 dX9_rate_18 rfl (x_bn (ib_ok kn_11 (by omega) (by omega))) ?_
  refine f_aload_n (M := mX9_rate) 26 dX9_rate_25 rfl rfl ?_
  refine e_getR (M := mX9_rate) dX9_rate_26 fl_9007 (x_kk rfl) (x_kk rfl) rfl (wf_9_0 hR) ?_
  refine f_iconst (M := mX9_rate) 30 dX9_rate_29 ki_0 rfl ?_
  refine e_ild (M := mX9_rate) (w := 606) (j := 0) dX9_rate_30 (x_kk rfl) rfl kn_0 (by omega) (by omega) ?_
  refine f_iconst (M := mX9_rate) 32 dX9_rate_31 ki_3 rfl ?_
  refine e_icmp_geT (M := mX9_rate) 39 dX9_rate_32 rfl h2 ?_
  refine f_iconst (M := mX9_rate) 40 dX9_rate_39 ki_0 rfl ?_
  refine e_putI (M := mX9_rate) dX9_rate_40 fl_9033 (x_kk rfl) (x_kk rfl) rfl (fun q9 => Bool.noConfusion q9) ?_
  refine f_aload_n (M := mX9_rate) 44 dX9_rate_43 rfl rfl ?_
  refine e_getI (M := mX9_rate) dX9_rate_44 fl_9033 (x_kk rfl) (x_kk rfl) rfl ?_
  refine e_if_leT (M := mX9_rate) 54 dX9_rate_47 rfl (show (0 : Int32) ≤ 0 by decide) ?_
  refine f_aload_n (M := mX9_rate) 55 dX9_rate_54 rfl rfl ?_
  refine f_iload_n (M := mX9_rate) 56 dX9_rate_55 rfl rfl ?_
  refine f_iload_n (M := mX9_rate) 57 dX9_rate_56 rfl rfl ?_
  refine e_cV (M := mX9_rate) [_] 0 0 dX9_rate_57 pa_9246 pb_9246 cc_9246 rfl rfl rfl rfl rfl (x_kk rfl) (x_kk rfl) rfl (c_X9_rateOf hR (by omega) hQ) rfl ?_
  refine e_ri (M := mX9_rate) dX9_rate_60 rfl (x_kk rfl) (x_kk rfl) ?_
  rfl
theorem ko_remaining {N β : Nat} {a : Nat → Int32} {b : Nat → Int64} (H : y_CS N I L R β a b) {Ns Np Nl Nm : Nat} (Z : y_Z a Ns Np Nl Nm) {s : Nat} (hs : s < Ns) (h1 : 3 ≤ a 0)  : x_Cv X mX8_remaining [.ref 0, .int (Int32.ofNat s)] (I, L, R) 233 (.inl (some (.int (sp_rem a s Nl))), (I, L, R), 233) := by
  obtain ⟨hNs, hn, hNp, hp, hNl, hl, hNm, hmm⟩ := Z
  have hR := h_R H
  have hβ := h_β H
  have hS := h_S H
  show x_Ev X mX8_remaining 0 [some (.ref 0), some (.int (Int32.ofNat s))] [] ((I, L, R), 233, 0, 0) _
  refine f_aload_n (M := mX8_remaining) 1 dX8_remaining_0 rfl rfl ?_
  refine f_iload_n (M := mX8_remaining) 2 dX8_remaining_1 rfl rfl ?_
  refine e_cV (M := mX8_remaining) [_] 0 0 dX8_remaining_2 pa_8161 pb_8161 cc_8161 rfl rfl rfl rfl rfl (x_kk rfl) (x_kk rfl) rfl (k_isSpecies H) rfl ?_
  refine e_cS (M := mX8_remaining) [] 1 6 dX8_remaining_5 pa_8103 cc_8103 rfl rfl rfl rfl rfl (x_kk rfl) (x_kk rfl) rfl (c_X8_requireExisting (x_bn (in_ok hn (by omega) hs))) rfl ?_
  refine f_aload_n (M := mX8_remaining) 9 dX8_remaining_8 rfl rfl ?_
  refine e_getR (M := mX8_remaining) dX8_remaining_9 fl_8026 (x_kk rfl) (x_kk rfl) rfl hS ?_
  refine e_cV (M := mX8_remaining) [_] 1 6 dX8_remaining_12 pa_8236 pb_8236 cc_8236 rfl rfl rfl rfl rfl (x_kk rfl) (x_kk rfl) (x_rcvOK (sl_lt hβ 0 rfl) (sl_s hβ 0 rfl rfl) rfl) (k_hasContract H) rfl ?_
  refine e_cS (M := mX8_remaining) [] 2 12 dX8_remaining_15 pa_8037 cc_8037 rfl rfl rfl rfl rfl (x_kk rfl) (x_kk rfl) rfl (c_X8_requireState (x_bn h1)) rfl ?_
  refine f_aload_n (M := mX8_remaining) 19 dX8_remaining_18 rfl rfl ?_
  refine e_getR (M := mX8_remaining) dX8_remaining_19 fl_8026 (x_kk rfl) (x_kk rfl) rfl hS ?_
  refine f_iload_n (M := mX8_remaining) 23 dX8_remaining_22 rfl rfl ?_
  refine e_cV (M := mX8_remaining) [_] 2 12 dX8_remaining_23 pa_8316 pb_8316 cc_8316 rfl rfl rfl rfl rfl (x_kk rfl) (x_kk rfl) (x_rcvOK (sl_lt hβ 0 rfl) (sl_s hβ 0 rfl rfl) rfl) (k_remainingOf H hNl hl h1 (by omega)) rfl ?_
  refine e_ri (M := mX8_remaining) dX8_remaining_26 rfl (x_kk rfl) (x_kk rfl) ?_
  rfl
theorem mo_remaining (hR : x_wf R) {Ns Np Nl Nm : Nat} (Z : y_Z (I 226) Ns Np Nl Nm) {s : Nat} (hs : s < Ns) (h1 : 3 ≤ I 226 0)  : x_Cv X mX9_remaining [.ref 225, .int (Int32.ofNat s)] (I, L, R) 233 (.inl (some (.int (sp_rem (I 226) s Nl))), (x_tw I 0, L, R), 233) := by
  obtain ⟨hNs, hn, hNp, hp, hNl, hl, hNm, hmm⟩ := Z
  show x_Ev X mX9_remaining 0 [some (.ref 225), some (.int (Int32.ofNat s))] [] ((I, L, R), 233, 0, 0) _
  refine f_aload_n (M := mX9_remaining) 1 dX9_remaining_0 rfl rfl ?_
  refine f_aload_n (M := mX9_remaining) 2 dX9_remaining_1 rfl rfl ?_
  refine f_iload_n (M := mX9_remaining) 3 dX9_remaining_2 rfl rfl ?_
  refine e_cV (M := mX9_remaining) [_, _] 0 0 dX9_remaining_3 pa_9137 pb_9137 cc_9137 rfl rfl rfl rfl rfl (x_kk rfl) (x_kk rfl) rfl (c_X9_isSpecies hR) rfl ?_
  refine e_if_neT (M := mX9_remaining) 13 dX9_remaining_6 rfl (x_bn (in_ok hn (by omega) hs)) ?_
  refine f_aload_n (M := mX9_remaining) 14 dX9_remaining_13 rfl rfl ?_
  refine e_getR (M := mX9_remaining) dX9_remaining_14 fl_9007 (x_kk rfl) (x_kk rfl) rfl (wf_9_0 hR) ?_
  refine f_iconst (M := mX9_remaining) 18 dX9_remaining_17 ki_0 rfl ?_
  refine e_ild (M := mX9_remaining) (w := 606) (j := 0) dX9_remaining_18 (x_kk rfl) rfl kn_0 (by omega) (by omega) ?_
  refine f_iconst (M := mX9_remaining) 20 dX9_remaining_19 ki_3 rfl ?_
  refine e_icmp_geT (M := mX9_remaining) 27 dX9_remaining_20 rfl h1 ?_
  refine f_iconst (M := mX9_remaining) 28 dX9_remaining_27 ki_0 rfl ?_
  refine e_putI (M := mX9_remaining) dX9_remaining_28 fl_9033 (x_kk rfl) (x_kk rfl) rfl (fun q9 => Bool.noConfusion q9) ?_
  refine f_aload_n (M := mX9_remaining) 32 dX9_remaining_31 rfl rfl ?_
  refine e_getI (M := mX9_remaining) dX9_remaining_32 fl_9033 (x_kk rfl) (x_kk rfl) rfl ?_
  refine e_if_leT (M := mX9_remaining) 42 dX9_remaining_35 rfl (show (0 : Int32) ≤ 0 by decide) ?_
  refine f_aload_n (M := mX9_remaining) 43 dX9_remaining_42 rfl rfl ?_
  refine f_iload_n (M := mX9_remaining) 44 dX9_remaining_43 rfl rfl ?_
  refine e_cV (M := mX9_remaining) [_] 0 0 dX9_remaining_44 pa_9174 pb_9174 cc_9174 rfl rfl rfl rfl rfl (x_kk rfl) (x_kk rfl) rfl (c_X9_remains (I := x_tw I 0) hR hNl hl (by omega)) rfl ?_
  refine e_ri (M := mX9_remaining) dX9_remaining_47 rfl (x_kk rfl) (x_kk rfl) ?_
  rfl
theorem ko_scaled {N β : Nat} {a : Nat → Int32} {b : Nat → Int64} (H : y_CS N I L R β a b) {Ns Np Nl Nm : Nat} (Z : y_Z a Ns Np Nl Nm) {v : Int32} {f : Int32} {t : Int32} (h0 : v = -1 ∨ (0 ≤ v ∧ v ≤ a 8 - 1)) (h1 : 0 ≤ f ∧ f ≤ 36) (h2 : f ≤ t ∧ t ≤ 36) (h3 : 3 ≤ a 0)  : x_Cv X mX8_scaled [.ref 0, .int v, .int f, .int t] (I, L, R) 233 (.inl (some (.int (sp_nets a v f t Nl))), (I, L, R), 233) := by
  obtain ⟨hNs, hn, hNp, hp, hNl, hl, hNm, hmm⟩ := Z
  have hR := h_R H
  have hβ := h_β H
  have hS := h_S H
  show x_Ev X mX8_scaled 0 [some (.ref 0), some (.int v), some (.int f), some (.int t)] [] ((I, L, R), 233, 0, 0) _
  refine f_aload_n (M := mX8_scaled) 1 dX8_scaled_0 rfl rfl ?_
  refine f_iload_n (M := mX8_scaled) 2 dX8_scaled_1 rfl rfl ?_
  refine e_cV (M := mX8_scaled) [_] 0 0 dX8_scaled_2 pa_8109 pb_8109 cc_8109 rfl rfl rfl rfl rfl (x_kk rfl) (x_kk rfl) rfl (k_isAny H) rfl ?_
  refine e_cS (M := mX8_scaled) [] 1 6 dX8_scaled_5 pa_8103 cc_8103 rfl rfl rfl rfl rfl (x_kk rfl) (x_kk rfl) rfl (c_X8_requireExisting (x_bn h0)) rfl ?_
  refine f_iload_n (M := mX8_scaled) 9 dX8_scaled_8 rfl rfl ?_
  refine f_iconst (M := mX8_scaled) 10 dX8_scaled_9 ki_0 rfl ?_
  refine f_bipush (M := mX8_scaled) 12 dX8_scaled_10 kb_36 rfl ?_
  refine e_cS (M := mX8_scaled) [_] 1 6 dX8_scaled_12 pa_8049 cc_8049 rfl rfl rfl rfl rfl (x_kk rfl) (x_kk rfl) rfl (c_X8_isIn (lo := 0) (hi := 36)) rfl ?_
  refine e_if_eqF (M := mX8_scaled) 32 dX8_scaled_15 rfl (x_bn h1) ?_
  refine f_iload_n (M := mX8_scaled) 19 dX8_scaled_18 rfl rfl ?_
  refine f_iload_n (M := mX8_scaled) 20 dX8_scaled_19 rfl rfl ?_
  refine f_bipush (M := mX8_scaled) 22 dX8_scaled_20 kb_36 rfl ?_
  refine e_cS (M := mX8_scaled) [_] 1 6 dX8_scaled_22 pa_8049 cc_8049 rfl rfl rfl rfl rfl (x_kk rfl) (x_kk rfl) rfl (c_X8_isIn (hi := 36)) rfl ?_
  refine e_if_eqF (M := mX8_scaled) 32 dX8_scaled_25 rfl (x_bn h2) ?_
  refine f_iconst (M := mX8_scaled) 29 dX8_scaled_28 ki_1 rfl ?_
  refine f_goto (M := mX8_scaled) 33 dX8_scaled_29 rfl ?_
  refine e_cS (M := mX8_scaled) [] 2 12 dX8_scaled_33 pa_8053 cc_8053 rfl rfl rfl rfl rfl (x_kk rfl) (x_kk rfl) rfl (c_X8_requireArgument (by decide)) rfl ?_
  refine f_aload_n (M := mX8_scaled) 37 dX8_scaled_36 rfl rfl ?_
  refine e_getR (M := mX8_scaled) dX8_scaled_37 fl_8026 (x_kk rfl) (x_kk rfl) rfl hS ?_
  refine e_cV (M := mX8_scaled) [_] 2 12 dX8_scaled_40 pa_8236 pb_8236 cc_8236 rfl rfl rfl rfl rfl (x_kk rfl) (x_kk rfl) (x_rcvOK (sl_lt hβ 0 rfl) (sl_s hβ 0 rfl rfl) rfl) (k_hasContract H) rfl ?_
  refine e_cS (M := mX8_scaled) [] 3 18 dX8_scaled_43 pa_8037 cc_8037 rfl rfl rfl rfl rfl (x_kk rfl) (x_kk rfl) rfl (c_X8_requireState (x_bn h3)) rfl ?_
  refine f_aload_n (M := mX8_scaled) 47 dX8_scaled_46 rfl rfl ?_
  refine e_getR (M := mX8_scaled) dX8_scaled_47 fl_8026 (x_kk rfl) (x_kk rfl) rfl hS ?_
  refine e_getR (M := mX8_scaled) dX8_scaled_50 fl_8245 (x_kk rfl) (sl_lt hβ 0 rfl) (sl_s hβ 0 rfl rfl) (wf_6_5 hR hβ) ?_
  refine f_iload_n (M := mX8_scaled) 54 dX8_scaled_53 rfl rfl ?_
  refine f_iload_n (M := mX8_scaled) 55 dX8_scaled_54 rfl rfl ?_
  refine f_iload_n (M := mX8_scaled) 56 dX8_scaled_55 rfl rfl ?_
  refine e_cV (M := mX8_scaled) [_] 3 18 dX8_scaled_56 pa_8282 pb_8282 cc_8282 rfl rfl rfl rfl rfl (x_kk rfl) (x_kk rfl) (x_rcvOK (sl_lt hβ 17 rfl) (sl_s hβ 17 rfl rfl) rfl) (k_netSum H hNl hl (by have z1 := t_le.mp h1.1; have z2 := t_le.mp h2.1; rw [show (0 : Int32).toInt = 0 from by decide] at z1; omega)) rfl ?_
  refine e_ri (M := mX8_scaled) dX8_scaled_59 rfl (x_kk rfl) (x_kk rfl) ?_
  rfl
theorem mo_scaled (hR : x_wf R) {Ns Np Nl Nm : Nat} (Z : y_Z (I 226) Ns Np Nl Nm) {v : Int32} {f : Int32} {t : Int32} (h0 : v = -1 ∨ (0 ≤ v ∧ v ≤ I 226 8 - 1)) (h1 : 0 ≤ f ∧ f ≤ 36) (h2 : f ≤ t ∧ t ≤ 36) (h3 : 3 ≤ I 226 0)  : x_Cv X mX9_scaled [.ref 225, .int v, .int f, .int t] (I, L, R) 233 (.inl (some (.int (sp_nets (I 226) v f t Nl))), (x_tw I 0, L, R), 233) := by
  obtain ⟨hNs, hn, hNp, hp, hNl, hl, hNm, hmm⟩ := Z
  show x_Ev X mX9_scaled 0 [some (.ref 225), some (.int v), some (.int f), some (.int t)] [] ((I, L, R), 233, 0, 0) _
  refine f_aload_n (M := mX9_scaled) 1 dX9_scaled_0 rfl rfl ?_
  refine f_aload_n (M := mX9_scaled) 2 dX9_scaled_1 rfl rfl ?_
  refine f_iload_n (M := mX9_scaled) 3 dX9_scaled_2 rfl rfl ?_
  refine e_cV (M := mX9_scaled) [_, _] 0 0 dX9_scaled_3 pa_9151 pb_9151 cc_9151 rfl rfl rfl rfl rfl (x_kk rfl) (x_kk rfl) rfl (c_X9_isAny hR) rfl ?_
  refine e_if_neT (M := mX9_scaled) 13 dX9_scaled_6 rfl (x_bn h0) ?_
  refine f_iload_n (M := mX9_scaled) 14 dX9_scaled_13 rfl rfl ?_
  refine f_i2l (M := mX9_scaled) 15 dX9_scaled_14 rfl ?_
  refine f_lconst (M := mX9_scaled) 16 dX9_scaled_15 kl_0 rfl ?_
  refine f_ldc2 (M := mX9_scaled) 19 dX9_scaled_16 (x_kk rfl) csl_9264 rfl ?_
  refine e_cS (M := mX9_scaled) [_, _] 0 0 dX9_scaled_19 pa_9074 cc_9074 rfl rfl rfl rfl rfl (x_kk rfl) (x_kk rfl) rfl (c_X9_isInI (lo := 0) (hi := 36)) rfl ?_
  refine e_if_eqF (M := mX9_scaled) 38 dX9_scaled_22 rfl (x_bn h1) ?_
  refine f_iload_n (M := mX9_scaled) 26 dX9_scaled_25 rfl rfl ?_
  refine f_i2l (M := mX9_scaled) 27 dX9_scaled_26 rfl ?_
  refine f_iload_n (M := mX9_scaled) 28 dX9_scaled_27 rfl rfl ?_
  refine f_i2l (M := mX9_scaled) 29 dX9_scaled_28 rfl ?_
  refine f_ldc2 (M := mX9_scaled) 32 dX9_scaled_29 (x_kk rfl) csl_9264 rfl ?_
  refine e_cS (M := mX9_scaled) [_, _] 0 0 dX9_scaled_32 pa_9074 cc_9074 rfl rfl rfl rfl rfl (x_kk rfl) (x_kk rfl) rfl (c_X9_isInI (hi := 36)) rfl ?_
  refine e_if_neT (M := mX9_scaled) 42 dX9_scaled_35 rfl (x_bn h2) ?_
  refine f_aload_n (M := mX9_scaled) 43 dX9_scaled_42 rfl rfl ?_
  refine e_getR (M := mX9_scaled) dX9_scaled_43 fl_9007 (x_kk rfl) (x_kk rfl) rfl (wf_9_0 hR) ?_
  refine f_iconst (M := mX9_scaled) 47 dX9_scaled_46 ki_0 rfl ?_
  refine e_ild (M := mX9_scaled) (w := 606) (j := 0) dX9_scaled_47 (x_kk rfl) rfl kn_0 (by omega) (by omega) ?_
  refine f_iconst (M := mX9_scaled) 49 dX9_scaled_48 ki_3 rfl ?_
  refine e_icmp_geT (M := mX9_scaled) 56 dX9_scaled_49 rfl h3 ?_
  refine f_iconst (M := mX9_scaled) 57 dX9_scaled_56 ki_0 rfl ?_
  refine e_putI (M := mX9_scaled) dX9_scaled_57 fl_9033 (x_kk rfl) (x_kk rfl) rfl (fun q9 => Bool.noConfusion q9) ?_
  refine f_aload_n (M := mX9_scaled) 61 dX9_scaled_60 rfl rfl ?_
  refine e_getI (M := mX9_scaled) dX9_scaled_61 fl_9033 (x_kk rfl) (x_kk rfl) rfl ?_
  refine e_if_leT (M := mX9_scaled) 71 dX9_scaled_64 rfl (show (0 : Int32) ≤ 0 by decide) ?_
  refine f_aload_n (M := mX9_scaled) 72 dX9_scaled_71 rfl rfl ?_
  refine f_iload_n (M := mX9_scaled) 73 dX9_scaled_72 rfl rfl ?_
  refine f_iload_n (M := mX9_scaled) 74 dX9_scaled_73 rfl rfl ?_
  refine f_iload_n (M := mX9_scaled) 75 dX9_scaled_74 rfl rfl ?_
  refine e_cV (M := mX9_scaled) [_] 0 0 dX9_scaled_75 pa_9266 pb_9266 cc_9266 rfl rfl rfl rfl rfl (x_kk rfl) (x_kk rfl) rfl (c_X9_netsOf (I := x_tw I 0) hR hNl hl) rfl ?_
  refine e_ri (M := mX9_scaled) dX9_scaled_78 rfl (x_kk rfl) (x_kk rfl) ?_
  rfl
theorem ko_net {N β : Nat} {a : Nat → Int32} {b : Nat → Int64} (H : y_CS N I L R β a b) {Ns Np Nl Nm : Nat} (Z : y_Z a Ns Np Nl Nm) {q : Nat} (hq : q < Nl)  : x_Cv X mX8_net [.ref 0, .int (Int32.ofNat q)] (I, L, R) 233 (.inl (some (.int (a (366 + 4 * q + 2)))), (I, L, R), 233) := by
  obtain ⟨hNs, hn, hNp, hp, hNl, hl, hNm, hmm⟩ := Z
  have hR := h_R H
  have hβ := h_β H
  have hS := h_S H
  show x_Ev X mX8_net 0 [some (.ref 0), some (.int (Int32.ofNat q))] [] ((I, L, R), 233, 0, 0) _
  refine f_aload_n (M := mX8_net) 1 dX8_net_0 rfl rfl ?_
  refine f_iload_n (M := mX8_net) 2 dX8_net_1 rfl rfl ?_
  refine e_cV (M := mX8_net) [_] 0 0 dX8_net_2 pa_8262 pb_8262 cc_8262 rfl rfl rfl rfl rfl (x_kk rfl) (x_kk rfl) rfl (k_isLoad H) rfl ?_
  refine e_cS (M := mX8_net) [] 1 6 dX8_net_5 pa_8103 cc_8103 rfl rfl rfl rfl rfl (x_kk rfl) (x_kk rfl) rfl (c_X8_requireExisting (x_bn (in_ok hl (by omega) hq))) rfl ?_
  refine f_aload_n (M := mX8_net) 9 dX8_net_8 rfl rfl ?_
  refine e_getR (M := mX8_net) dX8_net_9 fl_8026 (x_kk rfl) (x_kk rfl) rfl hS ?_
  refine e_getR (M := mX8_net) dX8_net_12 fl_8245 (x_kk rfl) (sl_lt hβ 0 rfl) (sl_s hβ 0 rfl rfl) (wf_6_5 hR hβ) ?_
  refine e_getR (M := mX8_net) dX8_net_15 fl_8271 (x_kk rfl) (sl_lt hβ 17 rfl) (sl_s hβ 17 rfl rfl) (wf_4_5 hR hβ) ?_
  refine f_iload_n (M := mX8_net) 19 dX8_net_18 rfl rfl ?_
  refine e_ild (M := mX8_net) (w := 60) (j := q) dX8_net_19 (sl_lt hβ 20 rfl) (sl_shp hβ 20 rfl) rfl (by omega) (by omega) ?_
  refine e_ri (M := mX8_net) dX8_net_20 rfl (x_kk rfl) (x_kk rfl) ?_
  exact r_i (RL_k (h_L H) hNl hl hq).2.2.1
theorem mo_net (hR : x_wf R) {Ns Np Nl Nm : Nat} (Z : y_Z (I 226) Ns Np Nl Nm) {q : Nat} (hq : q < Nl)  : x_Cv X mX9_net [.ref 225, .int (Int32.ofNat q)] (I, L, R) 233 (.inl (some (.int (I 226 (366 + 4 * q + 2)))), (x_tw I 0, L, R), 233) := by
  obtain ⟨hNs, hn, hNp, hp, hNl, hl, hNm, hmm⟩ := Z
  show x_Ev X mX9_net 0 [some (.ref 225), some (.int (Int32.ofNat q))] [] ((I, L, R), 233, 0, 0) _
  refine f_aload_n (M := mX9_net) 1 dX9_net_0 rfl rfl ?_
  refine f_aload_n (M := mX9_net) 2 dX9_net_1 rfl rfl ?_
  refine f_iload_n (M := mX9_net) 3 dX9_net_2 rfl rfl ?_
  refine e_cV (M := mX9_net) [_, _] 0 0 dX9_net_3 pa_9255 pb_9255 cc_9255 rfl rfl rfl rfl rfl (x_kk rfl) (x_kk rfl) rfl (c_X9_isLoad hR) rfl ?_
  refine e_if_eqF (M := mX9_net) 13 dX9_net_6 rfl (x_bn (in_ok hl (by omega) hq)) ?_
  refine f_iconst (M := mX9_net) 10 dX9_net_9 ki_0 rfl ?_
  refine f_goto (M := mX9_net) 14 dX9_net_10 rfl ?_
  refine e_putI (M := mX9_net) dX9_net_14 fl_9033 (x_kk rfl) (x_kk rfl) rfl (fun q9 => Bool.noConfusion q9) ?_
  refine f_aload_n (M := mX9_net) 18 dX9_net_17 rfl rfl ?_
  refine e_getI (M := mX9_net) dX9_net_18 fl_9033 (x_kk rfl) (x_kk rfl) rfl ?_
  refine e_if_leT (M := mX9_net) 28 dX9_net_21 rfl (show (0 : Int32) ≤ 0 by decide) ?_
  refine f_aload_n (M := mX9_net) 29 dX9_net_28 rfl rfl ?_
  refine f_iload_n (M := mX9_net) 30 dX9_net_29 rfl rfl ?_
  refine f_iconst (M := mX9_net) 31 dX9_net_30 ki_2 rfl ?_
  refine e_cV (M := mX9_net) [_] 0 0 dX9_net_31 pa_9258 pb_9258 cc_9258 rfl rfl rfl rfl rfl (x_kk rfl) (x_kk rfl) rfl (c_X9_ofLoad (j := 2) hR (by omega) (by omega)) rfl ?_
  refine e_ri (M := mX9_net) dX9_net_34 rfl (x_kk rfl) (x_kk rfl) ?_
  rfl
theorem ko_charge {N β : Nat} {a : Nat → Int32} {b : Nat → Int64} (H : y_CS N I L R β a b) {Ns Np Nl Nm : Nat} (Z : y_Z a Ns Np Nl Nm) {m : Nat} (hm : m ≤ Nm) (h1 : 3 ≤ a 0)  : x_Cv X mX8_charge [.ref 0, .int (Int32.ofNat m)] (I, L, R) 233 (.inl (some (.long (sp_chg a m Nl Ns))), (I, L, R), 233) := by
  obtain ⟨hNs, hn, hNp, hp, hNl, hl, hNm, hmm⟩ := Z
  have hR := h_R H
  have hβ := h_β H
  have hS := h_S H
  show x_Ev X mX8_charge 0 [some (.ref 0), some (.int (Int32.ofNat m))] [] ((I, L, R), 233, 0, 0) _
  refine f_iload_n (M := mX8_charge) 1 dX8_charge_0 rfl rfl ?_
  refine f_iconst (M := mX8_charge) 2 dX8_charge_1 ki_0 rfl ?_
  refine f_aload_n (M := mX8_charge) 3 dX8_charge_2 rfl rfl ?_
  refine e_getR (M := mX8_charge) dX8_charge_3 fl_8026 (x_kk rfl) (x_kk rfl) rfl hS ?_
  refine e_getR (M := mX8_charge) dX8_charge_6 fl_8227 (x_kk rfl) (sl_lt hβ 0 rfl) (sl_s hβ 0 rfl rfl) (wf_6_4 hR hβ) ?_
  refine e_getI (M := mX8_charge) dX8_charge_9 fl_8254 (x_kk rfl) (sl_lt hβ 12 rfl) (sl_s hβ 12 rfl rfl) ?_
  refine e_cS (M := mX8_charge) [_] 0 0 dX8_charge_12 pa_8049 cc_8049 rfl rfl rfl rfl rfl (x_kk rfl) (x_kk rfl) rfl (c_X8_isIn (lo := 0)) rfl ?_
  refine e_cS (M := mX8_charge) [] 1 6 dX8_charge_15 pa_8103 cc_8103 rfl rfl rfl rfl rfl (x_kk rfl) (x_kk rfl) rfl (c_X8_requireExisting (x_bn (by rw [(h_K H).2.2.2.2.2.1]; exact (ib_ok hmm (by omega) hm)))) rfl ?_
  refine f_aload_n (M := mX8_charge) 19 dX8_charge_18 rfl rfl ?_
  refine e_getR (M := mX8_charge) dX8_charge_19 fl_8026 (x_kk rfl) (x_kk rfl) rfl hS ?_
  refine e_cV (M := mX8_charge) [_] 1 6 dX8_charge_22 pa_8236 pb_8236 cc_8236 rfl rfl rfl rfl rfl (x_kk rfl) (x_kk rfl) (x_rcvOK (sl_lt hβ 0 rfl) (sl_s hβ 0 rfl rfl) rfl) (k_hasContract H) rfl ?_
  refine e_cS (M := mX8_charge) [] 2 12 dX8_charge_25 pa_8037 cc_8037 rfl rfl rfl rfl rfl (x_kk rfl) (x_kk rfl) rfl (c_X8_requireState (x_bn h1)) rfl ?_
  refine f_aload_n (M := mX8_charge) 29 dX8_charge_28 rfl rfl ?_
  refine e_getR (M := mX8_charge) dX8_charge_29 fl_8026 (x_kk rfl) (x_kk rfl) rfl hS ?_
  refine f_iload_n (M := mX8_charge) 33 dX8_charge_32 rfl rfl ?_
  refine e_cV (M := mX8_charge) [_] 2 12 dX8_charge_33 pa_8302 pb_8302 cc_8302 rfl rfl rfl rfl rfl (x_kk rfl) (x_kk rfl) (x_rcvOK (sl_lt hβ 0 rfl) (sl_s hβ 0 rfl rfl) rfl) (k_chargeOf H hNl hl hNs hn (by omega)) rfl ?_
  refine e_rl (M := mX8_charge) dX8_charge_36 rfl (x_kk rfl) (x_kk rfl) ?_
  rfl
theorem mo_charge (hR : x_wf R) {Ns Np Nl Nm : Nat} (Z : y_Z (I 226) Ns Np Nl Nm) {m : Nat} (hm : m ≤ Nm) (h1 : 3 ≤ I 226 0) (hIL : y_IL (I 226)) : x_Cv X mX9_charge [.ref 225, .int (Int32.ofNat m)] (I, L, R) 233 (.inl (some (.long (sp_chg (I 226) m Nl Ns))), (x_tw I 0, x_facF L (I 226) Nl, R), 233) := by
  obtain ⟨hNs, hn, hNp, hp, hNl, hl, hNm, hmm⟩ := Z
  show x_Ev X mX9_charge 0 [some (.ref 225), some (.int (Int32.ofNat m))] [] ((I, L, R), 233, 0, 0) _
  refine f_aload_n (M := mX9_charge) 1 dX9_charge_0 rfl rfl ?_
  refine f_iload_n (M := mX9_charge) 2 dX9_charge_1 rfl rfl ?_
  refine f_i2l (M := mX9_charge) 3 dX9_charge_2 rfl ?_
  refine f_lconst (M := mX9_charge) 4 dX9_charge_3 kl_0 rfl ?_
  refine f_aload_n (M := mX9_charge) 5 dX9_charge_4 rfl rfl ?_
  refine e_getR (M := mX9_charge) dX9_charge_5 fl_9007 (x_kk rfl) (x_kk rfl) rfl (wf_9_0 hR) ?_
  refine f_bipush (M := mX9_charge) 10 dX9_charge_8 kb_13 rfl ?_
  refine e_ild (M := mX9_charge) (w := 606) (j := 13) dX9_charge_10 (x_kk rfl) rfl kn_13 (by omega) (by omega) ?_
  refine f_i2l (M := mX9_charge) 12 dX9_charge_11 rfl ?_
  refine e_cS (M := mX9_charge) [_, _] 0 0 dX9_charge_12 pa_9074 cc_9074 rfl rfl rfl rfl rfl (x_kk rfl) (x_kk rfl) rfl (c_X9_isInI (lo := 0)) rfl ?_
  refine e_if_neT (M := mX9_charge) 22 dX9_charge_15 rfl (x_bn (ib_ok hmm (by omega) hm)) ?_
  refine f_aload_n (M := mX9_charge) 23 dX9_charge_22 rfl rfl ?_
  refine e_getR (M := mX9_charge) dX9_charge_23 fl_9007 (x_kk rfl) (x_kk rfl) rfl (wf_9_0 hR) ?_
  refine f_iconst (M := mX9_charge) 27 dX9_charge_26 ki_0 rfl ?_
  refine e_ild (M := mX9_charge) (w := 606) (j := 0) dX9_charge_27 (x_kk rfl) rfl kn_0 (by omega) (by omega) ?_
  refine f_iconst (M := mX9_charge) 29 dX9_charge_28 ki_3 rfl ?_
  refine e_icmp_geT (M := mX9_charge) 36 dX9_charge_29 rfl h1 ?_
  refine f_iconst (M := mX9_charge) 37 dX9_charge_36 ki_0 rfl ?_
  refine e_putI (M := mX9_charge) dX9_charge_37 fl_9033 (x_kk rfl) (x_kk rfl) rfl (fun q9 => Bool.noConfusion q9) ?_
  refine f_aload_n (M := mX9_charge) 41 dX9_charge_40 rfl rfl ?_
  refine e_getI (M := mX9_charge) dX9_charge_41 fl_9033 (x_kk rfl) (x_kk rfl) rfl ?_
  refine e_if_leT (M := mX9_charge) 51 dX9_charge_44 rfl (show (0 : Int32) ≤ 0 by decide) ?_
  refine f_aload_n (M := mX9_charge) 52 dX9_charge_51 rfl rfl ?_
  refine f_iload_n (M := mX9_charge) 53 dX9_charge_52 rfl rfl ?_
  refine e_cV (M := mX9_charge) [_] 0 0 dX9_charge_53 pa_9280 pb_9280 cc_9280 rfl rfl rfl rfl rfl (x_kk rfl) (x_kk rfl) rfl (c_X9_chargeOf (I := x_tw I 0) hR hNl hl hNs hn (fB_0 hIL hNl hl) (by omega)) rfl ?_
  refine e_rl (M := mX9_charge) dX9_charge_56 rfl (x_kk rfl) (x_kk rfl) ?_
  rfl
theorem ko_value {N β : Nat} {a : Nat → Int32} {b : Nat → Int64} (H : y_CS N I L R β a b) {Ns Np Nl Nm : Nat} (Z : y_Z a Ns Np Nl Nm) {q : Nat} (hq : q < 8) (h1 : 1 < a 0 ∧ ¬ a 0 = 6)  : x_Cv X mX8_value [.ref 0, .int (Int32.ofNat q)] (I, L, R) 233 (.inl (some (.long (sp_val a q (-1) 100 Ns))), (I, L, R), 233) := by
  obtain ⟨hNs, hn, hNp, hp, hNl, hl, hNm, hmm⟩ := Z
  have hR := h_R H
  have hβ := h_β H
  have hS := h_S H
  show x_Ev X mX8_value 0 [some (.ref 0), some (.int (Int32.ofNat q))] [] ((I, L, R), 233, 0, 0) _
  refine f_iload_n (M := mX8_value) 1 dX8_value_0 rfl rfl ?_
  refine e_cS (M := mX8_value) [_] 0 0 dX8_value_1 pa_8164 cc_8164 rfl rfl rfl rfl rfl (x_kk rfl) (x_kk rfl) rfl (c_X8_isBidder) rfl ?_
  refine e_cS (M := mX8_value) [] 1 6 dX8_value_4 pa_8103 cc_8103 rfl rfl rfl rfl rfl (x_kk rfl) (x_kk rfl) rfl (c_X8_requireExisting (x_bn (ib_ok kn_7 (by omega) (by omega)))) rfl ?_
  refine f_aload_n (M := mX8_value) 8 dX8_value_7 rfl rfl ?_
  refine e_getR (M := mX8_value) dX8_value_8 fl_8026 (x_kk rfl) (x_kk rfl) rfl hS ?_
  refine e_cV (M := mX8_value) [_] 1 6 dX8_value_11 pa_8195 pb_8195 cc_8195 rfl rfl rfl rfl rfl (x_kk rfl) (x_kk rfl) (x_rcvOK (sl_lt hβ 0 rfl) (sl_s hβ 0 rfl rfl) rfl) (k_hasOpenBids H) rfl ?_
  refine e_cS (M := mX8_value) [] 2 12 dX8_value_14 pa_8037 cc_8037 rfl rfl rfl rfl rfl (x_kk rfl) (x_kk rfl) rfl (c_X8_requireState (x_bn h1)) rfl ?_
  refine f_aload_n (M := mX8_value) 18 dX8_value_17 rfl rfl ?_
  refine e_getR (M := mX8_value) dX8_value_18 fl_8026 (x_kk rfl) (x_kk rfl) rfl hS ?_
  refine e_getR (M := mX8_value) dX8_value_21 fl_8148 (x_kk rfl) (sl_lt hβ 0 rfl) (sl_s hβ 0 rfl rfl) (wf_6_3 hR hβ) ?_
  refine f_iload_n (M := mX8_value) 25 dX8_value_24 rfl rfl ?_
  refine e_cV (M := mX8_value) [_] 2 12 dX8_value_25 pa_8202 pb_8202 cc_8202 rfl rfl rfl rfl rfl (x_kk rfl) (x_kk rfl) (x_rcvOK (sl_lt hβ 7 rfl) (sl_s hβ 7 rfl rfl) rfl) (k_valueOf H hq hNs hn) rfl ?_
  refine e_rl (M := mX8_value) dX8_value_28 rfl (x_kk rfl) (x_kk rfl) ?_
  rfl
theorem ko_problem {N β : Nat} {a : Nat → Int32} {b : Nat → Int64} (H : y_CS N I L R β a b) {Ns Np Nl Nm : Nat} (Z : y_Z a Ns Np Nl Nm) {q : Nat} (hq : q < 8) (h1 : 1 < a 0 ∧ ¬ a 0 = 6)  : x_Cv X mX8_problem [.ref 0, .int (Int32.ofNat q)] (I, L, R) 233 (.inl (some (.int (sp_prob a q Ns))), (I, L, R), 233) := by
  obtain ⟨hNs, hn, hNp, hp, hNl, hl, hNm, hmm⟩ := Z
  have hR := h_R H
  have hβ := h_β H
  have hS := h_S H
  show x_Ev X mX8_problem 0 [some (.ref 0), some (.int (Int32.ofNat q))] [] ((I, L, R), 233, 0, 0) _
  refine f_iload_n (M := mX8_problem) 1 dX8_problem_0 rfl rfl ?_
  refine e_cS (M := mX8_problem) [_] 0 0 dX8_problem_1 pa_8164 cc_8164 rfl rfl rfl rfl rfl (x_kk rfl) (x_kk rfl) rfl (c_X8_isBidder) rfl ?_
  refine e_cS (M := mX8_problem) [] 1 6 dX8_problem_4 pa_8103 cc_8103 rfl rfl rfl rfl rfl (x_kk rfl) (x_kk rfl) rfl (c_X8_requireExisting (x_bn (ib_ok kn_7 (by omega) (by omega)))) rfl ?_
  refine f_aload_n (M := mX8_problem) 8 dX8_problem_7 rfl rfl ?_
  refine e_getR (M := mX8_problem) dX8_problem_8 fl_8026 (x_kk rfl) (x_kk rfl) rfl hS ?_
  refine e_cV (M := mX8_problem) [_] 1 6 dX8_problem_11 pa_8195 pb_8195 cc_8195 rfl rfl rfl rfl rfl (x_kk rfl) (x_kk rfl) (x_rcvOK (sl_lt hβ 0 rfl) (sl_s hβ 0 rfl rfl) rfl) (k_hasOpenBids H) rfl ?_
  refine e_cS (M := mX8_problem) [] 2 12 dX8_problem_14 pa_8037 cc_8037 rfl rfl rfl rfl rfl (x_kk rfl) (x_kk rfl) rfl (c_X8_requireState (x_bn h1)) rfl ?_
  refine f_aload_n (M := mX8_problem) 18 dX8_problem_17 rfl rfl ?_
  refine e_getR (M := mX8_problem) dX8_problem_18 fl_8026 (x_kk rfl) (x_kk rfl) rfl hS ?_
  refine e_getR (M := mX8_problem) dX8_problem_21 fl_8148 (x_kk rfl) (sl_lt hβ 0 rfl) (sl_s hβ 0 rfl rfl) (wf_6_3 hR hβ) ?_
  refine f_iload_n (M := mX8_problem) 25 dX8_problem_24 rfl rfl ?_
  refine f_aload_n (M := mX8_problem) 26 dX8_problem_25 rfl rfl ?_
  refine e_getR (M := mX8_problem) dX8_problem_26 fl_8026 (x_kk rfl) (x_kk rfl) rfl hS ?_
  refine e_getR (M := mX8_problem) dX8_problem_29 fl_8083 (x_kk rfl) (sl_lt hβ 0 rfl) (sl_s hβ 0 rfl rfl) (wf_6_1 hR hβ) ?_
  refine e_cV (M := mX8_problem) [_] 2 12 dX8_problem_32 pa_8198 pb_8198 cc_8198 rfl rfl rfl rfl rfl (x_kk rfl) (x_kk rfl) (x_rcvOK (sl_lt hβ 7 rfl) (sl_s hβ 7 rfl rfl) rfl) (k_problemOf H hq hNs hn) rfl ?_
  refine e_ri (M := mX8_problem) dX8_problem_35 rfl (x_kk rfl) (x_kk rfl) ?_
  rfl
theorem sim_volume (T : y_T N I L R) {v : Int32} : y_OI N X mL_volume [.ref 0, .int v, .ref 232] mX9_volume [.ref 225, .int v] I L R := by
  have T0 := T
  obtain ⟨a, b, kn, ks, bf, bn, ep, ⟨β, δ, γ, ν, hB⟩, hM, hI⟩ := T
  have H : y_CS N I L R β a b := ⟨hM.1, hB.1.2.1, hB.1.2.2.2.2.1, hB.2.2.2.2.2.1, hI.1⟩
  obtain ⟨Ns, Np, Nl, Nm, Z⟩ := Z_of hI.1
  have hR := hM.1
  have ha : I 226 = a := hM.2.1
  have hb : L 229 = b := hM.2.2.1
  subst ha
  subst hb
  obtain ⟨hNs, hn, hNp, hp, hNl, hl, hNm, hmm⟩ := id Z
  by_cases h0 : 0 ≤ v ∧ v ≤ I 226 8 - 1
  · obtain ⟨s, hs, rfl⟩ := in_of hn (by omega) h0
    by_cases h1 : ¬ I 226 0 = 0
    · skip
      exact OI_q T0 (w_volume (ko_volume H Z hs h1)) (mo_volume hR Z hs h1)
    · exact OI_x T0 (by decide) (w_volume_x0 (kf_volume_1 H Z hs h1)) (mf_volume_1 hR Z hs h1)
  · exact OI_x T0 (by decide) (w_volume_x2 (kf_volume_0 H Z h0)) (mf_volume_0 hR Z h0)
theorem sim_rate (T : y_T N I L R) {v : Int32} {u : Int32} : y_OI N X mL_rate [.ref 0, .int v, .int u, .ref 232] mX9_rate [.ref 225, .int v, .int u] I L R := by
  have T0 := T
  obtain ⟨a, b, kn, ks, bf, bn, ep, ⟨β, δ, γ, ν, hB⟩, hM, hI⟩ := T
  have H : y_CS N I L R β a b := ⟨hM.1, hB.1.2.1, hB.1.2.2.2.2.1, hB.2.2.2.2.2.1, hI.1⟩
  obtain ⟨Ns, Np, Nl, Nm, Z⟩ := Z_of hI.1
  have hR := hM.1
  have ha : I 226 = a := hM.2.1
  have hb : L 229 = b := hM.2.2.1
  subst ha
  subst hb
  obtain ⟨hNs, hn, hNp, hp, hNl, hl, hNm, hmm⟩ := id Z
  by_cases h0 : 0 ≤ v ∧ v ≤ I 226 8 - 1
  · obtain ⟨s, hs, rfl⟩ := in_of hn (by omega) h0
    by_cases h1 : 0 ≤ u ∧ u ≤ 11
    · obtain ⟨Q, hQ, rfl⟩ := ib_of kn_11 (by omega) h1
      replace hQ : Q < 12 := by omega
      by_cases h2 : 3 ≤ I 226 0
      · skip
        exact OI_q T0 (w_rate (ko_rate H Z hs hQ h2)) (mo_rate hR Z hs hQ h2)
      · exact OI_x T0 (by decide) (w_rate_x0 (kf_rate_2 H Z hs hQ h2)) (mf_rate_2 hR Z hs hQ h2)
    · exact OI_x T0 (by decide) (w_rate_x2 (kf_rate_1 H Z hs h1)) (mf_rate_1 hR Z hs h1)
  · exact OI_x T0 (by decide) (w_rate_x2 (kf_rate_0 H Z h0)) (mf_rate_0 hR Z h0)
theorem sim_remaining (T : y_T N I L R) {v : Int32} : y_OI N X mL_remaining [.ref 0, .int v, .ref 232] mX9_remaining [.ref 225, .int v] I L R := by
  have T0 := T
  obtain ⟨a, b, kn, ks, bf, bn, ep, ⟨β, δ, γ, ν, hB⟩, hM, hI⟩ := T
  have H : y_CS N I L R β a b := ⟨hM.1, hB.1.2.1, hB.1.2.2.2.2.1, hB.2.2.2.2.2.1, hI.1⟩
  obtain ⟨Ns, Np, Nl, Nm, Z⟩ := Z_of hI.1
  have hR := hM.1
  have ha : I 226 = a := hM.2.1
  have hb : L 229 = b := hM.2.2.1
  subst ha
  subst hb
  obtain ⟨hNs, hn, hNp, hp, hNl, hl, hNm, hmm⟩ := id Z
  by_cases h0 : 0 ≤ v ∧ v ≤ I 226 8 - 1
  · obtain ⟨s, hs, rfl⟩ := in_of hn (by omega) h0
    by_cases h1 : 3 ≤ I 226 0
    · skip
      exact OI_q T0 (w_remaining (ko_remaining H Z hs h1)) (mo_remaining hR Z hs h1)
    · exact OI_x T0 (by decide) (w_remaining_x0 (kf_remaining_1 H Z hs h1)) (mf_remaining_1 hR Z hs h1)
  · exact OI_x T0 (by decide) (w_remaining_x2 (kf_remaining_0 H Z h0)) (mf_remaining_0 hR Z h0)
theorem sim_scaled (T : y_T N I L R) {v : Int32} {f : Int32} {t : Int32} : y_OI N X mL_scaled [.ref 0, .int v, .int f, .int t, .ref 232] mX9_scaled [.ref 225, .int v, .int f, .int t] I L R := by
  have T0 := T
  obtain ⟨a, b, kn, ks, bf, bn, ep, ⟨β, δ, γ, ν, hB⟩, hM, hI⟩ := T
  have H : y_CS N I L R β a b := ⟨hM.1, hB.1.2.1, hB.1.2.2.2.2.1, hB.2.2.2.2.2.1, hI.1⟩
  obtain ⟨Ns, Np, Nl, Nm, Z⟩ := Z_of hI.1
  have hR := hM.1
  have ha : I 226 = a := hM.2.1
  have hb : L 229 = b := hM.2.2.1
  subst ha
  subst hb
  obtain ⟨hNs, hn, hNp, hp, hNl, hl, hNm, hmm⟩ := id Z
  by_cases h0 : v = -1 ∨ (0 ≤ v ∧ v ≤ I 226 8 - 1)
  · skip
    by_cases h1 : 0 ≤ f ∧ f ≤ 36
    · skip
      by_cases h2 : f ≤ t ∧ t ≤ 36
      · skip
        by_cases h3 : 3 ≤ I 226 0
        · skip
          exact OI_q T0 (w_scaled (ko_scaled H Z h0 h1 h2 h3)) (mo_scaled hR Z h0 h1 h2 h3)
        · exact OI_x T0 (by decide) (w_scaled_x0 (kf_scaled_3 H Z h0 h1 h2 h3)) (mf_scaled_3 hR Z h0 h1 h2 h3)
      · exact OI_x T0 (by decide) (w_scaled_x1 (kf_scaled_2 H Z h0 h1 h2)) (mf_scaled_2 hR Z h0 h1 h2)
    · exact OI_x T0 (by decide) (w_scaled_x1 (kf_scaled_1 H Z h0 h1)) (mf_scaled_1 hR Z h0 h1)
  · exact OI_x T0 (by decide) (w_scaled_x2 (kf_scaled_0 H Z h0)) (mf_scaled_0 hR Z h0)
theorem sim_net (T : y_T N I L R) {u : Int32} : y_OI N X mL_net [.ref 0, .int u, .ref 232] mX9_net [.ref 225, .int u] I L R := by
  have T0 := T
  obtain ⟨a, b, kn, ks, bf, bn, ep, ⟨β, δ, γ, ν, hB⟩, hM, hI⟩ := T
  have H : y_CS N I L R β a b := ⟨hM.1, hB.1.2.1, hB.1.2.2.2.2.1, hB.2.2.2.2.2.1, hI.1⟩
  obtain ⟨Ns, Np, Nl, Nm, Z⟩ := Z_of hI.1
  have hR := hM.1
  have ha : I 226 = a := hM.2.1
  have hb : L 229 = b := hM.2.2.1
  subst ha
  subst hb
  obtain ⟨hNs, hn, hNp, hp, hNl, hl, hNm, hmm⟩ := id Z
  by_cases h0 : 0 ≤ u ∧ u ≤ I 226 14 - 1
  · obtain ⟨q, hq, rfl⟩ := in_of hl (by omega) h0
    exact OI_q T0 (w_net (ko_net H Z hq)) (mo_net hR Z hq)
  · exact OI_x T0 (by decide) (w_net_x2 (kf_net_0 H Z h0)) (mf_net_0 hR Z h0)
theorem sim_charge (T : y_T N I L R) {u : Int32} : y_OL N X mL_charge [.ref 0, .int u, .ref 232] mX9_charge [.ref 225, .int u] I L R := by
  have T0 := T
  obtain ⟨a, b, kn, ks, bf, bn, ep, ⟨β, δ, γ, ν, hB⟩, hM, hI⟩ := T
  have H : y_CS N I L R β a b := ⟨hM.1, hB.1.2.1, hB.1.2.2.2.2.1, hB.2.2.2.2.2.1, hI.1⟩
  obtain ⟨Ns, Np, Nl, Nm, Z⟩ := Z_of hI.1
  have hR := hM.1
  have ha : I 226 = a := hM.2.1
  have hb : L 229 = b := hM.2.2.1
  subst ha
  subst hb
  obtain ⟨hNs, hn, hNp, hp, hNl, hl, hNm, hmm⟩ := id Z
  by_cases h0 : 0 ≤ u ∧ u ≤ I 226 13
  · obtain ⟨m, hm, rfl⟩ := ib_of hmm (by omega) h0
    by_cases h1 : 3 ≤ I 226 0
    · skip
      exact OL_f T0 (w_charge (ko_charge H Z hm h1)) (mo_charge hR Z hm h1 (h_IL H))
    · exact OL_x T0 (by decide) (w_charge_x0 (kf_charge_1 H Z hm h1)) (mf_charge_1 hR Z hm h1)
  · exact OL_x T0 (by decide) (w_charge_x2 (kf_charge_0 H Z h0)) (mf_charge_0 hR Z h0)
theorem sim_value (T : y_T N I L R) {u : Int32} : y_OL N X mL_value [.ref 0, .int u, .ref 232] mX9_value [.ref 225, .int u] I L R := by
  have T0 := T
  obtain ⟨a, b, kn, ks, bf, bn, ep, ⟨β, δ, γ, ν, hB⟩, hM, hI⟩ := T
  have H : y_CS N I L R β a b := ⟨hM.1, hB.1.2.1, hB.1.2.2.2.2.1, hB.2.2.2.2.2.1, hI.1⟩
  obtain ⟨Ns, Np, Nl, Nm, Z⟩ := Z_of hI.1
  have hR := hM.1
  have ha : I 226 = a := hM.2.1
  have hb : L 229 = b := hM.2.2.1
  subst ha
  subst hb
  obtain ⟨hNs, hn, hNp, hp, hNl, hl, hNm, hmm⟩ := id Z
  by_cases h0 : 0 ≤ u ∧ u ≤ 7
  · obtain ⟨q, hq, rfl⟩ := ib_of kn_7 (by omega) h0
    replace hq : q < 8 := by omega
    by_cases h1 : 1 < I 226 0 ∧ ¬ I 226 0 = 6
    · skip
      exact OL_q T0 (w_value (ko_value H Z hq h1)) (c_X9_value_0 hR hq hNs hn h1)
    · exact OL_x T0 (by decide) (w_value_x0 (kf_value_1 H Z hq h1)) (mf_value_1 hR Z hq h1)
  · exact OL_x T0 (by decide) (w_value_x2 (kf_value_0 H Z h0)) (mf_value_0 hR Z h0)
theorem sim_problem (T : y_T N I L R) {u : Int32} : y_OI N X mL_problem [.ref 0, .int u, .ref 232] mX9_problem [.ref 225, .int u] I L R := by
  have T0 := T
  obtain ⟨a, b, kn, ks, bf, bn, ep, ⟨β, δ, γ, ν, hB⟩, hM, hI⟩ := T
  have H : y_CS N I L R β a b := ⟨hM.1, hB.1.2.1, hB.1.2.2.2.2.1, hB.2.2.2.2.2.1, hI.1⟩
  obtain ⟨Ns, Np, Nl, Nm, Z⟩ := Z_of hI.1
  have hR := hM.1
  have ha : I 226 = a := hM.2.1
  have hb : L 229 = b := hM.2.2.1
  subst ha
  subst hb
  obtain ⟨hNs, hn, hNp, hp, hNl, hl, hNm, hmm⟩ := id Z
  by_cases h0 : 0 ≤ u ∧ u ≤ 7
  · obtain ⟨q, hq, rfl⟩ := ib_of kn_7 (by omega) h0
    replace hq : q < 8 := by omega
    by_cases h1 : 1 < I 226 0 ∧ ¬ I 226 0 = 6
    · skip
      exact OI_q T0 (w_problem (ko_problem H Z hq h1)) (c_X9_problem_0 hR hq hNs hn h1)
    · exact OI_x T0 (by decide) (w_problem_x0 (kf_problem_1 H Z hq h1)) (mf_problem_1 hR Z hq h1)
  · exact OI_x T0 (by decide) (w_problem_x2 (kf_problem_0 H Z h0)) (mf_problem_0 hR Z h0)
theorem sim_phase (T : y_T N I L R) : y_DI N X mX8_phase [.ref 0] mX9_phase [.ref 225] I L R := by
  have T0 := T
  obtain ⟨a, b, kn, ks, bf, bn, ep, ⟨β, δ, γ, ν, hB⟩, hM, hI⟩ := T
  have H : y_CS N I L R β a b := ⟨hM.1, hB.1.2.1, hB.1.2.2.2.2.1, hB.2.2.2.2.2.1, hI.1⟩
  obtain ⟨Ns, Np, Nl, Nm, Z⟩ := Z_of hI.1
  have hR := hM.1
  have ha : I 226 = a := hM.2.1
  have hb : L 229 = b := hM.2.2.1
  subst ha
  subst hb
  obtain ⟨hNs, hn, hNp, hp, hNl, hl, hNm, hmm⟩ := id Z
  have e := c_X8_phase (X := X) (I := I) (L := L) (h_R H) (h_β H) (h_S H)
  rw [h_ph H] at e
  exact ⟨_, _, _, e, c_X9_phase hR, T_tw T0⟩
theorem sim_plotCount (T : y_T N I L R) : y_DI N X mX8_plotCount [.ref 0] mX9_plotCount [.ref 225] I L R := by
  have T0 := T
  obtain ⟨a, b, kn, ks, bf, bn, ep, ⟨β, δ, γ, ν, hB⟩, hM, hI⟩ := T
  have H : y_CS N I L R β a b := ⟨hM.1, hB.1.2.1, hB.1.2.2.2.2.1, hB.2.2.2.2.2.1, hI.1⟩
  obtain ⟨Ns, Np, Nl, Nm, Z⟩ := Z_of hI.1
  have hR := hM.1
  have ha : I 226 = a := hM.2.1
  have hb : L 229 = b := hM.2.2.1
  subst ha
  subst hb
  obtain ⟨hNs, hn, hNp, hp, hNl, hl, hNm, hmm⟩ := id Z
  have e := c_X8_plotCount (X := X) (I := I) (L := L) (h_R H) (h_β H) (h_S H)
  rw [(h_C H).1] at e
  exact ⟨_, _, _, e, c_X9_plotCount hR, T_tw T0⟩
theorem sim_month (T : y_T N I L R) : y_DI N X mX8_month [.ref 0] mX9_month [.ref 225] I L R := by
  have T0 := T
  obtain ⟨a, b, kn, ks, bf, bn, ep, ⟨β, δ, γ, ν, hB⟩, hM, hI⟩ := T
  have H : y_CS N I L R β a b := ⟨hM.1, hB.1.2.1, hB.1.2.2.2.2.1, hB.2.2.2.2.2.1, hI.1⟩
  obtain ⟨Ns, Np, Nl, Nm, Z⟩ := Z_of hI.1
  have hR := hM.1
  have ha : I 226 = a := hM.2.1
  have hb : L 229 = b := hM.2.2.1
  subst ha
  subst hb
  obtain ⟨hNs, hn, hNp, hp, hNl, hl, hNm, hmm⟩ := id Z
  have e := c_X8_month (X := X) (I := I) (L := L) (h_R H) (h_β H) (h_S H)
  rw [(h_K H).2.2.2.2.2.1] at e
  exact ⟨_, _, _, e, c_X9_month hR, T_tw T0⟩
theorem sim_debt (T : y_T N I L R) : y_DL N X mX8_debt [.ref 0] mX9_debt [.ref 225] I L R := by
  have T0 := T
  obtain ⟨a, b, kn, ks, bf, bn, ep, ⟨β, δ, γ, ν, hB⟩, hM, hI⟩ := T
  have H : y_CS N I L R β a b := ⟨hM.1, hB.1.2.1, hB.1.2.2.2.2.1, hB.2.2.2.2.2.1, hI.1⟩
  obtain ⟨Ns, Np, Nl, Nm, Z⟩ := Z_of hI.1
  have hR := hM.1
  have ha : I 226 = a := hM.2.1
  have hb : L 229 = b := hM.2.2.1
  subst ha
  subst hb
  obtain ⟨hNs, hn, hNp, hp, hNl, hl, hNm, hmm⟩ := id Z
  have e := c_X8_debt (X := X) (I := I) (L := L) (h_R H) (h_β H) (h_S H)
  rw [(h_K H).2.2.2.2.2.2.2] at e
  exact ⟨_, _, _, e, c_X9_debt hR, T_tw T0⟩
theorem sim_errorPosition (T : y_T N I L R) : y_DI N X mX8_errorPosition [.ref 0] mX9_errorPosition [.ref 225] I L R := by
  have T0 := T
  obtain ⟨a, b, kn, ks, bf, bn, ep, ⟨β, δ, γ, ν, hB⟩, hM, hI⟩ := T
  have H : y_CS N I L R β a b := ⟨hM.1, hB.1.2.1, hB.1.2.2.2.2.1, hB.2.2.2.2.2.1, hI.1⟩
  obtain ⟨Ns, Np, Nl, Nm, Z⟩ := Z_of hI.1
  have hR := hM.1
  have ha : I 226 = a := hM.2.1
  have hb : L 229 = b := hM.2.2.1
  subst ha
  subst hb
  obtain ⟨hNs, hn, hNp, hp, hNl, hl, hNm, hmm⟩ := id Z
  have e := c_X8_errorPosition (X := X) (I := I) (L := L) hR
  rw [show I 1 2 = I 225 15 from hB.2.2.2.2.2.2.2.2.2.2.trans hM.2.2.2.2.2.2.2.2.symm] at e
  exact ⟨_, _, _, e, c_X9_errorPosition hR, T_tw T0⟩
end

/-! ===== changes of both, eighth: loads (laid by wip/whole/src/w8.py) ===== -/
section
variable {X : x_X} {I : Nat → Nat → Int32} {L : Nat → Nat → Int64} {R : Nat → Nat → Option Nat} {N : Nat}
theorem nl60 {x : Int32} {n : Nat} (hn : n ≤ 60) (h : x = Int32.ofNat n) : (x < 60) ↔ ¬ x = 60 := by
  rw [h, kn_60, n_lt (by omega) (by omega), n_eq (by omega) (by omega)]
  omega
theorem nl_1 {x : Int32} {n : Nat} (hn : n ≤ 60) (h : x = Int32.ofNat n) (h6 : ¬ x = 60) : n < 60 := by
  have : ¬ n = 60 := fun z => h6 (by rw [h, z]; decide)
  omega
theorem kf_scale_0 {N β : Nat} {a : Nat → Int32} {b : Nat → Int64} (H : y_CS N I L R β a b) {Ns Np Nl Nm : Nat} (Z : y_Z a Ns Np Nl Nm) {v : Int32} {g : Int32} {e : Int32} (h0 : ¬ (0 ≤ v ∧ v ≤ a 8 - 1)) : x_Cv X mX8_scale [.ref 0, .int v, .int g, .int e] (I, L, R) 233 (.inr 2, (I, L, R), 233) := by
  obtain ⟨hNs, hn, hNp, hp, hNl, hl, hNm, hmm⟩ := Z
  have hR := h_R H
  have hβ := h_β H
  have hS := h_S H
  show x_Ev X mX8_scale 0 [some (.ref 0), some (.int v), some (.int g), some (.int e)] [] ((I, L, R), 233, 0, 0) _
  refine f_aload_n (M := mX8_scale) 1 dX8_scale_0 rfl rfl ?_
  refine f_iload_n (M := mX8_scale) 2 dX8_scale_1 rfl rfl ?_
  refine e_cV (M := mX8_scale) [_] 0 0 dX8_scale_2 pa_8161 pb_8161 cc_8161 rfl rfl rfl rfl rfl (x_kk rfl) (x_kk rfl) rfl (k_isSpecies H) rfl ?_
  exact e_cSX (M := mX8_scale) 1 6 dX8_scale_5 pa_8103 cc_8103 rfl rfl rfl rfl rfl (x_kk rfl) (x_kk rfl) rfl (c_X8_requireExisting_x (x_b0 h0)) rfl
theorem kf_scale_1 {N β : Nat} {a : Nat → Int32} {b : Nat → Int64} (H : y_CS N I L R β a b) {Ns Np Nl Nm : Nat} (Z : y_Z a Ns Np Nl Nm) {g : Int32} {e : Int32} {s : Nat} (hs : s < Ns) (h1 : ¬ (1 ≤ g ∧ g ≤ 10000)) : x_Cv X mX8_scale [.ref 0, .int (Int32.ofNat s), .int g, .int e] (I, L, R) 233 (.inr 1, (I, L, R), 233) := by
  obtain ⟨hNs, hn, hNp, hp, hNl, hl, hNm, hmm⟩ := Z
  have hR := h_R H
  have hβ := h_β H
  have hS := h_S H
  show x_Ev X mX8_scale 0 [some (.ref 0), some (.int (Int32.ofNat s)), some (.int g), some (.int e)] [] ((I, L, R), 233, 0, 0) _
  refine f_aload_n (M := mX8_scale) 1 dX8_scale_0 rfl rfl ?_
  refine f_iload_n (M := mX8_scale) 2 dX8_scale_1 rfl rfl ?_
  refine e_cV (M := mX8_scale) [_] 0 0 dX8_scale_2 pa_8161 pb_8161 cc_8161 rfl rfl rfl rfl rfl (x_kk rfl) (x_kk rfl) rfl (k_isSpecies H) rfl ?_
  refine e_cS (M := mX8_scale) [] 1 6 dX8_scale_5 pa_8103 cc_8103 rfl rfl rfl rfl rfl (x_kk rfl) (x_kk rfl) rfl (c_X8_requireExisting (x_bn (in_ok hn (by omega) hs))) rfl ?_
  refine f_iload_n (M := mX8_scale) 9 dX8_scale_8 rfl rfl ?_
  refine f_iconst (M := mX8_scale) 10 dX8_scale_9 ki_1 rfl ?_
  refine f_sipush (M := mX8_scale) 13 dX8_scale_10 ks_10000 rfl ?_
  refine e_cS (M := mX8_scale) [_] 1 6 dX8_scale_13 pa_8049 cc_8049 rfl rfl rfl rfl rfl (x_kk rfl) (x_kk rfl) rfl (c_X8_isIn (lo := 1) (hi := 10000)) rfl ?_
  refine e_if_eqT (M := mX8_scale) 33 dX8_scale_16 rfl (x_b0 h1) ?_
  refine f_iconst (M := mX8_scale) 34 dX8_scale_33 ki_0 rfl ?_
  exact e_cSX (M := mX8_scale) 2 12 dX8_scale_34 pa_8053 cc_8053 rfl rfl rfl rfl rfl (x_kk rfl) (x_kk rfl) rfl (c_X8_requireArgument_x rfl) rfl
theorem kf_scale_2 {N β : Nat} {a : Nat → Int32} {b : Nat → Int64} (H : y_CS N I L R β a b) {Ns Np Nl Nm : Nat} (Z : y_Z a Ns Np Nl Nm) {g : Int32} {e : Int32} {s : Nat} (hs : s < Ns) (h1 : 1 ≤ g ∧ g ≤ 10000) (h2 : ¬ (0 ≤ e ∧ e ≤ 100)) : x_Cv X mX8_scale [.ref 0, .int (Int32.ofNat s), .int g, .int e] (I, L, R) 233 (.inr 1, (I, L, R), 233) := by
  obtain ⟨hNs, hn, hNp, hp, hNl, hl, hNm, hmm⟩ := Z
  have hR := h_R H
  have hβ := h_β H
  have hS := h_S H
  show x_Ev X mX8_scale 0 [some (.ref 0), some (.int (Int32.ofNat s)), some (.int g), some (.int e)] [] ((I, L, R), 233, 0, 0) _
  refine f_aload_n (M := mX8_scale) 1 dX8_scale_0 rfl rfl ?_
  refine f_iload_n (M := mX8_scale) 2 dX8_scale_1 rfl rfl ?_
  refine e_cV (M := mX8_scale) [_] 0 0 dX8_scale_2 pa_8161 pb_8161 cc_8161 rfl rfl rfl rfl rfl (x_kk rfl) (x_kk rfl) rfl (k_isSpecies H) rfl ?_
  refine e_cS (M := mX8_scale) [] 1 6 dX8_scale_5 pa_8103 cc_8103 rfl rfl rfl rfl rfl (x_kk rfl) (x_kk rfl) rfl (c_X8_requireExisting (x_bn (in_ok hn (by omega) hs))) rfl ?_
  refine f_iload_n (M := mX8_scale) 9 dX8_scale_8 rfl rfl ?_
  refine f_iconst (M := mX8_scale) 10 dX8_scale_9 ki_1 rfl ?_
  refine f_sipush (M := mX8_scale) 13 dX8_scale_10 ks_10000 rfl ?_
  refine e_cS (M := mX8_scale) [_] 1 6 dX8_scale_13 pa_8049 cc_8049 rfl rfl rfl rfl rfl (x_kk rfl) (x_kk rfl) rfl (c_X8_isIn (lo := 1) (hi := 10000)) rfl ?_
  refine e_if_eqF (M := mX8_scale) 33 dX8_scale_16 rfl (x_bn h1) ?_
  refine f_iload_n (M := mX8_scale) 20 dX8_scale_19 rfl rfl ?_
  refine f_iconst (M := mX8_scale) 21 dX8_scale_20 ki_0 rfl ?_
  refine f_bipush (M := mX8_scale) 23 dX8_scale_21 kb_100 rfl ?_
  refine e_cS (M := mX8_scale) [_] 1 6 dX8_scale_23 pa_8049 cc_8049 rfl rfl rfl rfl rfl (x_kk rfl) (x_kk rfl) rfl (c_X8_isIn (lo := 0) (hi := 100)) rfl ?_
  refine e_if_eqT (M := mX8_scale) 33 dX8_scale_26 rfl (x_b0 h2) ?_
  refine f_iconst (M := mX8_scale) 34 dX8_scale_33 ki_0 rfl ?_
  exact e_cSX (M := mX8_scale) 2 12 dX8_scale_34 pa_8053 cc_8053 rfl rfl rfl rfl rfl (x_kk rfl) (x_kk rfl) rfl (c_X8_requireArgument_x rfl) rfl
theorem kf_scale_3 {N β : Nat} {a : Nat → Int32} {b : Nat → Int64} (H : y_CS N I L R β a b) {Ns Np Nl Nm : Nat} (Z : y_Z a Ns Np Nl Nm) {g : Int32} {e : Int32} {s : Nat} (hs : s < Ns) (h1 : 1 ≤ g ∧ g ≤ 10000) (h2 : 0 ≤ e ∧ e ≤ 100) (h3 : ¬ (a 0 = 3)) : x_Cv X mX8_scale [.ref 0, .int (Int32.ofNat s), .int g, .int e] (I, L, R) 233 (.inr 0, (I, L, R), 233) := by
  obtain ⟨hNs, hn, hNp, hp, hNl, hl, hNm, hmm⟩ := Z
  have hR := h_R H
  have hβ := h_β H
  have hS := h_S H
  show x_Ev X mX8_scale 0 [some (.ref 0), some (.int (Int32.ofNat s)), some (.int g), some (.int e)] [] ((I, L, R), 233, 0, 0) _
  refine f_aload_n (M := mX8_scale) 1 dX8_scale_0 rfl rfl ?_
  refine f_iload_n (M := mX8_scale) 2 dX8_scale_1 rfl rfl ?_
  refine e_cV (M := mX8_scale) [_] 0 0 dX8_scale_2 pa_8161 pb_8161 cc_8161 rfl rfl rfl rfl rfl (x_kk rfl) (x_kk rfl) rfl (k_isSpecies H) rfl ?_
  refine e_cS (M := mX8_scale) [] 1 6 dX8_scale_5 pa_8103 cc_8103 rfl rfl rfl rfl rfl (x_kk rfl) (x_kk rfl) rfl (c_X8_requireExisting (x_bn (in_ok hn (by omega) hs))) rfl ?_
  refine f_iload_n (M := mX8_scale) 9 dX8_scale_8 rfl rfl ?_
  refine f_iconst (M := mX8_scale) 10 dX8_scale_9 ki_1 rfl ?_
  refine f_sipush (M := mX8_scale) 13 dX8_scale_10 ks_10000 rfl ?_
  refine e_cS (M := mX8_scale) [_] 1 6 dX8_scale_13 pa_8049 cc_8049 rfl rfl rfl rfl rfl (x_kk rfl) (x_kk rfl) rfl (c_X8_isIn (lo := 1) (hi := 10000)) rfl ?_
  refine e_if_eqF (M := mX8_scale) 33 dX8_scale_16 rfl (x_bn h1) ?_
  refine f_iload_n (M := mX8_scale) 20 dX8_scale_19 rfl rfl ?_
  refine f_iconst (M := mX8_scale) 21 dX8_scale_20 ki_0 rfl ?_
  refine f_bipush (M := mX8_scale) 23 dX8_scale_21 kb_100 rfl ?_
  refine e_cS (M := mX8_scale) [_] 1 6 dX8_scale_23 pa_8049 cc_8049 rfl rfl rfl rfl rfl (x_kk rfl) (x_kk rfl) rfl (c_X8_isIn (lo := 0) (hi := 100)) rfl ?_
  refine e_if_eqF (M := mX8_scale) 33 dX8_scale_26 rfl (x_bn h2) ?_
  refine f_iconst (M := mX8_scale) 30 dX8_scale_29 ki_1 rfl ?_
  refine f_goto (M := mX8_scale) 34 dX8_scale_30 rfl ?_
  refine e_cS (M := mX8_scale) [] 2 12 dX8_scale_34 pa_8053 cc_8053 rfl rfl rfl rfl rfl (x_kk rfl) (x_kk rfl) rfl (c_X8_requireArgument (by decide)) rfl ?_
  refine f_aload_n (M := mX8_scale) 38 dX8_scale_37 rfl rfl ?_
  refine e_getR (M := mX8_scale) dX8_scale_38 fl_8026 (x_kk rfl) (x_kk rfl) rfl hS ?_
  refine e_getI (M := mX8_scale) dX8_scale_41 fl_8067 (x_kk rfl) (sl_lt hβ 0 rfl) (sl_s hβ 0 rfl rfl) ?_
  refine f_iconst (M := mX8_scale) 45 dX8_scale_44 ki_3 rfl ?_
  refine e_icmp_neT (M := mX8_scale) 67 dX8_scale_45 rfl (by rw [h_ph H]; exact h3) ?_
  refine f_iconst (M := mX8_scale) 68 dX8_scale_67 ki_0 rfl ?_
  exact e_cSX (M := mX8_scale) 3 18 dX8_scale_68 pa_8037 cc_8037 rfl rfl rfl rfl rfl (x_kk rfl) (x_kk rfl) rfl (c_X8_requireState_x rfl) rfl
theorem kf_scale_4 {N β : Nat} {a : Nat → Int32} {b : Nat → Int64} (H : y_CS N I L R β a b) {Ns Np Nl Nm : Nat} (Z : y_Z a Ns Np Nl Nm) {g : Int32} {e : Int32} {s : Nat} (hs : s < Ns) (h1 : 1 ≤ g ∧ g ≤ 10000) (h2 : 0 ≤ e ∧ e ≤ 100) (h3 : a 0 = 3) (h4 : ¬ (¬ a 14 = 60)) : x_Cv X mX8_scale [.ref 0, .int (Int32.ofNat s), .int g, .int e] (I, L, R) 233 (.inr 0, (I, L, R), 233) := by
  obtain ⟨hNs, hn, hNp, hp, hNl, hl, hNm, hmm⟩ := Z
  have hR := h_R H
  have hβ := h_β H
  have hS := h_S H
  show x_Ev X mX8_scale 0 [some (.ref 0), some (.int (Int32.ofNat s)), some (.int g), some (.int e)] [] ((I, L, R), 233, 0, 0) _
  refine f_aload_n (M := mX8_scale) 1 dX8_scale_0 rfl rfl ?_
  refine f_iload_n (M := mX8_scale) 2 dX8_scale_1 rfl rfl ?_
  refine e_cV (M := mX8_scale) [_] 0 0 dX8_scale_2 pa_8161 pb_8161 cc_8161 rfl rfl rfl rfl rfl (x_kk rfl) (x_kk rfl) rfl (k_isSpecies H) rfl ?_
  refine e_cS (M := mX8_scale) [] 1 6 dX8_scale_5 pa_8103 cc_8103 rfl rfl rfl rfl rfl (x_kk rfl) (x_kk rfl) rfl (c_X8_requireExisting (x_bn (in_ok hn (by omega) hs))) rfl ?_
  refine f_iload_n (M := mX8_scale) 9 dX8_scale_8 rfl rfl ?_
  refine f_iconst (M := mX8_scale) 10 dX8_scale_9 ki_1 rfl ?_
  refine f_sipush (M := mX8_scale) 13 dX8_scale_10 ks_10000 rfl ?_
  refine e_cS (M := mX8_scale) [_] 1 6 dX8_scale_13 pa_8049 cc_8049 rfl rfl rfl rfl rfl (x_kk rfl) (x_kk rfl) rfl (c_X8_isIn (lo := 1) (hi := 10000)) rfl ?_
  refine e_if_eqF (M := mX8_scale) 33 dX8_scale_16 rfl (x_bn h1) ?_
  refine f_iload_n (M := mX8_scale) 20 dX8_scale_19 rfl rfl ?_
  refine f_iconst (M := mX8_scale) 21 dX8_scale_20 ki_0 rfl ?_
  refine f_bipush (M := mX8_scale) 23 dX8_scale_21 kb_100 rfl ?_
  refine e_cS (M := mX8_scale) [_] 1 6 dX8_scale_23 pa_8049 cc_8049 rfl rfl rfl rfl rfl (x_kk rfl) (x_kk rfl) rfl (c_X8_isIn (lo := 0) (hi := 100)) rfl ?_
  refine e_if_eqF (M := mX8_scale) 33 dX8_scale_26 rfl (x_bn h2) ?_
  refine f_iconst (M := mX8_scale) 30 dX8_scale_29 ki_1 rfl ?_
  refine f_goto (M := mX8_scale) 34 dX8_scale_30 rfl ?_
  refine e_cS (M := mX8_scale) [] 2 12 dX8_scale_34 pa_8053 cc_8053 rfl rfl rfl rfl rfl (x_kk rfl) (x_kk rfl) rfl (c_X8_requireArgument (by decide)) rfl ?_
  refine f_aload_n (M := mX8_scale) 38 dX8_scale_37 rfl rfl ?_
  refine e_getR (M := mX8_scale) dX8_scale_38 fl_8026 (x_kk rfl) (x_kk rfl) rfl hS ?_
  refine e_getI (M := mX8_scale) dX8_scale_41 fl_8067 (x_kk rfl) (sl_lt hβ 0 rfl) (sl_s hβ 0 rfl rfl) ?_
  refine f_iconst (M := mX8_scale) 45 dX8_scale_44 ki_3 rfl ?_
  refine e_icmp_neF (M := mX8_scale) 67 dX8_scale_45 rfl (fun z => z (by rw [h_ph H]; exact h3)) ?_
  refine f_aload_n (M := mX8_scale) 49 dX8_scale_48 rfl rfl ?_
  refine e_getR (M := mX8_scale) dX8_scale_49 fl_8026 (x_kk rfl) (x_kk rfl) rfl hS ?_
  refine e_getR (M := mX8_scale) dX8_scale_52 fl_8245 (x_kk rfl) (sl_lt hβ 0 rfl) (sl_s hβ 0 rfl rfl) (wf_6_5 hR hβ) ?_
  refine e_getI (M := mX8_scale) dX8_scale_55 fl_8249 (x_kk rfl) (sl_lt hβ 17 rfl) (sl_s hβ 17 rfl rfl) ?_
  refine f_bipush (M := mX8_scale) 60 dX8_scale_58 kb_60 rfl ?_
  refine e_icmp_geT (M := mX8_scale) 67 dX8_scale_60 rfl (i_nlt.mp (by rw [(h_L H).1]; exact fun z => h4 ((nl60 hNl hl).mp z))) ?_
  refine f_iconst (M := mX8_scale) 68 dX8_scale_67 ki_0 rfl ?_
  exact e_cSX (M := mX8_scale) 3 18 dX8_scale_68 pa_8037 cc_8037 rfl rfl rfl rfl rfl (x_kk rfl) (x_kk rfl) rfl (c_X8_requireState_x rfl) rfl
theorem mf_scale_0 (hR : x_wf R) {Ns Np Nl Nm : Nat} (Z : y_Z (I 226) Ns Np Nl Nm) {v : Int32} {g : Int32} {e : Int32} (h0 : ¬ (0 ≤ v ∧ v ≤ I 226 8 - 1)) : x_Cv X mX9_scale [.ref 225, .int v, .int g, .int e] (I, L, R) 233 (.inl (some (.int (0))), (x_tw I 1, L, R), 233) := by
  obtain ⟨hNs, hn, hNp, hp, hNl, hl, hNm, hmm⟩ := Z
  show x_Ev X mX9_scale 0 [some (.ref 225), some (.int v), some (.int g), some (.int e), none] [] ((I, L, R), 233, 0, 0) _
  refine f_aload_n (M := mX9_scale) 1 dX9_scale_0 rfl rfl ?_
  refine f_aload_n (M := mX9_scale) 2 dX9_scale_1 rfl rfl ?_
  refine f_iload_n (M := mX9_scale) 3 dX9_scale_2 rfl rfl ?_
  refine e_cV (M := mX9_scale) [_, _] 0 0 dX9_scale_3 pa_9137 pb_9137 cc_9137 rfl rfl rfl rfl rfl (x_kk rfl) (x_kk rfl) rfl (c_X9_isSpecies hR) rfl ?_
  refine e_if_neF (M := mX9_scale) 13 dX9_scale_6 rfl (x_bnn h0) ?_
  refine f_iconst (M := mX9_scale) 10 dX9_scale_9 ki_1 rfl ?_
  refine f_goto (M := mX9_scale) 52 dX9_scale_10 rfl ?_
  refine e_putI (M := mX9_scale) dX9_scale_52 fl_9033 (x_kk rfl) (x_kk rfl) rfl (fun q9 => Bool.noConfusion q9) ?_
  refine f_aload_n (M := mX9_scale) 56 dX9_scale_55 rfl rfl ?_
  refine e_getI (M := mX9_scale) dX9_scale_56 fl_9033 (x_kk rfl) (x_kk rfl) rfl ?_
  refine e_if_leF (M := mX9_scale) 64 dX9_scale_59 rfl (show ¬ ((1 : Int32) ≤ 0) by decide) ?_
  refine f_iconst (M := mX9_scale) 63 dX9_scale_62 ki_0 rfl ?_
  refine e_ri (M := mX9_scale) dX9_scale_63 rfl (x_kk rfl) (x_kk rfl) ?_
  rfl
theorem mf_scale_1 (hR : x_wf R) {Ns Np Nl Nm : Nat} (Z : y_Z (I 226) Ns Np Nl Nm) {g : Int32} {e : Int32} {s : Nat} (hs : s < Ns) (h1 : ¬ (1 ≤ g ∧ g ≤ 10000)) : x_Cv X mX9_scale [.ref 225, .int (Int32.ofNat s), .int g, .int e] (I, L, R) 233 (.inl (some (.int (0))), (x_tw I 2, L, R), 233) := by
  obtain ⟨hNs, hn, hNp, hp, hNl, hl, hNm, hmm⟩ := Z
  show x_Ev X mX9_scale 0 [some (.ref 225), some (.int (Int32.ofNat s)), some (.int g), some (.int e), none] [] ((I, L, R), 233, 0, 0) _
  refine f_aload_n (M := mX9_scale) 1 dX9_scale_0 rfl rfl ?_
  refine f_aload_n (M := mX9_scale) 2 dX9_scale_1 rfl rfl ?_
  refine f_iload_n (M := mX9_scale) 3 dX9_scale_2 rfl rfl ?_
  refine e_cV (M := mX9_scale) [_, _] 0 0 dX9_scale_3 pa_9137 pb_9137 cc_9137 rfl rfl rfl rfl rfl (x_kk rfl) (x_kk rfl) rfl (c_X9_isSpecies hR) rfl ?_
  refine e_if_neT (M := mX9_scale) 13 dX9_scale_6 rfl (x_bn (in_ok hn (by omega) hs)) ?_
  refine f_iload_n (M := mX9_scale) 14 dX9_scale_13 rfl rfl ?_
  refine f_iload_n (M := mX9_scale) 15 dX9_scale_14 rfl rfl ?_
  refine e_cS (M := mX9_scale) [_, _] 0 0 dX9_scale_15 pa_9249 cc_9249 rfl rfl rfl rfl rfl (x_kk rfl) (x_kk rfl) rfl (c_X9_isScaled) rfl ?_
  refine e_if_neF (M := mX9_scale) 25 dX9_scale_18 rfl (x_bnn (fun z => h1 z.1)) ?_
  refine f_iconst (M := mX9_scale) 22 dX9_scale_21 ki_2 rfl ?_
  refine f_goto (M := mX9_scale) 52 dX9_scale_22 rfl ?_
  refine e_putI (M := mX9_scale) dX9_scale_52 fl_9033 (x_kk rfl) (x_kk rfl) rfl (fun q9 => Bool.noConfusion q9) ?_
  refine f_aload_n (M := mX9_scale) 56 dX9_scale_55 rfl rfl ?_
  refine e_getI (M := mX9_scale) dX9_scale_56 fl_9033 (x_kk rfl) (x_kk rfl) rfl ?_
  refine e_if_leF (M := mX9_scale) 64 dX9_scale_59 rfl (show ¬ ((2 : Int32) ≤ 0) by decide) ?_
  refine f_iconst (M := mX9_scale) 63 dX9_scale_62 ki_0 rfl ?_
  refine e_ri (M := mX9_scale) dX9_scale_63 rfl (x_kk rfl) (x_kk rfl) ?_
  rfl
theorem mf_scale_2 (hR : x_wf R) {Ns Np Nl Nm : Nat} (Z : y_Z (I 226) Ns Np Nl Nm) {g : Int32} {e : Int32} {s : Nat} (hs : s < Ns) (h1 : 1 ≤ g ∧ g ≤ 10000) (h2 : ¬ (0 ≤ e ∧ e ≤ 100)) : x_Cv X mX9_scale [.ref 225, .int (Int32.ofNat s), .int g, .int e] (I, L, R) 233 (.inl (some (.int (0))), (x_tw I 2, L, R), 233) := by
  obtain ⟨hNs, hn, hNp, hp, hNl, hl, hNm, hmm⟩ := Z
  show x_Ev X mX9_scale 0 [some (.ref 225), some (.int (Int32.ofNat s)), some (.int g), some (.int e), none] [] ((I, L, R), 233, 0, 0) _
  refine f_aload_n (M := mX9_scale) 1 dX9_scale_0 rfl rfl ?_
  refine f_aload_n (M := mX9_scale) 2 dX9_scale_1 rfl rfl ?_
  refine f_iload_n (M := mX9_scale) 3 dX9_scale_2 rfl rfl ?_
  refine e_cV (M := mX9_scale) [_, _] 0 0 dX9_scale_3 pa_9137 pb_9137 cc_9137 rfl rfl rfl rfl rfl (x_kk rfl) (x_kk rfl) rfl (c_X9_isSpecies hR) rfl ?_
  refine e_if_neT (M := mX9_scale) 13 dX9_scale_6 rfl (x_bn (in_ok hn (by omega) hs)) ?_
  refine f_iload_n (M := mX9_scale) 14 dX9_scale_13 rfl rfl ?_
  refine f_iload_n (M := mX9_scale) 15 dX9_scale_14 rfl rfl ?_
  refine e_cS (M := mX9_scale) [_, _] 0 0 dX9_scale_15 pa_9249 cc_9249 rfl rfl rfl rfl rfl (x_kk rfl) (x_kk rfl) rfl (c_X9_isScaled) rfl ?_
  refine e_if_neF (M := mX9_scale) 25 dX9_scale_18 rfl (x_bnn (fun z => h2 z.2)) ?_
  refine f_iconst (M := mX9_scale) 22 dX9_scale_21 ki_2 rfl ?_
  refine f_goto (M := mX9_scale) 52 dX9_scale_22 rfl ?_
  refine e_putI (M := mX9_scale) dX9_scale_52 fl_9033 (x_kk rfl) (x_kk rfl) rfl (fun q9 => Bool.noConfusion q9) ?_
  refine f_aload_n (M := mX9_scale) 56 dX9_scale_55 rfl rfl ?_
  refine e_getI (M := mX9_scale) dX9_scale_56 fl_9033 (x_kk rfl) (x_kk rfl) rfl ?_
  refine e_if_leF (M := mX9_scale) 64 dX9_scale_59 rfl (show ¬ ((2 : Int32) ≤ 0) by decide) ?_
  refine f_iconst (M := mX9_scale) 63 dX9_scale_62 ki_0 rfl ?_
  refine e_ri (M := mX9_scale) dX9_scale_63 rfl (x_kk rfl) (x_kk rfl) ?_
  rfl
theorem mf_scale_3 (hR : x_wf R) {Ns Np Nl Nm : Nat} (Z : y_Z (I 226) Ns Np Nl Nm) {g : Int32} {e : Int32} {s : Nat} (hs : s < Ns) (h1 : 1 ≤ g ∧ g ≤ 10000) (h2 : 0 ≤ e ∧ e ≤ 100) (h3 : ¬ (I 226 0 = 3)) : x_Cv X mX9_scale [.ref 225, .int (Int32.ofNat s), .int g, .int e] (I, L, R) 233 (.inl (some (.int (0))), (x_tw I 3, L, R), 233) := by
  obtain ⟨hNs, hn, hNp, hp, hNl, hl, hNm, hmm⟩ := Z
  show x_Ev X mX9_scale 0 [some (.ref 225), some (.int (Int32.ofNat s)), some (.int g), some (.int e), none] [] ((I, L, R), 233, 0, 0) _
  refine f_aload_n (M := mX9_scale) 1 dX9_scale_0 rfl rfl ?_
  refine f_aload_n (M := mX9_scale) 2 dX9_scale_1 rfl rfl ?_
  refine f_iload_n (M := mX9_scale) 3 dX9_scale_2 rfl rfl ?_
  refine e_cV (M := mX9_scale) [_, _] 0 0 dX9_scale_3 pa_9137 pb_9137 cc_9137 rfl rfl rfl rfl rfl (x_kk rfl) (x_kk rfl) rfl (c_X9_isSpecies hR) rfl ?_
  refine e_if_neT (M := mX9_scale) 13 dX9_scale_6 rfl (x_bn (in_ok hn (by omega) hs)) ?_
  refine f_iload_n (M := mX9_scale) 14 dX9_scale_13 rfl rfl ?_
  refine f_iload_n (M := mX9_scale) 15 dX9_scale_14 rfl rfl ?_
  refine e_cS (M := mX9_scale) [_, _] 0 0 dX9_scale_15 pa_9249 cc_9249 rfl rfl rfl rfl rfl (x_kk rfl) (x_kk rfl) rfl (c_X9_isScaled) rfl ?_
  refine e_if_neT (M := mX9_scale) 25 dX9_scale_18 rfl (x_bn ⟨h1, h2⟩) ?_
  refine f_aload_n (M := mX9_scale) 26 dX9_scale_25 rfl rfl ?_
  refine e_getR (M := mX9_scale) dX9_scale_26 fl_9007 (x_kk rfl) (x_kk rfl) rfl (wf_9_0 hR) ?_
  refine f_iconst (M := mX9_scale) 30 dX9_scale_29 ki_0 rfl ?_
  refine e_ild (M := mX9_scale) (w := 606) (j := 0) dX9_scale_30 (x_kk rfl) rfl kn_0 (by omega) (by omega) ?_
  refine f_iconst (M := mX9_scale) 32 dX9_scale_31 ki_3 rfl ?_
  refine e_icmp_neT (M := mX9_scale) 47 dX9_scale_32 rfl h3 ?_
  refine f_iconst (M := mX9_scale) 48 dX9_scale_47 ki_3 rfl ?_
  refine f_goto (M := mX9_scale) 52 dX9_scale_48 rfl ?_
  refine e_putI (M := mX9_scale) dX9_scale_52 fl_9033 (x_kk rfl) (x_kk rfl) rfl (fun q9 => Bool.noConfusion q9) ?_
  refine f_aload_n (M := mX9_scale) 56 dX9_scale_55 rfl rfl ?_
  refine e_getI (M := mX9_scale) dX9_scale_56 fl_9033 (x_kk rfl) (x_kk rfl) rfl ?_
  refine e_if_leF (M := mX9_scale) 64 dX9_scale_59 rfl (show ¬ ((3 : Int32) ≤ 0) by decide) ?_
  refine f_iconst (M := mX9_scale) 63 dX9_scale_62 ki_0 rfl ?_
  refine e_ri (M := mX9_scale) dX9_scale_63 rfl (x_kk rfl) (x_kk rfl) ?_
  rfl
theorem mf_scale_4 (hR : x_wf R) {Ns Np Nl Nm : Nat} (Z : y_Z (I 226) Ns Np Nl Nm) {g : Int32} {e : Int32} {s : Nat} (hs : s < Ns) (h1 : 1 ≤ g ∧ g ≤ 10000) (h2 : 0 ≤ e ∧ e ≤ 100) (h3 : I 226 0 = 3) (h4 : ¬ (¬ I 226 14 = 60)) : x_Cv X mX9_scale [.ref 225, .int (Int32.ofNat s), .int g, .int e] (I, L, R) 233 (.inl (some (.int (0))), (x_tw I 3, L, R), 233) := by
  obtain ⟨hNs, hn, hNp, hp, hNl, hl, hNm, hmm⟩ := Z
  show x_Ev X mX9_scale 0 [some (.ref 225), some (.int (Int32.ofNat s)), some (.int g), some (.int e), none] [] ((I, L, R), 233, 0, 0) _
  refine f_aload_n (M := mX9_scale) 1 dX9_scale_0 rfl rfl ?_
  refine f_aload_n (M := mX9_scale) 2 dX9_scale_1 rfl rfl ?_
  refine f_iload_n (M := mX9_scale) 3 dX9_scale_2 rfl rfl ?_
  refine e_cV (M := mX9_scale) [_, _] 0 0 dX9_scale_3 pa_9137 pb_9137 cc_9137 rfl rfl rfl rfl rfl (x_kk rfl) (x_kk rfl) rfl (c_X9_isSpecies hR) rfl ?_
  refine e_if_neT (M := mX9_scale) 13 dX9_scale_6 rfl (x_bn (in_ok hn (by omega) hs)) ?_
  refine f_iload_n (M := mX9_scale) 14 dX9_scale_13 rfl rfl ?_
  refine f_iload_n (M := mX9_scale) 15 dX9_scale_14 rfl rfl ?_
  refine e_cS (M := mX9_scale) [_, _] 0 0 dX9_scale_15 pa_9249 cc_9249 rfl rfl rfl rfl rfl (x_kk rfl) (x_kk rfl) rfl (c_X9_isScaled) rfl ?_
  refine e_if_neT (M := mX9_scale) 25 dX9_scale_18 rfl (x_bn ⟨h1, h2⟩) ?_
  refine f_aload_n (M := mX9_scale) 26 dX9_scale_25 rfl rfl ?_
  refine e_getR (M := mX9_scale) dX9_scale_26 fl_9007 (x_kk rfl) (x_kk rfl) rfl (wf_9_0 hR) ?_
  refine f_iconst (M := mX9_scale) 30 dX9_scale_29 ki_0 rfl ?_
  refine e_ild (M := mX9_scale) (w := 606) (j := 0) dX9_scale_30 (x_kk rfl) rfl kn_0 (by omega) (by omega) ?_
  refine f_iconst (M := mX9_scale) 32 dX9_scale_31 ki_3 rfl ?_
  refine e_icmp_neF (M := mX9_scale) 47 dX9_scale_32 rfl (fun z => z h3) ?_
  refine f_aload_n (M := mX9_scale) 36 dX9_scale_35 rfl rfl ?_
  refine e_getR (M := mX9_scale) dX9_scale_36 fl_9007 (x_kk rfl) (x_kk rfl) rfl (wf_9_0 hR) ?_
  refine f_bipush (M := mX9_scale) 41 dX9_scale_39 kb_14 rfl ?_
  refine e_ild (M := mX9_scale) (w := 606) (j := 14) dX9_scale_41 (x_kk rfl) rfl kn_14 (by omega) (by omega) ?_
  refine f_bipush (M := mX9_scale) 44 dX9_scale_42 kb_60 rfl ?_
  refine e_icmp_neF (M := mX9_scale) 51 dX9_scale_44 rfl h4 ?_
  refine f_iconst (M := mX9_scale) 48 dX9_scale_47 ki_3 rfl ?_
  refine f_goto (M := mX9_scale) 52 dX9_scale_48 rfl ?_
  refine e_putI (M := mX9_scale) dX9_scale_52 fl_9033 (x_kk rfl) (x_kk rfl) rfl (fun q9 => Bool.noConfusion q9) ?_
  refine f_aload_n (M := mX9_scale) 56 dX9_scale_55 rfl rfl ?_
  refine e_getI (M := mX9_scale) dX9_scale_56 fl_9033 (x_kk rfl) (x_kk rfl) rfl ?_
  refine e_if_leF (M := mX9_scale) 64 dX9_scale_59 rfl (show ¬ ((3 : Int32) ≤ 0) by decide) ?_
  refine f_iconst (M := mX9_scale) 63 dX9_scale_62 ki_0 rfl ?_
  refine e_ri (M := mX9_scale) dX9_scale_63 rfl (x_kk rfl) (x_kk rfl) ?_
  rfl
theorem kf_check_0 {N β : Nat} {a : Nat → Int32} {b : Nat → Int64} (H : y_CS N I L R β a b) {Ns Np Nl Nm : Nat} (Z : y_Z a Ns Np Nl Nm) {u : Int32} {g : Int32} {e : Int32} (h0 : ¬ (0 ≤ u ∧ u ≤ a 14 - 1)) : x_Cv X mX8_check [.ref 0, .int u, .int g, .int e] (I, L, R) 233 (.inr 2, (I, L, R), 233) := by
  obtain ⟨hNs, hn, hNp, hp, hNl, hl, hNm, hmm⟩ := Z
  have hR := h_R H
  have hβ := h_β H
  have hS := h_S H
  show x_Ev X mX8_check 0 [some (.ref 0), some (.int u), some (.int g), some (.int e), none] [] ((I, L, R), 233, 0, 0) _
  refine f_aload_n (M := mX8_check) 1 dX8_check_0 rfl rfl ?_
  refine f_iload_n (M := mX8_check) 2 dX8_check_1 rfl rfl ?_
  refine e_cV (M := mX8_check) [_] 0 0 dX8_check_2 pa_8262 pb_8262 cc_8262 rfl rfl rfl rfl rfl (x_kk rfl) (x_kk rfl) rfl (k_isLoad H) rfl ?_
  exact e_cSX (M := mX8_check) 1 6 dX8_check_5 pa_8103 cc_8103 rfl rfl rfl rfl rfl (x_kk rfl) (x_kk rfl) rfl (c_X8_requireExisting_x (x_b0 h0)) rfl
theorem kf_check_1 {N β : Nat} {a : Nat → Int32} {b : Nat → Int64} (H : y_CS N I L R β a b) {Ns Np Nl Nm : Nat} (Z : y_Z a Ns Np Nl Nm) {g : Int32} {e : Int32} {q : Nat} (hq : q < Nl) (h1 : ¬ (1 ≤ g ∧ g ≤ 10000)) : x_Cv X mX8_check [.ref 0, .int (Int32.ofNat q), .int g, .int e] (I, L, R) 233 (.inr 1, (I, L, R), 233) := by
  obtain ⟨hNs, hn, hNp, hp, hNl, hl, hNm, hmm⟩ := Z
  have hR := h_R H
  have hβ := h_β H
  have hS := h_S H
  show x_Ev X mX8_check 0 [some (.ref 0), some (.int (Int32.ofNat q)), some (.int g), some (.int e), none] [] ((I, L, R), 233, 0, 0) _
  refine f_aload_n (M := mX8_check) 1 dX8_check_0 rfl rfl ?_
  refine f_iload_n (M := mX8_check) 2 dX8_check_1 rfl rfl ?_
  refine e_cV (M := mX8_check) [_] 0 0 dX8_check_2 pa_8262 pb_8262 cc_8262 rfl rfl rfl rfl rfl (x_kk rfl) (x_kk rfl) rfl (k_isLoad H) rfl ?_
  refine e_cS (M := mX8_check) [] 1 6 dX8_check_5 pa_8103 cc_8103 rfl rfl rfl rfl rfl (x_kk rfl) (x_kk rfl) rfl (c_X8_requireExisting (x_bn (in_ok hl (by omega) hq))) rfl ?_
  refine f_iload_n (M := mX8_check) 9 dX8_check_8 rfl rfl ?_
  refine f_iconst (M := mX8_check) 10 dX8_check_9 ki_1 rfl ?_
  refine f_sipush (M := mX8_check) 13 dX8_check_10 ks_10000 rfl ?_
  refine e_cS (M := mX8_check) [_] 1 6 dX8_check_13 pa_8049 cc_8049 rfl rfl rfl rfl rfl (x_kk rfl) (x_kk rfl) rfl (c_X8_isIn (lo := 1) (hi := 10000)) rfl ?_
  refine e_if_eqT (M := mX8_check) 33 dX8_check_16 rfl (x_b0 h1) ?_
  refine f_iconst (M := mX8_check) 34 dX8_check_33 ki_0 rfl ?_
  exact e_cSX (M := mX8_check) 2 12 dX8_check_34 pa_8053 cc_8053 rfl rfl rfl rfl rfl (x_kk rfl) (x_kk rfl) rfl (c_X8_requireArgument_x rfl) rfl
theorem kf_check_2 {N β : Nat} {a : Nat → Int32} {b : Nat → Int64} (H : y_CS N I L R β a b) {Ns Np Nl Nm : Nat} (Z : y_Z a Ns Np Nl Nm) {g : Int32} {e : Int32} {q : Nat} (hq : q < Nl) (h1 : 1 ≤ g ∧ g ≤ 10000) (h2 : ¬ (0 ≤ e ∧ e ≤ 100)) : x_Cv X mX8_check [.ref 0, .int (Int32.ofNat q), .int g, .int e] (I, L, R) 233 (.inr 1, (I, L, R), 233) := by
  obtain ⟨hNs, hn, hNp, hp, hNl, hl, hNm, hmm⟩ := Z
  have hR := h_R H
  have hβ := h_β H
  have hS := h_S H
  show x_Ev X mX8_check 0 [some (.ref 0), some (.int (Int32.ofNat q)), some (.int g), some (.int e), none] [] ((I, L, R), 233, 0, 0) _
  refine f_aload_n (M := mX8_check) 1 dX8_check_0 rfl rfl ?_
  refine f_iload_n (M := mX8_check) 2 dX8_check_1 rfl rfl ?_
  refine e_cV (M := mX8_check) [_] 0 0 dX8_check_2 pa_8262 pb_8262 cc_8262 rfl rfl rfl rfl rfl (x_kk rfl) (x_kk rfl) rfl (k_isLoad H) rfl ?_
  refine e_cS (M := mX8_check) [] 1 6 dX8_check_5 pa_8103 cc_8103 rfl rfl rfl rfl rfl (x_kk rfl) (x_kk rfl) rfl (c_X8_requireExisting (x_bn (in_ok hl (by omega) hq))) rfl ?_
  refine f_iload_n (M := mX8_check) 9 dX8_check_8 rfl rfl ?_
  refine f_iconst (M := mX8_check) 10 dX8_check_9 ki_1 rfl ?_
  refine f_sipush (M := mX8_check) 13 dX8_check_10 ks_10000 rfl ?_
  refine e_cS (M := mX8_check) [_] 1 6 dX8_check_13 pa_8049 cc_8049 rfl rfl rfl rfl rfl (x_kk rfl) (x_kk rfl) rfl (c_X8_isIn (lo := 1) (hi := 10000)) rfl ?_
  refine e_if_eqF (M := mX8_check) 33 dX8_check_16 rfl (x_bn h1) ?_
  refine f_iload_n (M := mX8_check) 20 dX8_check_19 rfl rfl ?_
  refine f_iconst (M := mX8_check) 21 dX8_check_20 ki_0 rfl ?_
  refine f_bipush (M := mX8_check) 23 dX8_check_21 kb_100 rfl ?_
  refine e_cS (M := mX8_check) [_] 1 6 dX8_check_23 pa_8049 cc_8049 rfl rfl rfl rfl rfl (x_kk rfl) (x_kk rfl) rfl (c_X8_isIn (lo := 0) (hi := 100)) rfl ?_
  refine e_if_eqT (M := mX8_check) 33 dX8_check_26 rfl (x_b0 h2) ?_
  refine f_iconst (M := mX8_check) 34 dX8_check_33 ki_0 rfl ?_
  exact e_cSX (M := mX8_check) 2 12 dX8_check_34 pa_8053 cc_8053 rfl rfl rfl rfl rfl (x_kk rfl) (x_kk rfl) rfl (c_X8_requireArgument_x rfl) rfl
theorem kf_check_3 {N β : Nat} {a : Nat → Int32} {b : Nat → Int64} (H : y_CS N I L R β a b) {Ns Np Nl Nm : Nat} (Z : y_Z a Ns Np Nl Nm) {g : Int32} {e : Int32} {q : Nat} (hq : q < Nl) (h1 : 1 ≤ g ∧ g ≤ 10000) (h2 : 0 ≤ e ∧ e ≤ 100) (h3 : ¬ (a 0 = 3)) : x_Cv X mX8_check [.ref 0, .int (Int32.ofNat q), .int g, .int e] (I, L, R) 233 (.inr 0, (I, L, R), 233) := by
  obtain ⟨hNs, hn, hNp, hp, hNl, hl, hNm, hmm⟩ := Z
  have hR := h_R H
  have hβ := h_β H
  have hS := h_S H
  show x_Ev X mX8_check 0 [some (.ref 0), some (.int (Int32.ofNat q)), some (.int g), some (.int e), none] [] ((I, L, R), 233, 0, 0) _
  refine f_aload_n (M := mX8_check) 1 dX8_check_0 rfl rfl ?_
  refine f_iload_n (M := mX8_check) 2 dX8_check_1 rfl rfl ?_
  refine e_cV (M := mX8_check) [_] 0 0 dX8_check_2 pa_8262 pb_8262 cc_8262 rfl rfl rfl rfl rfl (x_kk rfl) (x_kk rfl) rfl (k_isLoad H) rfl ?_
  refine e_cS (M := mX8_check) [] 1 6 dX8_check_5 pa_8103 cc_8103 rfl rfl rfl rfl rfl (x_kk rfl) (x_kk rfl) rfl (c_X8_requireExisting (x_bn (in_ok hl (by omega) hq))) rfl ?_
  refine f_iload_n (M := mX8_check) 9 dX8_check_8 rfl rfl ?_
  refine f_iconst (M := mX8_check) 10 dX8_check_9 ki_1 rfl ?_
  refine f_sipush (M := mX8_check) 13 dX8_check_10 ks_10000 rfl ?_
  refine e_cS (M := mX8_check) [_] 1 6 dX8_check_13 pa_8049 cc_8049 rfl rfl rfl rfl rfl (x_kk rfl) (x_kk rfl) rfl (c_X8_isIn (lo := 1) (hi := 10000)) rfl ?_
  refine e_if_eqF (M := mX8_check) 33 dX8_check_16 rfl (x_bn h1) ?_
  refine f_iload_n (M := mX8_check) 20 dX8_check_19 rfl rfl ?_
  refine f_iconst (M := mX8_check) 21 dX8_check_20 ki_0 rfl ?_
  refine f_bipush (M := mX8_check) 23 dX8_check_21 kb_100 rfl ?_
  refine e_cS (M := mX8_check) [_] 1 6 dX8_check_23 pa_8049 cc_8049 rfl rfl rfl rfl rfl (x_kk rfl) (x_kk rfl) rfl (c_X8_isIn (lo := 0) (hi := 100)) rfl ?_
  refine e_if_eqF (M := mX8_check) 33 dX8_check_26 rfl (x_bn h2) ?_
  refine f_iconst (M := mX8_check) 30 dX8_check_29 ki_1 rfl ?_
  refine f_goto (M := mX8_check) 34 dX8_check_30 rfl ?_
  refine e_cS (M := mX8_check) [] 2 12 dX8_check_34 pa_8053 cc_8053 rfl rfl rfl rfl rfl (x_kk rfl) (x_kk rfl) rfl (c_X8_requireArgument (by decide)) rfl ?_
  refine f_aload_n (M := mX8_check) 38 dX8_check_37 rfl rfl ?_
  refine e_getR (M := mX8_check) dX8_check_38 fl_8026 (x_kk rfl) (x_kk rfl) rfl hS ?_
  refine e_getI (M := mX8_check) dX8_check_41 fl_8067 (x_kk rfl) (sl_lt hβ 0 rfl) (sl_s hβ 0 rfl rfl) ?_
  refine f_iconst (M := mX8_check) 45 dX8_check_44 ki_3 rfl ?_
  refine e_icmp_neT (M := mX8_check) 66 dX8_check_45 rfl (by rw [h_ph H]; exact h3) ?_
  refine f_iconst (M := mX8_check) 67 dX8_check_66 ki_0 rfl ?_
  exact e_cSX (M := mX8_check) 3 18 dX8_check_67 pa_8037 cc_8037 rfl rfl rfl rfl rfl (x_kk rfl) (x_kk rfl) rfl (c_X8_requireState_x rfl) rfl
theorem kf_check_4 {N β : Nat} {a : Nat → Int32} {b : Nat → Int64} (H : y_CS N I L R β a b) {Ns Np Nl Nm : Nat} (Z : y_Z a Ns Np Nl Nm) {g : Int32} {e : Int32} {q : Nat} (hq : q < Nl) (h1 : 1 ≤ g ∧ g ≤ 10000) (h2 : 0 ≤ e ∧ e ≤ 100) (h3 : a 0 = 3) (h4 : ¬ (a (366 + 4 * q + 3) = -1)) : x_Cv X mX8_check [.ref 0, .int (Int32.ofNat q), .int g, .int e] (I, L, R) 233 (.inr 0, (I, L, R), 233) := by
  obtain ⟨hNs, hn, hNp, hp, hNl, hl, hNm, hmm⟩ := Z
  have hR := h_R H
  have hβ := h_β H
  have hS := h_S H
  show x_Ev X mX8_check 0 [some (.ref 0), some (.int (Int32.ofNat q)), some (.int g), some (.int e), none] [] ((I, L, R), 233, 0, 0) _
  refine f_aload_n (M := mX8_check) 1 dX8_check_0 rfl rfl ?_
  refine f_iload_n (M := mX8_check) 2 dX8_check_1 rfl rfl ?_
  refine e_cV (M := mX8_check) [_] 0 0 dX8_check_2 pa_8262 pb_8262 cc_8262 rfl rfl rfl rfl rfl (x_kk rfl) (x_kk rfl) rfl (k_isLoad H) rfl ?_
  refine e_cS (M := mX8_check) [] 1 6 dX8_check_5 pa_8103 cc_8103 rfl rfl rfl rfl rfl (x_kk rfl) (x_kk rfl) rfl (c_X8_requireExisting (x_bn (in_ok hl (by omega) hq))) rfl ?_
  refine f_iload_n (M := mX8_check) 9 dX8_check_8 rfl rfl ?_
  refine f_iconst (M := mX8_check) 10 dX8_check_9 ki_1 rfl ?_
  refine f_sipush (M := mX8_check) 13 dX8_check_10 ks_10000 rfl ?_
  refine e_cS (M := mX8_check) [_] 1 6 dX8_check_13 pa_8049 cc_8049 rfl rfl rfl rfl rfl (x_kk rfl) (x_kk rfl) rfl (c_X8_isIn (lo := 1) (hi := 10000)) rfl ?_
  refine e_if_eqF (M := mX8_check) 33 dX8_check_16 rfl (x_bn h1) ?_
  refine f_iload_n (M := mX8_check) 20 dX8_check_19 rfl rfl ?_
  refine f_iconst (M := mX8_check) 21 dX8_check_20 ki_0 rfl ?_
  refine f_bipush (M := mX8_check) 23 dX8_check_21 kb_100 rfl ?_
  refine e_cS (M := mX8_check) [_] 1 6 dX8_check_23 pa_8049 cc_8049 rfl rfl rfl rfl rfl (x_kk rfl) (x_kk rfl) rfl (c_X8_isIn (lo := 0) (hi := 100)) rfl ?_
  refine e_if_eqF (M := mX8_check) 33 dX8_check_26 rfl (x_bn h2) ?_
  refine f_iconst (M := mX8_check) 30 dX8_check_29 ki_1 rfl ?_
  refine f_goto (M := mX8_check) 34 dX8_check_30 rfl ?_
  refine e_cS (M := mX8_check) [] 2 12 dX8_check_34 pa_8053 cc_8053 rfl rfl rfl rfl rfl (x_kk rfl) (x_kk rfl) rfl (c_X8_requireArgument (by decide)) rfl ?_
  refine f_aload_n (M := mX8_check) 38 dX8_check_37 rfl rfl ?_
  refine e_getR (M := mX8_check) dX8_check_38 fl_8026 (x_kk rfl) (x_kk rfl) rfl hS ?_
  refine e_getI (M := mX8_check) dX8_check_41 fl_8067 (x_kk rfl) (sl_lt hβ 0 rfl) (sl_s hβ 0 rfl rfl) ?_
  refine f_iconst (M := mX8_check) 45 dX8_check_44 ki_3 rfl ?_
  refine e_icmp_neF (M := mX8_check) 66 dX8_check_45 rfl (fun z => z (by rw [h_ph H]; exact h3)) ?_
  refine f_aload_n (M := mX8_check) 49 dX8_check_48 rfl rfl ?_
  refine e_getR (M := mX8_check) dX8_check_49 fl_8026 (x_kk rfl) (x_kk rfl) rfl hS ?_
  refine e_getR (M := mX8_check) dX8_check_52 fl_8245 (x_kk rfl) (sl_lt hβ 0 rfl) (sl_s hβ 0 rfl rfl) (wf_6_5 hR hβ) ?_
  refine f_iload_n (M := mX8_check) 56 dX8_check_55 rfl rfl ?_
  refine e_cV (M := mX8_check) [_] 2 12 dX8_check_56 pa_8265 pb_8265 cc_8265 rfl rfl rfl rfl rfl (x_kk rfl) (x_kk rfl) (x_rcvOK (sl_lt hβ 17 rfl) (sl_s hβ 17 rfl rfl) rfl) (k_isChecked H hNl hl hq) rfl ?_
  refine e_if_neT (M := mX8_check) 66 dX8_check_59 rfl (x_bn h4) ?_
  refine f_iconst (M := mX8_check) 67 dX8_check_66 ki_0 rfl ?_
  exact e_cSX (M := mX8_check) 3 18 dX8_check_67 pa_8037 cc_8037 rfl rfl rfl rfl rfl (x_kk rfl) (x_kk rfl) rfl (c_X8_requireState_x rfl) rfl
theorem mf_check_0 (hR : x_wf R) {Ns Np Nl Nm : Nat} (Z : y_Z (I 226) Ns Np Nl Nm) {u : Int32} {g : Int32} {e : Int32} (h0 : ¬ (0 ≤ u ∧ u ≤ I 226 14 - 1)) : x_Cv X mX9_check [.ref 225, .int u, .int g, .int e] (I, L, R) 233 (.inl (some (.int (0))), (x_tw I 1, L, R), 233) := by
  obtain ⟨hNs, hn, hNp, hp, hNl, hl, hNm, hmm⟩ := Z
  show x_Ev X mX9_check 0 [some (.ref 225), some (.int u), some (.int g), some (.int e)] [] ((I, L, R), 233, 0, 0) _
  refine f_aload_n (M := mX9_check) 1 dX9_check_0 rfl rfl ?_
  refine f_aload_n (M := mX9_check) 2 dX9_check_1 rfl rfl ?_
  refine f_iload_n (M := mX9_check) 3 dX9_check_2 rfl rfl ?_
  refine e_cV (M := mX9_check) [_, _] 0 0 dX9_check_3 pa_9255 pb_9255 cc_9255 rfl rfl rfl rfl rfl (x_kk rfl) (x_kk rfl) rfl (c_X9_isLoad hR) rfl ?_
  refine e_if_neF (M := mX9_check) 13 dX9_check_6 rfl (x_bnn h0) ?_
  refine f_iconst (M := mX9_check) 10 dX9_check_9 ki_1 rfl ?_
  refine f_goto (M := mX9_check) 50 dX9_check_10 rfl ?_
  refine e_putI (M := mX9_check) dX9_check_50 fl_9033 (x_kk rfl) (x_kk rfl) rfl (fun q9 => Bool.noConfusion q9) ?_
  refine f_aload_n (M := mX9_check) 54 dX9_check_53 rfl rfl ?_
  refine e_getI (M := mX9_check) dX9_check_54 fl_9033 (x_kk rfl) (x_kk rfl) rfl ?_
  refine e_if_leF (M := mX9_check) 62 dX9_check_57 rfl (show ¬ ((1 : Int32) ≤ 0) by decide) ?_
  refine f_iconst (M := mX9_check) 61 dX9_check_60 ki_0 rfl ?_
  refine e_ri (M := mX9_check) dX9_check_61 rfl (x_kk rfl) (x_kk rfl) ?_
  rfl
theorem mf_check_1 (hR : x_wf R) {Ns Np Nl Nm : Nat} (Z : y_Z (I 226) Ns Np Nl Nm) {g : Int32} {e : Int32} {q : Nat} (hq : q < Nl) (h1 : ¬ (1 ≤ g ∧ g ≤ 10000)) : x_Cv X mX9_check [.ref 225, .int (Int32.ofNat q), .int g, .int e] (I, L, R) 233 (.inl (some (.int (0))), (x_tw I 2, L, R), 233) := by
  obtain ⟨hNs, hn, hNp, hp, hNl, hl, hNm, hmm⟩ := Z
  show x_Ev X mX9_check 0 [some (.ref 225), some (.int (Int32.ofNat q)), some (.int g), some (.int e)] [] ((I, L, R), 233, 0, 0) _
  refine f_aload_n (M := mX9_check) 1 dX9_check_0 rfl rfl ?_
  refine f_aload_n (M := mX9_check) 2 dX9_check_1 rfl rfl ?_
  refine f_iload_n (M := mX9_check) 3 dX9_check_2 rfl rfl ?_
  refine e_cV (M := mX9_check) [_, _] 0 0 dX9_check_3 pa_9255 pb_9255 cc_9255 rfl rfl rfl rfl rfl (x_kk rfl) (x_kk rfl) rfl (c_X9_isLoad hR) rfl ?_
  refine e_if_neT (M := mX9_check) 13 dX9_check_6 rfl (x_bn (in_ok hl (by omega) hq)) ?_
  refine f_iload_n (M := mX9_check) 14 dX9_check_13 rfl rfl ?_
  refine f_iload_n (M := mX9_check) 15 dX9_check_14 rfl rfl ?_
  refine e_cS (M := mX9_check) [_, _] 0 0 dX9_check_15 pa_9249 cc_9249 rfl rfl rfl rfl rfl (x_kk rfl) (x_kk rfl) rfl (c_X9_isScaled) rfl ?_
  refine e_if_neF (M := mX9_check) 25 dX9_check_18 rfl (x_bnn (fun z => h1 z.1)) ?_
  refine f_iconst (M := mX9_check) 22 dX9_check_21 ki_2 rfl ?_
  refine f_goto (M := mX9_check) 50 dX9_check_22 rfl ?_
  refine e_putI (M := mX9_check) dX9_check_50 fl_9033 (x_kk rfl) (x_kk rfl) rfl (fun q9 => Bool.noConfusion q9) ?_
  refine f_aload_n (M := mX9_check) 54 dX9_check_53 rfl rfl ?_
  refine e_getI (M := mX9_check) dX9_check_54 fl_9033 (x_kk rfl) (x_kk rfl) rfl ?_
  refine e_if_leF (M := mX9_check) 62 dX9_check_57 rfl (show ¬ ((2 : Int32) ≤ 0) by decide) ?_
  refine f_iconst (M := mX9_check) 61 dX9_check_60 ki_0 rfl ?_
  refine e_ri (M := mX9_check) dX9_check_61 rfl (x_kk rfl) (x_kk rfl) ?_
  rfl
theorem mf_check_2 (hR : x_wf R) {Ns Np Nl Nm : Nat} (Z : y_Z (I 226) Ns Np Nl Nm) {g : Int32} {e : Int32} {q : Nat} (hq : q < Nl) (h1 : 1 ≤ g ∧ g ≤ 10000) (h2 : ¬ (0 ≤ e ∧ e ≤ 100)) : x_Cv X mX9_check [.ref 225, .int (Int32.ofNat q), .int g, .int e] (I, L, R) 233 (.inl (some (.int (0))), (x_tw I 2, L, R), 233) := by
  obtain ⟨hNs, hn, hNp, hp, hNl, hl, hNm, hmm⟩ := Z
  show x_Ev X mX9_check 0 [some (.ref 225), some (.int (Int32.ofNat q)), some (.int g), some (.int e)] [] ((I, L, R), 233, 0, 0) _
  refine f_aload_n (M := mX9_check) 1 dX9_check_0 rfl rfl ?_
  refine f_aload_n (M := mX9_check) 2 dX9_check_1 rfl rfl ?_
  refine f_iload_n (M := mX9_check) 3 dX9_check_2 rfl rfl ?_
  refine e_cV (M := mX9_check) [_, _] 0 0 dX9_check_3 pa_9255 pb_9255 cc_9255 rfl rfl rfl rfl rfl (x_kk rfl) (x_kk rfl) rfl (c_X9_isLoad hR) rfl ?_
  refine e_if_neT (M := mX9_check) 13 dX9_check_6 rfl (x_bn (in_ok hl (by omega) hq)) ?_
  refine f_iload_n (M := mX9_check) 14 dX9_check_13 rfl rfl ?_
  refine f_iload_n (M := mX9_check) 15 dX9_check_14 rfl rfl ?_
  refine e_cS (M := mX9_check) [_, _] 0 0 dX9_check_15 pa_9249 cc_9249 rfl rfl rfl rfl rfl (x_kk rfl) (x_kk rfl) rfl (c_X9_isScaled) rfl ?_
  refine e_if_neF (M := mX9_check) 25 dX9_check_18 rfl (x_bnn (fun z => h2 z.2)) ?_
  refine f_iconst (M := mX9_check) 22 dX9_check_21 ki_2 rfl ?_
  refine f_goto (M := mX9_check) 50 dX9_check_22 rfl ?_
  refine e_putI (M := mX9_check) dX9_check_50 fl_9033 (x_kk rfl) (x_kk rfl) rfl (fun q9 => Bool.noConfusion q9) ?_
  refine f_aload_n (M := mX9_check) 54 dX9_check_53 rfl rfl ?_
  refine e_getI (M := mX9_check) dX9_check_54 fl_9033 (x_kk rfl) (x_kk rfl) rfl ?_
  refine e_if_leF (M := mX9_check) 62 dX9_check_57 rfl (show ¬ ((2 : Int32) ≤ 0) by decide) ?_
  refine f_iconst (M := mX9_check) 61 dX9_check_60 ki_0 rfl ?_
  refine e_ri (M := mX9_check) dX9_check_61 rfl (x_kk rfl) (x_kk rfl) ?_
  rfl
theorem mf_check_3 (hR : x_wf R) {Ns Np Nl Nm : Nat} (Z : y_Z (I 226) Ns Np Nl Nm) {g : Int32} {e : Int32} {q : Nat} (hq : q < Nl) (h1 : 1 ≤ g ∧ g ≤ 10000) (h2 : 0 ≤ e ∧ e ≤ 100) (h3 : ¬ (I 226 0 = 3)) : x_Cv X mX9_check [.ref 225, .int (Int32.ofNat q), .int g, .int e] (I, L, R) 233 (.inl (some (.int (0))), (x_tw I 3, L, R), 233) := by
  obtain ⟨hNs, hn, hNp, hp, hNl, hl, hNm, hmm⟩ := Z
  show x_Ev X mX9_check 0 [some (.ref 225), some (.int (Int32.ofNat q)), some (.int g), some (.int e)] [] ((I, L, R), 233, 0, 0) _
  refine f_aload_n (M := mX9_check) 1 dX9_check_0 rfl rfl ?_
  refine f_aload_n (M := mX9_check) 2 dX9_check_1 rfl rfl ?_
  refine f_iload_n (M := mX9_check) 3 dX9_check_2 rfl rfl ?_
  refine e_cV (M := mX9_check) [_, _] 0 0 dX9_check_3 pa_9255 pb_9255 cc_9255 rfl rfl rfl rfl rfl (x_kk rfl) (x_kk rfl) rfl (c_X9_isLoad hR) rfl ?_
  refine e_if_neT (M := mX9_check) 13 dX9_check_6 rfl (x_bn (in_ok hl (by omega) hq)) ?_
  refine f_iload_n (M := mX9_check) 14 dX9_check_13 rfl rfl ?_
  refine f_iload_n (M := mX9_check) 15 dX9_check_14 rfl rfl ?_
  refine e_cS (M := mX9_check) [_, _] 0 0 dX9_check_15 pa_9249 cc_9249 rfl rfl rfl rfl rfl (x_kk rfl) (x_kk rfl) rfl (c_X9_isScaled) rfl ?_
  refine e_if_neT (M := mX9_check) 25 dX9_check_18 rfl (x_bn ⟨h1, h2⟩) ?_
  refine f_aload_n (M := mX9_check) 26 dX9_check_25 rfl rfl ?_
  refine e_getR (M := mX9_check) dX9_check_26 fl_9007 (x_kk rfl) (x_kk rfl) rfl (wf_9_0 hR) ?_
  refine f_iconst (M := mX9_check) 30 dX9_check_29 ki_0 rfl ?_
  refine e_ild (M := mX9_check) (w := 606) (j := 0) dX9_check_30 (x_kk rfl) rfl kn_0 (by omega) (by omega) ?_
  refine f_iconst (M := mX9_check) 32 dX9_check_31 ki_3 rfl ?_
  refine e_icmp_neT (M := mX9_check) 45 dX9_check_32 rfl h3 ?_
  refine f_iconst (M := mX9_check) 46 dX9_check_45 ki_3 rfl ?_
  refine f_goto (M := mX9_check) 50 dX9_check_46 rfl ?_
  refine e_putI (M := mX9_check) dX9_check_50 fl_9033 (x_kk rfl) (x_kk rfl) rfl (fun q9 => Bool.noConfusion q9) ?_
  refine f_aload_n (M := mX9_check) 54 dX9_check_53 rfl rfl ?_
  refine e_getI (M := mX9_check) dX9_check_54 fl_9033 (x_kk rfl) (x_kk rfl) rfl ?_
  refine e_if_leF (M := mX9_check) 62 dX9_check_57 rfl (show ¬ ((3 : Int32) ≤ 0) by decide) ?_
  refine f_iconst (M := mX9_check) 61 dX9_check_60 ki_0 rfl ?_
  refine e_ri (M := mX9_check) dX9_check_61 rfl (x_kk rfl) (x_kk rfl) ?_
  rfl
theorem mf_check_4 (hR : x_wf R) {Ns Np Nl Nm : Nat} (Z : y_Z (I 226) Ns Np Nl Nm) {g : Int32} {e : Int32} {q : Nat} (hq : q < Nl) (h1 : 1 ≤ g ∧ g ≤ 10000) (h2 : 0 ≤ e ∧ e ≤ 100) (h3 : I 226 0 = 3) (h4 : ¬ (I 226 (366 + 4 * q + 3) = -1)) : x_Cv X mX9_check [.ref 225, .int (Int32.ofNat q), .int g, .int e] (I, L, R) 233 (.inl (some (.int (0))), (x_tw I 3, L, R), 233) := by
  obtain ⟨hNs, hn, hNp, hp, hNl, hl, hNm, hmm⟩ := Z
  show x_Ev X mX9_check 0 [some (.ref 225), some (.int (Int32.ofNat q)), some (.int g), some (.int e)] [] ((I, L, R), 233, 0, 0) _
  refine f_aload_n (M := mX9_check) 1 dX9_check_0 rfl rfl ?_
  refine f_aload_n (M := mX9_check) 2 dX9_check_1 rfl rfl ?_
  refine f_iload_n (M := mX9_check) 3 dX9_check_2 rfl rfl ?_
  refine e_cV (M := mX9_check) [_, _] 0 0 dX9_check_3 pa_9255 pb_9255 cc_9255 rfl rfl rfl rfl rfl (x_kk rfl) (x_kk rfl) rfl (c_X9_isLoad hR) rfl ?_
  refine e_if_neT (M := mX9_check) 13 dX9_check_6 rfl (x_bn (in_ok hl (by omega) hq)) ?_
  refine f_iload_n (M := mX9_check) 14 dX9_check_13 rfl rfl ?_
  refine f_iload_n (M := mX9_check) 15 dX9_check_14 rfl rfl ?_
  refine e_cS (M := mX9_check) [_, _] 0 0 dX9_check_15 pa_9249 cc_9249 rfl rfl rfl rfl rfl (x_kk rfl) (x_kk rfl) rfl (c_X9_isScaled) rfl ?_
  refine e_if_neT (M := mX9_check) 25 dX9_check_18 rfl (x_bn ⟨h1, h2⟩) ?_
  refine f_aload_n (M := mX9_check) 26 dX9_check_25 rfl rfl ?_
  refine e_getR (M := mX9_check) dX9_check_26 fl_9007 (x_kk rfl) (x_kk rfl) rfl (wf_9_0 hR) ?_
  refine f_iconst (M := mX9_check) 30 dX9_check_29 ki_0 rfl ?_
  refine e_ild (M := mX9_check) (w := 606) (j := 0) dX9_check_30 (x_kk rfl) rfl kn_0 (by omega) (by omega) ?_
  refine f_iconst (M := mX9_check) 32 dX9_check_31 ki_3 rfl ?_
  refine e_icmp_neF (M := mX9_check) 45 dX9_check_32 rfl (fun z => z h3) ?_
  refine f_aload_n (M := mX9_check) 36 dX9_check_35 rfl rfl ?_
  refine f_iload_n (M := mX9_check) 37 dX9_check_36 rfl rfl ?_
  refine f_iconst (M := mX9_check) 38 dX9_check_37 ki_3 rfl ?_
  refine e_cV (M := mX9_check) [_, _] 0 0 dX9_check_38 pa_9258 pb_9258 cc_9258 rfl rfl rfl rfl rfl (x_kk rfl) (x_kk rfl) rfl (c_X9_ofLoad (j := 3) hR (by omega) (by omega)) rfl ?_
  refine f_iconst (M := mX9_check) 42 dX9_check_41 ki_m1 rfl ?_
  refine e_icmp_eqF (M := mX9_check) 49 dX9_check_42 rfl h4 ?_
  refine f_iconst (M := mX9_check) 46 dX9_check_45 ki_3 rfl ?_
  refine f_goto (M := mX9_check) 50 dX9_check_46 rfl ?_
  refine e_putI (M := mX9_check) dX9_check_50 fl_9033 (x_kk rfl) (x_kk rfl) rfl (fun q9 => Bool.noConfusion q9) ?_
  refine f_aload_n (M := mX9_check) 54 dX9_check_53 rfl rfl ?_
  refine e_getI (M := mX9_check) dX9_check_54 fl_9033 (x_kk rfl) (x_kk rfl) rfl ?_
  refine e_if_leF (M := mX9_check) 62 dX9_check_57 rfl (show ¬ ((3 : Int32) ≤ 0) by decide) ?_
  refine f_iconst (M := mX9_check) 61 dX9_check_60 ki_0 rfl ?_
  refine e_ri (M := mX9_check) dX9_check_61 rfl (x_kk rfl) (x_kk rfl) ?_
  rfl
theorem kf_voidLoad_0 {N β : Nat} {a : Nat → Int32} {b : Nat → Int64} (H : y_CS N I L R β a b) {Ns Np Nl Nm : Nat} (Z : y_Z a Ns Np Nl Nm) {u : Int32} (h0 : ¬ (0 ≤ u ∧ u ≤ a 14 - 1)) : x_Cv X mX8_voidLoad [.ref 0, .int u] (I, L, R) 233 (.inr 2, (I, L, R), 233) := by
  obtain ⟨hNs, hn, hNp, hp, hNl, hl, hNm, hmm⟩ := Z
  have hR := h_R H
  have hβ := h_β H
  have hS := h_S H
  show x_Ev X mX8_voidLoad 0 [some (.ref 0), some (.int u)] [] ((I, L, R), 233, 0, 0) _
  refine f_aload_n (M := mX8_voidLoad) 1 dX8_voidLoad_0 rfl rfl ?_
  refine f_iload_n (M := mX8_voidLoad) 2 dX8_voidLoad_1 rfl rfl ?_
  refine e_cV (M := mX8_voidLoad) [_] 0 0 dX8_voidLoad_2 pa_8262 pb_8262 cc_8262 rfl rfl rfl rfl rfl (x_kk rfl) (x_kk rfl) rfl (k_isLoad H) rfl ?_
  exact e_cSX (M := mX8_voidLoad) 1 6 dX8_voidLoad_5 pa_8103 cc_8103 rfl rfl rfl rfl rfl (x_kk rfl) (x_kk rfl) rfl (c_X8_requireExisting_x (x_b0 h0)) rfl
theorem kf_voidLoad_1 {N β : Nat} {a : Nat → Int32} {b : Nat → Int64} (H : y_CS N I L R β a b) {Ns Np Nl Nm : Nat} (Z : y_Z a Ns Np Nl Nm) {q : Nat} (hq : q < Nl) (h1 : ¬ (a 0 = 3)) : x_Cv X mX8_voidLoad [.ref 0, .int (Int32.ofNat q)] (I, L, R) 233 (.inr 0, (I, L, R), 233) := by
  obtain ⟨hNs, hn, hNp, hp, hNl, hl, hNm, hmm⟩ := Z
  have hR := h_R H
  have hβ := h_β H
  have hS := h_S H
  show x_Ev X mX8_voidLoad 0 [some (.ref 0), some (.int (Int32.ofNat q))] [] ((I, L, R), 233, 0, 0) _
  refine f_aload_n (M := mX8_voidLoad) 1 dX8_voidLoad_0 rfl rfl ?_
  refine f_iload_n (M := mX8_voidLoad) 2 dX8_voidLoad_1 rfl rfl ?_
  refine e_cV (M := mX8_voidLoad) [_] 0 0 dX8_voidLoad_2 pa_8262 pb_8262 cc_8262 rfl rfl rfl rfl rfl (x_kk rfl) (x_kk rfl) rfl (k_isLoad H) rfl ?_
  refine e_cS (M := mX8_voidLoad) [] 1 6 dX8_voidLoad_5 pa_8103 cc_8103 rfl rfl rfl rfl rfl (x_kk rfl) (x_kk rfl) rfl (c_X8_requireExisting (x_bn (in_ok hl (by omega) hq))) rfl ?_
  refine f_aload_n (M := mX8_voidLoad) 9 dX8_voidLoad_8 rfl rfl ?_
  refine e_getR (M := mX8_voidLoad) dX8_voidLoad_9 fl_8026 (x_kk rfl) (x_kk rfl) rfl hS ?_
  refine e_getI (M := mX8_voidLoad) dX8_voidLoad_12 fl_8067 (x_kk rfl) (sl_lt hβ 0 rfl) (sl_s hβ 0 rfl rfl) ?_
  refine f_iconst (M := mX8_voidLoad) 16 dX8_voidLoad_15 ki_3 rfl ?_
  refine e_icmp_neT (M := mX8_voidLoad) 62 dX8_voidLoad_16 rfl (by rw [h_ph H]; exact h1) ?_
  refine f_iconst (M := mX8_voidLoad) 63 dX8_voidLoad_62 ki_0 rfl ?_
  exact e_cSX (M := mX8_voidLoad) 2 12 dX8_voidLoad_63 pa_8037 cc_8037 rfl rfl rfl rfl rfl (x_kk rfl) (x_kk rfl) rfl (c_X8_requireState_x rfl) rfl
theorem kf_voidLoad_2 {N β : Nat} {a : Nat → Int32} {b : Nat → Int64} (H : y_CS N I L R β a b) {Ns Np Nl Nm : Nat} (Z : y_Z a Ns Np Nl Nm) {q : Nat} (hq : q < Nl) (h1 : a 0 = 3) (h2 : ¬ (a (366 + 4 * q + 1) = a 13)) : x_Cv X mX8_voidLoad [.ref 0, .int (Int32.ofNat q)] (I, L, R) 233 (.inr 0, (I, L, R), 233) := by
  obtain ⟨hNs, hn, hNp, hp, hNl, hl, hNm, hmm⟩ := Z
  have hR := h_R H
  have hβ := h_β H
  have hS := h_S H
  show x_Ev X mX8_voidLoad 0 [some (.ref 0), some (.int (Int32.ofNat q))] [] ((I, L, R), 233, 0, 0) _
  refine f_aload_n (M := mX8_voidLoad) 1 dX8_voidLoad_0 rfl rfl ?_
  refine f_iload_n (M := mX8_voidLoad) 2 dX8_voidLoad_1 rfl rfl ?_
  refine e_cV (M := mX8_voidLoad) [_] 0 0 dX8_voidLoad_2 pa_8262 pb_8262 cc_8262 rfl rfl rfl rfl rfl (x_kk rfl) (x_kk rfl) rfl (k_isLoad H) rfl ?_
  refine e_cS (M := mX8_voidLoad) [] 1 6 dX8_voidLoad_5 pa_8103 cc_8103 rfl rfl rfl rfl rfl (x_kk rfl) (x_kk rfl) rfl (c_X8_requireExisting (x_bn (in_ok hl (by omega) hq))) rfl ?_
  refine f_aload_n (M := mX8_voidLoad) 9 dX8_voidLoad_8 rfl rfl ?_
  refine e_getR (M := mX8_voidLoad) dX8_voidLoad_9 fl_8026 (x_kk rfl) (x_kk rfl) rfl hS ?_
  refine e_getI (M := mX8_voidLoad) dX8_voidLoad_12 fl_8067 (x_kk rfl) (sl_lt hβ 0 rfl) (sl_s hβ 0 rfl rfl) ?_
  refine f_iconst (M := mX8_voidLoad) 16 dX8_voidLoad_15 ki_3 rfl ?_
  refine e_icmp_neF (M := mX8_voidLoad) 62 dX8_voidLoad_16 rfl (fun z => z (by rw [h_ph H]; exact h1)) ?_
  refine f_aload_n (M := mX8_voidLoad) 20 dX8_voidLoad_19 rfl rfl ?_
  refine e_getR (M := mX8_voidLoad) dX8_voidLoad_20 fl_8026 (x_kk rfl) (x_kk rfl) rfl hS ?_
  refine e_getR (M := mX8_voidLoad) dX8_voidLoad_23 fl_8245 (x_kk rfl) (sl_lt hβ 0 rfl) (sl_s hβ 0 rfl rfl) (wf_6_5 hR hβ) ?_
  refine e_getR (M := mX8_voidLoad) dX8_voidLoad_26 fl_8274 (x_kk rfl) (sl_lt hβ 17 rfl) (sl_s hβ 17 rfl rfl) (wf_4_4 hR hβ) ?_
  refine f_iload_n (M := mX8_voidLoad) 30 dX8_voidLoad_29 rfl rfl ?_
  refine e_ild (M := mX8_voidLoad) (w := 60) (j := q) dX8_voidLoad_30 (sl_lt hβ 19 rfl) (sl_shp hβ 19 rfl) rfl (by omega) (by omega) ?_
  refine f_aload_n (M := mX8_voidLoad) 32 dX8_voidLoad_31 rfl rfl ?_
  refine e_getR (M := mX8_voidLoad) dX8_voidLoad_32 fl_8026 (x_kk rfl) (x_kk rfl) rfl hS ?_
  refine e_getR (M := mX8_voidLoad) dX8_voidLoad_35 fl_8227 (x_kk rfl) (sl_lt hβ 0 rfl) (sl_s hβ 0 rfl rfl) (wf_6_4 hR hβ) ?_
  refine e_getI (M := mX8_voidLoad) dX8_voidLoad_38 fl_8254 (x_kk rfl) (sl_lt hβ 12 rfl) (sl_s hβ 12 rfl rfl) ?_
  refine e_icmp_neT (M := mX8_voidLoad) 62 dX8_voidLoad_41 rfl (by rw [(RL_k (h_L H) hNl hl hq).2.1, (h_K H).2.2.2.2.2.1]; exact h2) ?_
  refine f_iconst (M := mX8_voidLoad) 63 dX8_voidLoad_62 ki_0 rfl ?_
  exact e_cSX (M := mX8_voidLoad) 2 12 dX8_voidLoad_63 pa_8037 cc_8037 rfl rfl rfl rfl rfl (x_kk rfl) (x_kk rfl) rfl (c_X8_requireState_x rfl) rfl
theorem kf_voidLoad_3 {N β : Nat} {a : Nat → Int32} {b : Nat → Int64} (H : y_CS N I L R β a b) {Ns Np Nl Nm : Nat} (Z : y_Z a Ns Np Nl Nm) {q : Nat} (hq : q < Nl) (h1 : a 0 = 3) (h2 : a (366 + 4 * q + 1) = a 13) (h3 : ¬ (a (366 + 4 * q + 3) = -1)) : x_Cv X mX8_voidLoad [.ref 0, .int (Int32.ofNat q)] (I, L, R) 233 (.inr 0, (I, L, R), 233) := by
  obtain ⟨hNs, hn, hNp, hp, hNl, hl, hNm, hmm⟩ := Z
  have hR := h_R H
  have hβ := h_β H
  have hS := h_S H
  show x_Ev X mX8_voidLoad 0 [some (.ref 0), some (.int (Int32.ofNat q))] [] ((I, L, R), 233, 0, 0) _
  refine f_aload_n (M := mX8_voidLoad) 1 dX8_voidLoad_0 rfl rfl ?_
  refine f_iload_n (M := mX8_voidLoad) 2 dX8_voidLoad_1 rfl rfl ?_
  refine e_cV (M := mX8_voidLoad) [_] 0 0 dX8_voidLoad_2 pa_8262 pb_8262 cc_8262 rfl rfl rfl rfl rfl (x_kk rfl) (x_kk rfl) rfl (k_isLoad H) rfl ?_
  refine e_cS (M := mX8_voidLoad) [] 1 6 dX8_voidLoad_5 pa_8103 cc_8103 rfl rfl rfl rfl rfl (x_kk rfl) (x_kk rfl) rfl (c_X8_requireExisting (x_bn (in_ok hl (by omega) hq))) rfl ?_
  refine f_aload_n (M := mX8_voidLoad) 9 dX8_voidLoad_8 rfl rfl ?_
  refine e_getR (M := mX8_voidLoad) dX8_voidLoad_9 fl_8026 (x_kk rfl) (x_kk rfl) rfl hS ?_
  refine e_getI (M := mX8_voidLoad) dX8_voidLoad_12 fl_8067 (x_kk rfl) (sl_lt hβ 0 rfl) (sl_s hβ 0 rfl rfl) ?_
  refine f_iconst (M := mX8_voidLoad) 16 dX8_voidLoad_15 ki_3 rfl ?_
  refine e_icmp_neF (M := mX8_voidLoad) 62 dX8_voidLoad_16 rfl (fun z => z (by rw [h_ph H]; exact h1)) ?_
  refine f_aload_n (M := mX8_voidLoad) 20 dX8_voidLoad_19 rfl rfl ?_
  refine e_getR (M := mX8_voidLoad) dX8_voidLoad_20 fl_8026 (x_kk rfl) (x_kk rfl) rfl hS ?_
  refine e_getR (M := mX8_voidLoad) dX8_voidLoad_23 fl_8245 (x_kk rfl) (sl_lt hβ 0 rfl) (sl_s hβ 0 rfl rfl) (wf_6_5 hR hβ) ?_
  refine e_getR (M := mX8_voidLoad) dX8_voidLoad_26 fl_8274 (x_kk rfl) (sl_lt hβ 17 rfl) (sl_s hβ 17 rfl rfl) (wf_4_4 hR hβ) ?_
  refine f_iload_n (M := mX8_voidLoad) 30 dX8_voidLoad_29 rfl rfl ?_
  refine e_ild (M := mX8_voidLoad) (w := 60) (j := q) dX8_voidLoad_30 (sl_lt hβ 19 rfl) (sl_shp hβ 19 rfl) rfl (by omega) (by omega) ?_
  refine f_aload_n (M := mX8_voidLoad) 32 dX8_voidLoad_31 rfl rfl ?_
  refine e_getR (M := mX8_voidLoad) dX8_voidLoad_32 fl_8026 (x_kk rfl) (x_kk rfl) rfl hS ?_
  refine e_getR (M := mX8_voidLoad) dX8_voidLoad_35 fl_8227 (x_kk rfl) (sl_lt hβ 0 rfl) (sl_s hβ 0 rfl rfl) (wf_6_4 hR hβ) ?_
  refine e_getI (M := mX8_voidLoad) dX8_voidLoad_38 fl_8254 (x_kk rfl) (sl_lt hβ 12 rfl) (sl_s hβ 12 rfl rfl) ?_
  refine e_icmp_neF (M := mX8_voidLoad) 62 dX8_voidLoad_41 rfl (fun z => z (by rw [(RL_k (h_L H) hNl hl hq).2.1, (h_K H).2.2.2.2.2.1]; exact h2)) ?_
  refine f_aload_n (M := mX8_voidLoad) 45 dX8_voidLoad_44 rfl rfl ?_
  refine e_getR (M := mX8_voidLoad) dX8_voidLoad_45 fl_8026 (x_kk rfl) (x_kk rfl) rfl hS ?_
  refine e_getR (M := mX8_voidLoad) dX8_voidLoad_48 fl_8245 (x_kk rfl) (sl_lt hβ 0 rfl) (sl_s hβ 0 rfl rfl) (wf_6_5 hR hβ) ?_
  refine f_iload_n (M := mX8_voidLoad) 52 dX8_voidLoad_51 rfl rfl ?_
  refine e_cV (M := mX8_voidLoad) [_] 1 6 dX8_voidLoad_52 pa_8265 pb_8265 cc_8265 rfl rfl rfl rfl rfl (x_kk rfl) (x_kk rfl) (x_rcvOK (sl_lt hβ 17 rfl) (sl_s hβ 17 rfl rfl) rfl) (k_isChecked H hNl hl hq) rfl ?_
  refine e_if_neT (M := mX8_voidLoad) 62 dX8_voidLoad_55 rfl (x_bn h3) ?_
  refine f_iconst (M := mX8_voidLoad) 63 dX8_voidLoad_62 ki_0 rfl ?_
  exact e_cSX (M := mX8_voidLoad) 2 12 dX8_voidLoad_63 pa_8037 cc_8037 rfl rfl rfl rfl rfl (x_kk rfl) (x_kk rfl) rfl (c_X8_requireState_x rfl) rfl
theorem mf_voidLoad_0 (hR : x_wf R) {Ns Np Nl Nm : Nat} (Z : y_Z (I 226) Ns Np Nl Nm) {u : Int32} (h0 : ¬ (0 ≤ u ∧ u ≤ I 226 14 - 1)) : x_Cv X mX9_voidLoad [.ref 225, .int u] (I, L, R) 233 (.inl (some (.int (0))), (x_tw I 1, L, R), 233) := by
  obtain ⟨hNs, hn, hNp, hp, hNl, hl, hNm, hmm⟩ := Z
  show x_Ev X mX9_voidLoad 0 [some (.ref 225), some (.int u), none] [] ((I, L, R), 233, 0, 0) _
  refine f_aload_n (M := mX9_voidLoad) 1 dX9_voidLoad_0 rfl rfl ?_
  refine f_aload_n (M := mX9_voidLoad) 2 dX9_voidLoad_1 rfl rfl ?_
  refine f_iload_n (M := mX9_voidLoad) 3 dX9_voidLoad_2 rfl rfl ?_
  refine e_cV (M := mX9_voidLoad) [_, _] 0 0 dX9_voidLoad_3 pa_9255 pb_9255 cc_9255 rfl rfl rfl rfl rfl (x_kk rfl) (x_kk rfl) rfl (c_X9_isLoad hR) rfl ?_
  refine e_if_neF (M := mX9_voidLoad) 13 dX9_voidLoad_6 rfl (x_bnn h0) ?_
  refine f_iconst (M := mX9_voidLoad) 10 dX9_voidLoad_9 ki_1 rfl ?_
  refine f_goto (M := mX9_voidLoad) 54 dX9_voidLoad_10 rfl ?_
  refine e_putI (M := mX9_voidLoad) dX9_voidLoad_54 fl_9033 (x_kk rfl) (x_kk rfl) rfl (fun q9 => Bool.noConfusion q9) ?_
  refine f_aload_n (M := mX9_voidLoad) 58 dX9_voidLoad_57 rfl rfl ?_
  refine e_getI (M := mX9_voidLoad) dX9_voidLoad_58 fl_9033 (x_kk rfl) (x_kk rfl) rfl ?_
  refine e_if_leF (M := mX9_voidLoad) 66 dX9_voidLoad_61 rfl (show ¬ ((1 : Int32) ≤ 0) by decide) ?_
  refine f_iconst (M := mX9_voidLoad) 65 dX9_voidLoad_64 ki_0 rfl ?_
  refine e_ri (M := mX9_voidLoad) dX9_voidLoad_65 rfl (x_kk rfl) (x_kk rfl) ?_
  rfl
theorem mf_voidLoad_1 (hR : x_wf R) {Ns Np Nl Nm : Nat} (Z : y_Z (I 226) Ns Np Nl Nm) {q : Nat} (hq : q < Nl) (h1 : ¬ (I 226 0 = 3)) : x_Cv X mX9_voidLoad [.ref 225, .int (Int32.ofNat q)] (I, L, R) 233 (.inl (some (.int (0))), (x_tw I 2, L, R), 233) := by
  obtain ⟨hNs, hn, hNp, hp, hNl, hl, hNm, hmm⟩ := Z
  show x_Ev X mX9_voidLoad 0 [some (.ref 225), some (.int (Int32.ofNat q)), none] [] ((I, L, R), 233, 0, 0) _
  refine f_aload_n (M := mX9_voidLoad) 1 dX9_voidLoad_0 rfl rfl ?_
  refine f_aload_n (M := mX9_voidLoad) 2 dX9_voidLoad_1 rfl rfl ?_
  refine f_iload_n (M := mX9_voidLoad) 3 dX9_voidLoad_2 rfl rfl ?_
  refine e_cV (M := mX9_voidLoad) [_, _] 0 0 dX9_voidLoad_3 pa_9255 pb_9255 cc_9255 rfl rfl rfl rfl rfl (x_kk rfl) (x_kk rfl) rfl (c_X9_isLoad hR) rfl ?_
  refine e_if_neT (M := mX9_voidLoad) 13 dX9_voidLoad_6 rfl (x_bn (in_ok hl (by omega) hq)) ?_
  refine f_aload_n (M := mX9_voidLoad) 14 dX9_voidLoad_13 rfl rfl ?_
  refine e_getR (M := mX9_voidLoad) dX9_voidLoad_14 fl_9007 (x_kk rfl) (x_kk rfl) rfl (wf_9_0 hR) ?_
  refine f_iconst (M := mX9_voidLoad) 18 dX9_voidLoad_17 ki_0 rfl ?_
  refine e_ild (M := mX9_voidLoad) (w := 606) (j := 0) dX9_voidLoad_18 (x_kk rfl) rfl kn_0 (by omega) (by omega) ?_
  refine f_iconst (M := mX9_voidLoad) 20 dX9_voidLoad_19 ki_3 rfl ?_
  refine e_icmp_neT (M := mX9_voidLoad) 49 dX9_voidLoad_20 rfl h1 ?_
  refine f_iconst (M := mX9_voidLoad) 50 dX9_voidLoad_49 ki_2 rfl ?_
  refine f_goto (M := mX9_voidLoad) 54 dX9_voidLoad_50 rfl ?_
  refine e_putI (M := mX9_voidLoad) dX9_voidLoad_54 fl_9033 (x_kk rfl) (x_kk rfl) rfl (fun q9 => Bool.noConfusion q9) ?_
  refine f_aload_n (M := mX9_voidLoad) 58 dX9_voidLoad_57 rfl rfl ?_
  refine e_getI (M := mX9_voidLoad) dX9_voidLoad_58 fl_9033 (x_kk rfl) (x_kk rfl) rfl ?_
  refine e_if_leF (M := mX9_voidLoad) 66 dX9_voidLoad_61 rfl (show ¬ ((2 : Int32) ≤ 0) by decide) ?_
  refine f_iconst (M := mX9_voidLoad) 65 dX9_voidLoad_64 ki_0 rfl ?_
  refine e_ri (M := mX9_voidLoad) dX9_voidLoad_65 rfl (x_kk rfl) (x_kk rfl) ?_
  rfl
theorem mf_voidLoad_2 (hR : x_wf R) {Ns Np Nl Nm : Nat} (Z : y_Z (I 226) Ns Np Nl Nm) {q : Nat} (hq : q < Nl) (h1 : I 226 0 = 3) (h2 : ¬ (I 226 (366 + 4 * q + 1) = I 226 13)) : x_Cv X mX9_voidLoad [.ref 225, .int (Int32.ofNat q)] (I, L, R) 233 (.inl (some (.int (0))), (x_tw I 2, L, R), 233) := by
  obtain ⟨hNs, hn, hNp, hp, hNl, hl, hNm, hmm⟩ := Z
  show x_Ev X mX9_voidLoad 0 [some (.ref 225), some (.int (Int32.ofNat q)), none] [] ((I, L, R), 233, 0, 0) _
  refine f_aload_n (M := mX9_voidLoad) 1 dX9_voidLoad_0 rfl rfl ?_
  refine f_aload_n (M := mX9_voidLoad) 2 dX9_voidLoad_1 rfl rfl ?_
  refine f_iload_n (M := mX9_voidLoad) 3 dX9_voidLoad_2 rfl rfl ?_
  refine e_cV (M := mX9_voidLoad) [_, _] 0 0 dX9_voidLoad_3 pa_9255 pb_9255 cc_9255 rfl rfl rfl rfl rfl (x_kk rfl) (x_kk rfl) rfl (c_X9_isLoad hR) rfl ?_
  refine e_if_neT (M := mX9_voidLoad) 13 dX9_voidLoad_6 rfl (x_bn (in_ok hl (by omega) hq)) ?_
  refine f_aload_n (M := mX9_voidLoad) 14 dX9_voidLoad_13 rfl rfl ?_
  refine e_getR (M := mX9_voidLoad) dX9_voidLoad_14 fl_9007 (x_kk rfl) (x_kk rfl) rfl (wf_9_0 hR) ?_
  refine f_iconst (M := mX9_voidLoad) 18 dX9_voidLoad_17 ki_0 rfl ?_
  refine e_ild (M := mX9_voidLoad) (w := 606) (j := 0) dX9_voidLoad_18 (x_kk rfl) rfl kn_0 (by omega) (by omega) ?_
  refine f_iconst (M := mX9_voidLoad) 20 dX9_voidLoad_19 ki_3 rfl ?_
  refine e_icmp_neF (M := mX9_voidLoad) 49 dX9_voidLoad_20 rfl (fun z => z h1) ?_
  refine f_aload_n (M := mX9_voidLoad) 24 dX9_voidLoad_23 rfl rfl ?_
  refine f_iload_n (M := mX9_voidLoad) 25 dX9_voidLoad_24 rfl rfl ?_
  refine f_iconst (M := mX9_voidLoad) 26 dX9_voidLoad_25 ki_1 rfl ?_
  refine e_cV (M := mX9_voidLoad) [_, _] 0 0 dX9_voidLoad_26 pa_9258 pb_9258 cc_9258 rfl rfl rfl rfl rfl (x_kk rfl) (x_kk rfl) rfl (c_X9_ofLoad (j := 1) hR (by omega) (by omega)) rfl ?_
  refine f_aload_n (M := mX9_voidLoad) 30 dX9_voidLoad_29 rfl rfl ?_
  refine e_getR (M := mX9_voidLoad) dX9_voidLoad_30 fl_9007 (x_kk rfl) (x_kk rfl) rfl (wf_9_0 hR) ?_
  refine f_bipush (M := mX9_voidLoad) 35 dX9_voidLoad_33 kb_13 rfl ?_
  refine e_ild (M := mX9_voidLoad) (w := 606) (j := 13) dX9_voidLoad_35 (x_kk rfl) rfl kn_13 (by omega) (by omega) ?_
  refine e_icmp_neT (M := mX9_voidLoad) 49 dX9_voidLoad_36 rfl h2 ?_
  refine f_iconst (M := mX9_voidLoad) 50 dX9_voidLoad_49 ki_2 rfl ?_
  refine f_goto (M := mX9_voidLoad) 54 dX9_voidLoad_50 rfl ?_
  refine e_putI (M := mX9_voidLoad) dX9_voidLoad_54 fl_9033 (x_kk rfl) (x_kk rfl) rfl (fun q9 => Bool.noConfusion q9) ?_
  refine f_aload_n (M := mX9_voidLoad) 58 dX9_voidLoad_57 rfl rfl ?_
  refine e_getI (M := mX9_voidLoad) dX9_voidLoad_58 fl_9033 (x_kk rfl) (x_kk rfl) rfl ?_
  refine e_if_leF (M := mX9_voidLoad) 66 dX9_voidLoad_61 rfl (show ¬ ((2 : Int32) ≤ 0) by decide) ?_
  refine f_iconst (M := mX9_voidLoad) 65 dX9_voidLoad_64 ki_0 rfl ?_
  refine e_ri (M := mX9_voidLoad) dX9_voidLoad_65 rfl (x_kk rfl) (x_kk rfl) ?_
  rfl
theorem mf_voidLoad_3 (hR : x_wf R) {Ns Np Nl Nm : Nat} (Z : y_Z (I 226) Ns Np Nl Nm) {q : Nat} (hq : q < Nl) (h1 : I 226 0 = 3) (h2 : I 226 (366 + 4 * q + 1) = I 226 13) (h3 : ¬ (I 226 (366 + 4 * q + 3) = -1)) : x_Cv X mX9_voidLoad [.ref 225, .int (Int32.ofNat q)] (I, L, R) 233 (.inl (some (.int (0))), (x_tw I 2, L, R), 233) := by
  obtain ⟨hNs, hn, hNp, hp, hNl, hl, hNm, hmm⟩ := Z
  show x_Ev X mX9_voidLoad 0 [some (.ref 225), some (.int (Int32.ofNat q)), none] [] ((I, L, R), 233, 0, 0) _
  refine f_aload_n (M := mX9_voidLoad) 1 dX9_voidLoad_0 rfl rfl ?_
  refine f_aload_n (M := mX9_voidLoad) 2 dX9_voidLoad_1 rfl rfl ?_
  refine f_iload_n (M := mX9_voidLoad) 3 dX9_voidLoad_2 rfl rfl ?_
  refine e_cV (M := mX9_voidLoad) [_, _] 0 0 dX9_voidLoad_3 pa_9255 pb_9255 cc_9255 rfl rfl rfl rfl rfl (x_kk rfl) (x_kk rfl) rfl (c_X9_isLoad hR) rfl ?_
  refine e_if_neT (M := mX9_voidLoad) 13 dX9_voidLoad_6 rfl (x_bn (in_ok hl (by omega) hq)) ?_
  refine f_aload_n (M := mX9_voidLoad) 14 dX9_voidLoad_13 rfl rfl ?_
  refine e_getR (M := mX9_voidLoad) dX9_voidLoad_14 fl_9007 (x_kk rfl) (x_kk rfl) rfl (wf_9_0 hR) ?_
  refine f_iconst (M := mX9_voidLoad) 18 dX9_voidLoad_17 ki_0 rfl ?_
  refine e_ild (M := mX9_voidLoad) (w := 606) (j := 0) dX9_voidLoad_18 (x_kk rfl) rfl kn_0 (by omega) (by omega) ?_
  refine f_iconst (M := mX9_voidLoad) 20 dX9_voidLoad_19 ki_3 rfl ?_
  refine e_icmp_neF (M := mX9_voidLoad) 49 dX9_voidLoad_20 rfl (fun z => z h1) ?_
  refine f_aload_n (M := mX9_voidLoad) 24 dX9_voidLoad_23 rfl rfl ?_
  refine f_iload_n (M := mX9_voidLoad) 25 dX9_voidLoad_24 rfl rfl ?_
  refine f_iconst (M := mX9_voidLoad) 26 dX9_voidLoad_25 ki_1 rfl ?_
  refine e_cV (M := mX9_voidLoad) [_, _] 0 0 dX9_voidLoad_26 pa_9258 pb_9258 cc_9258 rfl rfl rfl rfl rfl (x_kk rfl) (x_kk rfl) rfl (c_X9_ofLoad (j := 1) hR (by omega) (by omega)) rfl ?_
  refine f_aload_n (M := mX9_voidLoad) 30 dX9_voidLoad_29 rfl rfl ?_
  refine e_getR (M := mX9_voidLoad) dX9_voidLoad_30 fl_9007 (x_kk rfl) (x_kk rfl) rfl (wf_9_0 hR) ?_
  refine f_bipush (M := mX9_voidLoad) 35 dX9_voidLoad_33 kb_13 rfl ?_
  refine e_ild (M := mX9_voidLoad) (w := 606) (j := 13) dX9_voidLoad_35 (x_kk rfl) rfl kn_13 (by omega) (by omega) ?_
  refine e_icmp_neF (M := mX9_voidLoad) 49 dX9_voidLoad_36 rfl (fun z => z h2) ?_
  refine f_aload_n (M := mX9_voidLoad) 40 dX9_voidLoad_39 rfl rfl ?_
  refine f_iload_n (M := mX9_voidLoad) 41 dX9_voidLoad_40 rfl rfl ?_
  refine f_iconst (M := mX9_voidLoad) 42 dX9_voidLoad_41 ki_3 rfl ?_
  refine e_cV (M := mX9_voidLoad) [_, _] 0 0 dX9_voidLoad_42 pa_9258 pb_9258 cc_9258 rfl rfl rfl rfl rfl (x_kk rfl) (x_kk rfl) rfl (c_X9_ofLoad (j := 3) hR (by omega) (by omega)) rfl ?_
  refine f_iconst (M := mX9_voidLoad) 46 dX9_voidLoad_45 ki_m1 rfl ?_
  refine e_icmp_eqF (M := mX9_voidLoad) 53 dX9_voidLoad_46 rfl h3 ?_
  refine f_iconst (M := mX9_voidLoad) 50 dX9_voidLoad_49 ki_2 rfl ?_
  refine f_goto (M := mX9_voidLoad) 54 dX9_voidLoad_50 rfl ?_
  refine e_putI (M := mX9_voidLoad) dX9_voidLoad_54 fl_9033 (x_kk rfl) (x_kk rfl) rfl (fun q9 => Bool.noConfusion q9) ?_
  refine f_aload_n (M := mX9_voidLoad) 58 dX9_voidLoad_57 rfl rfl ?_
  refine e_getI (M := mX9_voidLoad) dX9_voidLoad_58 fl_9033 (x_kk rfl) (x_kk rfl) rfl ?_
  refine e_if_leF (M := mX9_voidLoad) 66 dX9_voidLoad_61 rfl (show ¬ ((2 : Int32) ≤ 0) by decide) ?_
  refine f_iconst (M := mX9_voidLoad) 65 dX9_voidLoad_64 ki_0 rfl ?_
  refine e_ri (M := mX9_voidLoad) dX9_voidLoad_65 rfl (x_kk rfl) (x_kk rfl) ?_
  rfl
theorem c_X4_add (hR : x_wf R) {β : Nat} (hβ : x_sl β) {Nl : Nat} (hNl : Nl < 60) (hl : I (β + 17) 0 = Int32.ofNat Nl) {s m t : Int32} : x_Cv X mX4_add [.ref (β + 17), .int s, .int m, .int t] (I, L, R) 233 (.inl none, ((va_up (va_up (va_up (va_up (va_up I (β + 18) (va_up (I (β + 18)) Nl s)) (β + 19) (va_up (I (β + 19)) Nl m)) (β + 20) (va_up (I (β + 20)) Nl t)) (β + 21) (va_up (I (β + 21)) Nl (-1))) (β + 17) (va_up (I (β + 17)) 0 (I (β + 17) 0 + 1))), L, R), 233) := by
  show x_Ev X mX4_add 0 [some (.ref (β + 17)), some (.int s), some (.int m), some (.int t)] [] ((I, L, R), 233, 0, 0) _
  refine f_aload_n (M := mX4_add) 1 dX4_add_0 rfl rfl ?_
  refine e_getR (M := mX4_add) dX4_add_1 fl_4009 (x_kk rfl) (sl_lt hβ 17 rfl) (sl_s hβ 17 rfl rfl) (wf_4_3 hR hβ) ?_
  refine f_aload_n (M := mX4_add) 5 dX4_add_4 rfl rfl ?_
  refine e_getI (M := mX4_add) dX4_add_5 fl_4024 (x_kk rfl) (sl_lt hβ 17 rfl) (sl_s hβ 17 rfl rfl) ?_
  refine f_iload_n (M := mX4_add) 9 dX4_add_8 rfl rfl ?_
  refine e_ist (M := mX4_add) (w := 60) (j := Nl) dX4_add_9 (sl_lt hβ 18 rfl) (sl_shp hβ 18 rfl) hl (by omega) (by omega) ?_
  refine f_aload_n (M := mX4_add) 11 dX4_add_10 rfl rfl ?_
  refine e_getR (M := mX4_add) dX4_add_11 fl_4015 (x_kk rfl) (sl_lt hβ 17 rfl) (sl_s hβ 17 rfl rfl) (wf_4_4 hR hβ) ?_
  refine f_aload_n (M := mX4_add) 15 dX4_add_14 rfl rfl ?_
  refine e_getI (M := mX4_add) dX4_add_15 fl_4024 (x_kk rfl) (sl_lt hβ 17 rfl) (sl_s hβ 17 rfl rfl) ?_
  refine f_iload_n (M := mX4_add) 19 dX4_add_18 rfl rfl ?_
  refine e_ist (M := mX4_add) (w := 60) (j := Nl) dX4_add_19 (sl_lt hβ 19 rfl) (sl_shp hβ 19 rfl) (by rw [x_up_ne _ _ (show β + 17 ≠ β + 18 by omega)]; exact hl) (by omega) (by omega) ?_
  refine f_aload_n (M := mX4_add) 21 dX4_add_20 rfl rfl ?_
  refine e_getR (M := mX4_add) dX4_add_21 fl_4018 (x_kk rfl) (sl_lt hβ 17 rfl) (sl_s hβ 17 rfl rfl) (wf_4_5 hR hβ) ?_
  refine f_aload_n (M := mX4_add) 25 dX4_add_24 rfl rfl ?_
  refine e_getI (M := mX4_add) dX4_add_25 fl_4024 (x_kk rfl) (sl_lt hβ 17 rfl) (sl_s hβ 17 rfl rfl) ?_
  refine f_iload_n (M := mX4_add) 29 dX4_add_28 rfl rfl ?_
  refine e_ist (M := mX4_add) (w := 60) (j := Nl) dX4_add_29 (sl_lt hβ 20 rfl) (sl_shp hβ 20 rfl) (by rw [x_up_ne _ _ (show β + 17 ≠ β + 19 by omega), x_up_ne _ _ (show β + 17 ≠ β + 18 by omega)]; exact hl) (by omega) (by omega) ?_
  refine f_aload_n (M := mX4_add) 31 dX4_add_30 rfl rfl ?_
  refine e_getR (M := mX4_add) dX4_add_31 fl_4021 (x_kk rfl) (sl_lt hβ 17 rfl) (sl_s hβ 17 rfl rfl) (wf_4_6 hR hβ) ?_
  refine f_aload_n (M := mX4_add) 35 dX4_add_34 rfl rfl ?_
  refine e_getI (M := mX4_add) dX4_add_35 fl_4024 (x_kk rfl) (sl_lt hβ 17 rfl) (sl_s hβ 17 rfl rfl) ?_
  refine f_iconst (M := mX4_add) 39 dX4_add_38 ki_m1 rfl ?_
  refine e_ist (M := mX4_add) (w := 60) (j := Nl) dX4_add_39 (sl_lt hβ 21 rfl) (sl_shp hβ 21 rfl) (by rw [x_up_ne _ _ (show β + 17 ≠ β + 20 by omega), x_up_ne _ _ (show β + 17 ≠ β + 19 by omega), x_up_ne _ _ (show β + 17 ≠ β + 18 by omega)]; exact hl) (by omega) (by omega) ?_
  refine f_aload_n (M := mX4_add) 41 dX4_add_40 rfl rfl ?_
  refine f_dup (M := mX4_add) 42 dX4_add_41 rfl rfl ?_
  refine e_getI (M := mX4_add) dX4_add_42 fl_4024 (x_kk rfl) (sl_lt hβ 17 rfl) (sl_s hβ 17 rfl rfl) ?_
  refine f_iconst (M := mX4_add) 46 dX4_add_45 ki_1 rfl ?_
  refine f_iadd (M := mX4_add) 47 dX4_add_46 rfl ?_
  refine e_putI (M := mX4_add) dX4_add_47 fl_4024 (x_kk rfl) (sl_lt hβ 17 rfl) (sl_s hβ 17 rfl rfl) (fun q9 => Bool.noConfusion q9) ?_
  refine e_rv (M := mX4_add) dX4_add_50 rfl (x_kk rfl) (x_kk rfl) ?_
  exact (by simp only [x_up_ne _ _ (show β + 17 ≠ β + 18 by omega), x_up_ne _ _ (show β + 17 ≠ β + 19 by omega), x_up_ne _ _ (show β + 17 ≠ β + 20 by omega), x_up_ne _ _ (show β + 17 ≠ β + 21 by omega), x_up_ne _ _ (show β + 18 ≠ β + 17 by omega), x_up_ne _ _ (show β + 18 ≠ β + 19 by omega), x_up_ne _ _ (show β + 18 ≠ β + 20 by omega), x_up_ne _ _ (show β + 18 ≠ β + 21 by omega), x_up_ne _ _ (show β + 19 ≠ β + 17 by omega), x_up_ne _ _ (show β + 19 ≠ β + 18 by omega), x_up_ne _ _ (show β + 19 ≠ β + 20 by omega), x_up_ne _ _ (show β + 19 ≠ β + 21 by omega), x_up_ne _ _ (show β + 20 ≠ β + 17 by omega), x_up_ne _ _ (show β + 20 ≠ β + 18 by omega), x_up_ne _ _ (show β + 20 ≠ β + 19 by omega), x_up_ne _ _ (show β + 20 ≠ β + 21 by omega), x_up_ne _ _ (show β + 21 ≠ β + 17 by omega), x_up_ne _ _ (show β + 21 ≠ β + 18 by omega), x_up_ne _ _ (show β + 21 ≠ β + 19 by omega), x_up_ne _ _ (show β + 21 ≠ β + 20 by omega)])
theorem kx_scale {N β : Nat} {a : Nat → Int32} {b : Nat → Int64} (H : y_CS N I L R β a b) {Ns Np Nl Nm : Nat} (Z : y_Z a Ns Np Nl Nm) {I0 : Nat → Nat → Int32} {L0 : Nat → Nat → Int64} (hk : x_Cv X mX3_keep [.ref 3, .ref β] (I, L, R) 233 (.inl none, (I0, L0, R), 233)) (H1 : y_CS N I0 L0 R β a b) {g : Int32} {e : Int32} {s : Nat} (hs : s < Ns) (h1 : 1 ≤ g ∧ g ≤ 10000) (h2 : 0 ≤ e ∧ e ≤ 100) (h3 : a 0 = 3) (h4 : ¬ a 14 = 60)  : x_Cv X mX8_scale [.ref 0, .int (Int32.ofNat s), .int g, .int e] (I, L, R) 233 (.inl (some (.int (Int32.ofNat Nl))), ((va_up (va_up (va_up (va_up (va_up I0 (β + 18) (va_up (I0 (β + 18)) Nl (Int32.ofNat s))) (β + 19) (va_up (I0 (β + 19)) Nl (a 13))) (β + 20) (va_up (I0 (β + 20)) Nl ((g * (100 - e) + 50) / 100))) (β + 21) (va_up (I0 (β + 21)) Nl (-1))) (β + 17) (va_up (I0 (β + 17)) 0 (a 14 + 1))), L0, R), 233) := by
  obtain ⟨hNs, hn, hNp, hp, hNl, hl, hNm, hmm⟩ := Z
  have hR := h_R H
  have hβ := h_β H
  have hS := h_S H
  show x_Ev X mX8_scale 0 [some (.ref 0), some (.int (Int32.ofNat s)), some (.int g), some (.int e)] [] ((I, L, R), 233, 0, 0) _
  refine f_aload_n (M := mX8_scale) 1 dX8_scale_0 rfl rfl ?_
  refine f_iload_n (M := mX8_scale) 2 dX8_scale_1 rfl rfl ?_
  refine e_cV (M := mX8_scale) [_] 0 0 dX8_scale_2 pa_8161 pb_8161 cc_8161 rfl rfl rfl rfl rfl (x_kk rfl) (x_kk rfl) rfl (k_isSpecies H) rfl ?_
  refine e_cS (M := mX8_scale) [] 1 6 dX8_scale_5 pa_8103 cc_8103 rfl rfl rfl rfl rfl (x_kk rfl) (x_kk rfl) rfl (c_X8_requireExisting (x_bn (in_ok hn (by omega) hs))) rfl ?_
  refine f_iload_n (M := mX8_scale) 9 dX8_scale_8 rfl rfl ?_
  refine f_iconst (M := mX8_scale) 10 dX8_scale_9 ki_1 rfl ?_
  refine f_sipush (M := mX8_scale) 13 dX8_scale_10 ks_10000 rfl ?_
  refine e_cS (M := mX8_scale) [_] 1 6 dX8_scale_13 pa_8049 cc_8049 rfl rfl rfl rfl rfl (x_kk rfl) (x_kk rfl) rfl (c_X8_isIn (lo := 1) (hi := 10000)) rfl ?_
  refine e_if_eqF (M := mX8_scale) 33 dX8_scale_16 rfl (x_bn h1) ?_
  refine f_iload_n (M := mX8_scale) 20 dX8_scale_19 rfl rfl ?_
  refine f_iconst (M := mX8_scale) 21 dX8_scale_20 ki_0 rfl ?_
  refine f_bipush (M := mX8_scale) 23 dX8_scale_21 kb_100 rfl ?_
  refine e_cS (M := mX8_scale) [_] 1 6 dX8_scale_23 pa_8049 cc_8049 rfl rfl rfl rfl rfl (x_kk rfl) (x_kk rfl) rfl (c_X8_isIn (lo := 0) (hi := 100)) rfl ?_
  refine e_if_eqF (M := mX8_scale) 33 dX8_scale_26 rfl (x_bn h2) ?_
  refine f_iconst (M := mX8_scale) 30 dX8_scale_29 ki_1 rfl ?_
  refine f_goto (M := mX8_scale) 34 dX8_scale_30 rfl ?_
  refine e_cS (M := mX8_scale) [] 2 12 dX8_scale_34 pa_8053 cc_8053 rfl rfl rfl rfl rfl (x_kk rfl) (x_kk rfl) rfl (c_X8_requireArgument (by decide)) rfl ?_
  refine f_aload_n (M := mX8_scale) 38 dX8_scale_37 rfl rfl ?_
  refine e_getR (M := mX8_scale) dX8_scale_38 fl_8026 (x_kk rfl) (x_kk rfl) rfl hS ?_
  refine e_getI (M := mX8_scale) dX8_scale_41 fl_8067 (x_kk rfl) (sl_lt hβ 0 rfl) (sl_s hβ 0 rfl rfl) ?_
  refine f_iconst (M := mX8_scale) 45 dX8_scale_44 ki_3 rfl ?_
  refine e_icmp_neF (M := mX8_scale) 67 dX8_scale_45 rfl (fun z => z (by rw [h_ph H]; exact h3)) ?_
  refine f_aload_n (M := mX8_scale) 49 dX8_scale_48 rfl rfl ?_
  refine e_getR (M := mX8_scale) dX8_scale_49 fl_8026 (x_kk rfl) (x_kk rfl) rfl hS ?_
  refine e_getR (M := mX8_scale) dX8_scale_52 fl_8245 (x_kk rfl) (sl_lt hβ 0 rfl) (sl_s hβ 0 rfl rfl) (wf_6_5 hR hβ) ?_
  refine e_getI (M := mX8_scale) dX8_scale_55 fl_8249 (x_kk rfl) (sl_lt hβ 17 rfl) (sl_s hβ 17 rfl rfl) ?_
  refine f_bipush (M := mX8_scale) 60 dX8_scale_58 kb_60 rfl ?_
  refine e_icmp_geF (M := mX8_scale) 67 dX8_scale_60 rfl (i_nle.mpr (by rw [(h_L H).1]; exact (nl60 hNl hl).mpr h4)) ?_
  refine f_iconst (M := mX8_scale) 64 dX8_scale_63 ki_1 rfl ?_
  refine f_goto (M := mX8_scale) 68 dX8_scale_64 rfl ?_
  refine e_cS (M := mX8_scale) [] 3 18 dX8_scale_68 pa_8037 cc_8037 rfl rfl rfl rfl rfl (x_kk rfl) (x_kk rfl) rfl (c_X8_requireState (by decide)) rfl ?_
  refine f_aload_n (M := mX8_scale) 72 dX8_scale_71 rfl rfl ?_
  refine e_getR (M := mX8_scale) dX8_scale_72 fl_8019 (x_kk rfl) (x_kk rfl) rfl (wf_8_1 hR) ?_
  refine f_aload_n (M := mX8_scale) 76 dX8_scale_75 rfl rfl ?_
  refine e_getR (M := mX8_scale) dX8_scale_76 fl_8026 (x_kk rfl) (x_kk rfl) rfl hS ?_
  refine e_cV (M := mX8_scale) [] 3 18 dX8_scale_79 pa_8060 pb_8060 cc_8060 rfl rfl rfl rfl rfl (x_kk rfl) (x_kk rfl) rfl (hk) rfl ?_
  refine f_aload_n (M := mX8_scale) 83 dX8_scale_82 rfl rfl ?_
  refine e_getR (M := mX8_scale) dX8_scale_83 fl_8026 (x_kk rfl) (x_kk rfl) rfl hS ?_
  refine e_getR (M := mX8_scale) dX8_scale_86 fl_8245 (x_kk rfl) (sl_lt hβ 0 rfl) (sl_s hβ 0 rfl rfl) (wf_6_5 hR hβ) ?_
  refine f_iload_n (M := mX8_scale) 90 dX8_scale_89 rfl rfl ?_
  refine f_aload_n (M := mX8_scale) 91 dX8_scale_90 rfl rfl ?_
  refine e_getR (M := mX8_scale) dX8_scale_91 fl_8026 (x_kk rfl) (x_kk rfl) rfl hS ?_
  refine e_getR (M := mX8_scale) dX8_scale_94 fl_8227 (x_kk rfl) (sl_lt hβ 0 rfl) (sl_s hβ 0 rfl rfl) (wf_6_4 hR hβ) ?_
  refine e_getI (M := mX8_scale) dX8_scale_97 fl_8254 (x_kk rfl) (sl_lt hβ 12 rfl) (sl_s hβ 12 rfl rfl) ?_
  refine f_iload_n (M := mX8_scale) 101 dX8_scale_100 rfl rfl ?_
  refine f_iload_n (M := mX8_scale) 102 dX8_scale_101 rfl rfl ?_
  refine e_cS (M := mX8_scale) [_, _, _, _] 3 18 dX8_scale_102 pa_8257 cc_8257 rfl rfl rfl rfl rfl (x_kk rfl) (x_kk rfl) rfl (c_X8_netVolume) rfl ?_
  refine e_cV (M := mX8_scale) [] 3 18 dX8_scale_105 pa_8260 pb_8260 cc_8260 rfl rfl rfl rfl rfl (x_kk rfl) (x_kk rfl) (x_rcvOK (sl_lt hβ 17 rfl) (sl_s hβ 17 rfl rfl) rfl) (c_X4_add hR hβ (nl_1 hNl hl h4) ((h_L H1).1.trans hl)) rfl ?_
  refine f_aload_n (M := mX8_scale) 109 dX8_scale_108 rfl rfl ?_
  refine e_getR (M := mX8_scale) dX8_scale_109 fl_8026 (x_kk rfl) (x_kk rfl) rfl hS ?_
  refine e_getR (M := mX8_scale) dX8_scale_112 fl_8245 (x_kk rfl) (sl_lt hβ 0 rfl) (sl_s hβ 0 rfl rfl) (wf_6_5 hR hβ) ?_
  refine e_getI (M := mX8_scale) dX8_scale_115 fl_8249 (x_kk rfl) (sl_lt hβ 17 rfl) (sl_s hβ 17 rfl rfl) ?_
  refine f_iconst (M := mX8_scale) 119 dX8_scale_118 ki_1 rfl ?_
  refine f_isub (M := mX8_scale) 120 dX8_scale_119 rfl ?_
  refine e_ri (M := mX8_scale) dX8_scale_120 rfl (x_kk rfl) (x_kk rfl) ?_
  exact (by simp only [x_up_self, (h_K H1).2.2.2.2.2.1, (h_L H1).1, hl, n_inc]; rw [ix_sub (j := Nl + 1) (k := 1) rfl kn_1 (by omega), Nat.add_sub_cancel])
theorem mx_scale (hR : x_wf R) {a : Nat → Int32} (ha : I 226 = a) {Ns Np Nl Nm : Nat} (Z : y_Z a Ns Np Nl Nm) {I0 : Nat → Nat → Int32} {L0 : Nat → Nat → Int64} (hk : x_Cv X mX9_keeps [.ref 225] (x_tw I 0, L, R) 233 (.inl none, (I0, L0, R), 233)) (ha0 : I0 226 = a) {g : Int32} {e : Int32} {s : Nat} (hs : s < Ns) (h1 : 1 ≤ g ∧ g ≤ 10000) (h2 : 0 ≤ e ∧ e ≤ 100) (h3 : a 0 = 3) (h4 : ¬ a 14 = 60)  : x_Cv X mX9_scale [.ref 225, .int (Int32.ofNat s), .int g, .int e] (I, L, R) 233 (.inl (some (.int (Int32.ofNat Nl))), (va_up I0 226 (va_up (va_up (va_up (va_up (va_up a (366 + 4 * Nl) (Int32.ofNat s)) (366 + 4 * Nl + 1) (a 13)) (366 + 4 * Nl + 2) ((g * (100 - e) + 50) / 100)) (366 + 4 * Nl + 3) (-1)) 14 (a 14 + 1)), L0, R), 233) := by
  subst ha
  obtain ⟨hNs, hn, hNp, hp, hNl, hl, hNm, hmm⟩ := Z
  have hl6 := nl_1 hNl hl h4
  show x_Ev X mX9_scale 0 [some (.ref 225), some (.int (Int32.ofNat s)), some (.int g), some (.int e), none] [] ((I, L, R), 233, 0, 0) _
  refine f_aload_n (M := mX9_scale) 1 dX9_scale_0 rfl rfl ?_
  refine f_aload_n (M := mX9_scale) 2 dX9_scale_1 rfl rfl ?_
  refine f_iload_n (M := mX9_scale) 3 dX9_scale_2 rfl rfl ?_
  refine e_cV (M := mX9_scale) [_, _] 0 0 dX9_scale_3 pa_9137 pb_9137 cc_9137 rfl rfl rfl rfl rfl (x_kk rfl) (x_kk rfl) rfl (c_X9_isSpecies hR) rfl ?_
  refine e_if_neT (M := mX9_scale) 13 dX9_scale_6 rfl (x_bn (in_ok hn (by omega) hs)) ?_
  refine f_iload_n (M := mX9_scale) 14 dX9_scale_13 rfl rfl ?_
  refine f_iload_n (M := mX9_scale) 15 dX9_scale_14 rfl rfl ?_
  refine e_cS (M := mX9_scale) [_, _] 0 0 dX9_scale_15 pa_9249 cc_9249 rfl rfl rfl rfl rfl (x_kk rfl) (x_kk rfl) rfl (c_X9_isScaled) rfl ?_
  refine e_if_neT (M := mX9_scale) 25 dX9_scale_18 rfl (x_bn ⟨h1, h2⟩) ?_
  refine f_aload_n (M := mX9_scale) 26 dX9_scale_25 rfl rfl ?_
  refine e_getR (M := mX9_scale) dX9_scale_26 fl_9007 (x_kk rfl) (x_kk rfl) rfl (wf_9_0 hR) ?_
  refine f_iconst (M := mX9_scale) 30 dX9_scale_29 ki_0 rfl ?_
  refine e_ild (M := mX9_scale) (w := 606) (j := 0) dX9_scale_30 (x_kk rfl) rfl kn_0 (by omega) (by omega) ?_
  refine f_iconst (M := mX9_scale) 32 dX9_scale_31 ki_3 rfl ?_
  refine e_icmp_neF (M := mX9_scale) 47 dX9_scale_32 rfl (fun z => z h3) ?_
  refine f_aload_n (M := mX9_scale) 36 dX9_scale_35 rfl rfl ?_
  refine e_getR (M := mX9_scale) dX9_scale_36 fl_9007 (x_kk rfl) (x_kk rfl) rfl (wf_9_0 hR) ?_
  refine f_bipush (M := mX9_scale) 41 dX9_scale_39 kb_14 rfl ?_
  refine e_ild (M := mX9_scale) (w := 606) (j := 14) dX9_scale_41 (x_kk rfl) rfl kn_14 (by omega) (by omega) ?_
  refine f_bipush (M := mX9_scale) 44 dX9_scale_42 kb_60 rfl ?_
  refine e_icmp_neT (M := mX9_scale) 51 dX9_scale_44 rfl h4 ?_
  refine f_iconst (M := mX9_scale) 52 dX9_scale_51 ki_0 rfl ?_
  refine e_putI (M := mX9_scale) dX9_scale_52 fl_9033 (x_kk rfl) (x_kk rfl) rfl (fun q9 => Bool.noConfusion q9) ?_
  refine f_aload_n (M := mX9_scale) 56 dX9_scale_55 rfl rfl ?_
  refine e_getI (M := mX9_scale) dX9_scale_56 fl_9033 (x_kk rfl) (x_kk rfl) rfl ?_
  refine e_if_leT (M := mX9_scale) 64 dX9_scale_59 rfl (show (0 : Int32) ≤ 0 by decide) ?_
  refine f_aload_n (M := mX9_scale) 65 dX9_scale_64 rfl rfl ?_
  refine e_cV (M := mX9_scale) [] 0 0 dX9_scale_65 pa_9128 pb_9128 cc_9128 rfl rfl rfl rfl rfl (x_kk rfl) (x_kk rfl) rfl (hk) rfl ?_
  refine f_sipush (M := mX9_scale) 71 dX9_scale_68 ks_366 rfl ?_
  refine f_iconst (M := mX9_scale) 72 dX9_scale_71 ki_4 rfl ?_
  refine f_aload_n (M := mX9_scale) 73 dX9_scale_72 rfl rfl ?_
  refine e_getR (M := mX9_scale) dX9_scale_73 fl_9007 (x_kk rfl) (x_kk rfl) rfl (wf_9_0 hR) ?_
  refine f_bipush (M := mX9_scale) 78 dX9_scale_76 kb_14 rfl ?_
  refine e_ild (M := mX9_scale) (w := 606) (j := 14) dX9_scale_78 (x_kk rfl) rfl kn_14 (by omega) (by omega) ?_
  refine f_imul (M := mX9_scale) 80 dX9_scale_79 rfl ?_
  refine f_iadd (M := mX9_scale) 81 dX9_scale_80 rfl ?_
  refine f_istore (M := mX9_scale) (ls' := [_, _, _, _, _]) 83 dX9_scale_81 rfl rfl rfl ?_
  refine f_aload_n (M := mX9_scale) 84 dX9_scale_83 rfl rfl ?_
  refine e_getR (M := mX9_scale) dX9_scale_84 fl_9007 (x_kk rfl) (x_kk rfl) rfl (wf_9_0 hR) ?_
  refine f_iload (M := mX9_scale) 89 dX9_scale_87 rfl rfl ?_
  refine f_iload_n (M := mX9_scale) 90 dX9_scale_89 rfl rfl ?_
  refine e_ist (M := mX9_scale) (w := 606) (j := (366) + ((4) * (Nl))) dX9_scale_90 (x_kk rfl) rfl (ix_add kn_366 (ix_mul kn_4 (by rw [ha0]; exact hl))) (by omega) (by omega) ?_
  refine f_aload_n (M := mX9_scale) 92 dX9_scale_91 rfl rfl ?_
  refine e_getR (M := mX9_scale) dX9_scale_92 fl_9007 (x_kk rfl) (x_kk rfl) rfl (wf_9_0 hR) ?_
  refine f_iload (M := mX9_scale) 97 dX9_scale_95 rfl rfl ?_
  refine f_iconst (M := mX9_scale) 98 dX9_scale_97 ki_1 rfl ?_
  refine f_iadd (M := mX9_scale) 99 dX9_scale_98 rfl ?_
  refine f_aload_n (M := mX9_scale) 100 dX9_scale_99 rfl rfl ?_
  refine e_getR (M := mX9_scale) dX9_scale_100 fl_9007 (x_kk rfl) (x_kk rfl) rfl (wf_9_0 hR) ?_
  refine f_bipush (M := mX9_scale) 105 dX9_scale_103 kb_13 rfl ?_
  refine e_ild (M := mX9_scale) (w := 606) (j := 13) dX9_scale_105 (x_kk rfl) rfl kn_13 (by omega) (by omega) ?_
  refine e_ist (M := mX9_scale) (w := 606) (j := ((366) + ((4) * (Nl))) + (1)) dX9_scale_106 (x_kk rfl) rfl (ix_add (ix_add kn_366 (ix_mul kn_4 (by rw [ha0]; exact hl))) kn_1) (by omega) (by omega) ?_
  refine f_aload_n (M := mX9_scale) 108 dX9_scale_107 rfl rfl ?_
  refine e_getR (M := mX9_scale) dX9_scale_108 fl_9007 (x_kk rfl) (x_kk rfl) rfl (wf_9_0 hR) ?_
  refine f_iload (M := mX9_scale) 113 dX9_scale_111 rfl rfl ?_
  refine f_iconst (M := mX9_scale) 114 dX9_scale_113 ki_2 rfl ?_
  refine f_iadd (M := mX9_scale) 115 dX9_scale_114 rfl ?_
  refine f_iload_n (M := mX9_scale) 116 dX9_scale_115 rfl rfl ?_
  refine f_iload_n (M := mX9_scale) 117 dX9_scale_116 rfl rfl ?_
  refine e_cS (M := mX9_scale) [_, _, _] 0 0 dX9_scale_117 pa_9252 cc_9252 rfl rfl rfl rfl rfl (x_kk rfl) (x_kk rfl) rfl (c_X9_netOf) rfl ?_
  refine e_ist (M := mX9_scale) (w := 606) (j := ((366) + ((4) * (Nl))) + (2)) dX9_scale_120 (x_kk rfl) rfl (ix_add (ix_add kn_366 (ix_mul kn_4 (by rw [ha0]; exact hl))) kn_2) (by omega) (by omega) ?_
  refine f_aload_n (M := mX9_scale) 122 dX9_scale_121 rfl rfl ?_
  refine e_getR (M := mX9_scale) dX9_scale_122 fl_9007 (x_kk rfl) (x_kk rfl) rfl (wf_9_0 hR) ?_
  refine f_iload (M := mX9_scale) 127 dX9_scale_125 rfl rfl ?_
  refine f_iconst (M := mX9_scale) 128 dX9_scale_127 ki_3 rfl ?_
  refine f_iadd (M := mX9_scale) 129 dX9_scale_128 rfl ?_
  refine f_iconst (M := mX9_scale) 130 dX9_scale_129 ki_m1 rfl ?_
  refine e_ist (M := mX9_scale) (w := 606) (j := ((366) + ((4) * (Nl))) + (3)) dX9_scale_130 (x_kk rfl) rfl (ix_add (ix_add kn_366 (ix_mul kn_4 (by rw [ha0]; exact hl))) kn_3) (by omega) (by omega) ?_
  refine f_aload_n (M := mX9_scale) 132 dX9_scale_131 rfl rfl ?_
  refine e_getR (M := mX9_scale) dX9_scale_132 fl_9007 (x_kk rfl) (x_kk rfl) rfl (wf_9_0 hR) ?_
  refine f_bipush (M := mX9_scale) 137 dX9_scale_135 kb_14 rfl ?_
  refine f_dup2 (M := mX9_scale) 138 dX9_scale_137 rfl rfl rfl ?_
  refine e_ild (M := mX9_scale) (w := 606) (j := 14) dX9_scale_138 (x_kk rfl) rfl kn_14 (by omega) (by omega) ?_
  refine f_iconst (M := mX9_scale) 140 dX9_scale_139 ki_1 rfl ?_
  refine f_iadd (M := mX9_scale) 141 dX9_scale_140 rfl ?_
  refine e_ist (M := mX9_scale) (w := 606) (j := 14) dX9_scale_141 (x_kk rfl) rfl kn_14 (by omega) (by omega) ?_
  refine f_aload_n (M := mX9_scale) 143 dX9_scale_142 rfl rfl ?_
  refine e_getR (M := mX9_scale) dX9_scale_143 fl_9007 (x_kk rfl) (x_kk rfl) rfl (wf_9_0 hR) ?_
  refine f_bipush (M := mX9_scale) 148 dX9_scale_146 kb_14 rfl ?_
  refine e_ild (M := mX9_scale) (w := 606) (j := 14) dX9_scale_148 (x_kk rfl) rfl kn_14 (by omega) (by omega) ?_
  refine f_iconst (M := mX9_scale) 150 dX9_scale_149 ki_1 rfl ?_
  refine f_isub (M := mX9_scale) 151 dX9_scale_150 rfl ?_
  refine e_ri (M := mX9_scale) dX9_scale_151 rfl (x_kk rfl) (x_kk rfl) ?_
  exact (by simp only [x_up_self, up_up, ha0, x_up_ne _ _ (show 13 ≠ 366 + 4 * Nl by omega), x_up_ne _ _ (show 13 ≠ 366 + 4 * Nl + 1 by omega), x_up_ne _ _ (show 13 ≠ 366 + 4 * Nl + 2 by omega), x_up_ne _ _ (show 13 ≠ 366 + 4 * Nl + 3 by omega), x_up_ne _ _ (show 14 ≠ 366 + 4 * Nl by omega), x_up_ne _ _ (show 14 ≠ 366 + 4 * Nl + 1 by omega), x_up_ne _ _ (show 14 ≠ 366 + 4 * Nl + 2 by omega), x_up_ne _ _ (show 14 ≠ 366 + 4 * Nl + 3 by omega), hl, n_inc]; rw [ix_sub (j := Nl + 1) (k := 1) rfl kn_1 (by omega), Nat.add_sub_cancel])
section
variable {β : Nat} {a : Nat → Int32} {b : Nat → Int64}
theorem sc_j {n j : Nat} {s m t x : Int32} (h : ¬ (366 + 4 * n ≤ j ∧ j < 366 + 4 * n + 4)) (h2 : ¬ j = 14) : va_up (va_up (va_up (va_up (va_up a (366 + 4 * n) s) (366 + 4 * n + 1) m) (366 + 4 * n + 2) t) (366 + 4 * n + 3) (-1)) 14 x j = a j := by
  rw [x_up_ne _ _ h2, x_up_ne _ _ (by omega), x_up_ne _ _ (by omega), x_up_ne _ _ (by omega), x_up_ne _ _ (by omega)]
theorem RL_sc {n : Nat} (hn : n < 60) (h14 : a 14 = Int32.ofNat n) {s m t : Int32} (h : y_RL I β a) : y_RL (va_up (va_up (va_up (va_up (va_up I (β + 18) (va_up (I (β + 18)) n s)) (β + 19) (va_up (I (β + 19)) n m)) (β + 20) (va_up (I (β + 20)) n t)) (β + 21) (va_up (I (β + 21)) n (-1))) (β + 17) (va_up (I (β + 17)) 0 (a 14 + 1))) β (va_up (va_up (va_up (va_up (va_up a (366 + 4 * n) s) (366 + 4 * n + 1) m) (366 + 4 * n + 2) t) (366 + 4 * n + 3) (-1)) 14 (a 14 + 1)) := by
  obtain ⟨h1, h2, h3, h4⟩ := h
  have e18 : (va_up (va_up (va_up (va_up (va_up I (β + 18) (va_up (I (β + 18)) n s)) (β + 19) (va_up (I (β + 19)) n m)) (β + 20) (va_up (I (β + 20)) n t)) (β + 21) (va_up (I (β + 21)) n (-1))) (β + 17) (va_up (I (β + 17)) 0 (a 14 + 1))) (β + 18) = va_up (I (β + 18)) n s := by rw [x_up_ne _ _ (show β + 18 ≠ β + 17 by omega), x_up_ne _ _ (show β + 18 ≠ β + 21 by omega), x_up_ne _ _ (show β + 18 ≠ β + 20 by omega), x_up_ne _ _ (show β + 18 ≠ β + 19 by omega), x_up_self]
  have e19 : (va_up (va_up (va_up (va_up (va_up I (β + 18) (va_up (I (β + 18)) n s)) (β + 19) (va_up (I (β + 19)) n m)) (β + 20) (va_up (I (β + 20)) n t)) (β + 21) (va_up (I (β + 21)) n (-1))) (β + 17) (va_up (I (β + 17)) 0 (a 14 + 1))) (β + 19) = va_up (I (β + 19)) n m := by rw [x_up_ne _ _ (show β + 19 ≠ β + 17 by omega), x_up_ne _ _ (show β + 19 ≠ β + 21 by omega), x_up_ne _ _ (show β + 19 ≠ β + 20 by omega), x_up_self]
  have e20 : (va_up (va_up (va_up (va_up (va_up I (β + 18) (va_up (I (β + 18)) n s)) (β + 19) (va_up (I (β + 19)) n m)) (β + 20) (va_up (I (β + 20)) n t)) (β + 21) (va_up (I (β + 21)) n (-1))) (β + 17) (va_up (I (β + 17)) 0 (a 14 + 1))) (β + 20) = va_up (I (β + 20)) n t := by rw [x_up_ne _ _ (show β + 20 ≠ β + 17 by omega), x_up_ne _ _ (show β + 20 ≠ β + 21 by omega), x_up_self]
  have e21 : (va_up (va_up (va_up (va_up (va_up I (β + 18) (va_up (I (β + 18)) n s)) (β + 19) (va_up (I (β + 19)) n m)) (β + 20) (va_up (I (β + 20)) n t)) (β + 21) (va_up (I (β + 21)) n (-1))) (β + 17) (va_up (I (β + 17)) 0 (a 14 + 1))) (β + 21) = va_up (I (β + 21)) n (-1) := by rw [x_up_ne _ _ (show β + 21 ≠ β + 17 by omega), x_up_self]
  have e17 : (va_up (va_up (va_up (va_up (va_up I (β + 18) (va_up (I (β + 18)) n s)) (β + 19) (va_up (I (β + 19)) n m)) (β + 20) (va_up (I (β + 20)) n t)) (β + 21) (va_up (I (β + 21)) n (-1))) (β + 17) (va_up (I (β + 17)) 0 (a 14 + 1))) (β + 17) = va_up (I (β + 17)) 0 (a 14 + 1) := by rw [x_up_self]
  have c0 : (a 14).toNatClampNeg = n := by rw [h14, n_cl (by omega)]
  have c1 : (a 14 + 1).toNatClampNeg = n + 1 := by rw [h14, n_inc, n_cl (by omega)]
  rw [c0] at h2 h3 h4
  unfold y_RL
  rw [e17, e18, e19, e20, e21, show va_up (va_up (va_up (va_up (va_up a (366 + 4 * n) s) (366 + 4 * n + 1) m) (366 + 4 * n + 2) t) (366 + 4 * n + 3) (-1)) 14 (a 14 + 1) 14 = a 14 + 1 from x_up_self _ _ _, c1, x_up_self, x_up_ne _ _ (show (1 : Nat) ≠ 0 by decide), x_up_ne _ _ (show (2 : Nat) ≠ 0 by decide)]
  have k3 : va_up (va_up (va_up (va_up (va_up a (366 + 4 * n) s) (366 + 4 * n + 1) m) (366 + 4 * n + 2) t) (366 + 4 * n + 3) (-1)) 14 (a 14 + 1) (366 + 4 * n + 3) = -1 := by rw [x_up_ne _ _ (by omega), x_up_self]
  have cs : ∀ w, w = 2 ∨ w = 3 → sp_cs (va_up (va_up (va_up (va_up (va_up a (366 + 4 * n) s) (366 + 4 * n + 1) m) (366 + 4 * n + 2) t) (366 + 4 * n + 3) (-1)) 14 (a 14 + 1)) w (n + 1) = sp_cs a w n := by
    intro w hw
    rw [sp_cs_0 k3]
    exact s64_c (fun k hk => by unfold sp_chk; rw [sc_j (by omega) (by omega), sc_j (by omega) (by omega)])
  rw [cs 2 (Or.inl rfl), cs 3 (Or.inr rfl)]
  refine ⟨rfl, fun k hk => ?_, h3, h4⟩
  by_cases e : k = n
  · subst e
    rw [x_up_self, x_up_self, x_up_self, x_up_self, k3]
    exact ⟨by rw [x_up_ne _ _ (by omega), x_up_ne _ _ (by omega), x_up_ne _ _ (by omega), x_up_ne _ _ (by omega)]; exact (x_up_self _ _ _).symm, by rw [x_up_ne _ _ (by omega), x_up_ne _ _ (by omega), x_up_ne _ _ (by omega), x_up_self], by rw [x_up_ne _ _ (by omega), x_up_ne _ _ (by omega), x_up_self], rfl⟩
  · rw [x_up_ne _ _ e, x_up_ne _ _ e, x_up_ne _ _ e, x_up_ne _ _ e, sc_j (by omega) (by omega), sc_j (by omega) (by omega), sc_j (by omega) (by omega), sc_j (by omega) (by omega)]
    exact h2 k (by omega)
theorem IL_sc {n : Nat} (hn : n < 60) (h14 : a 14 = Int32.ofNat n) {s m t : Int32} (hm : y_in m 0 35) (ht : y_in t 0 10000) (h : y_IL a) : y_IL (va_up (va_up (va_up (va_up (va_up a (366 + 4 * n) s) (366 + 4 * n + 1) m) (366 + 4 * n + 2) t) (366 + 4 * n + 3) (-1)) 14 (a 14 + 1)) := by
  refine ⟨n + 1, by omega, by rw [x_up_self, h14, n_inc], fun k hk => ?_⟩
  by_cases e : k = n
  · subst e
    rw [show va_up _ 14 (a 14 + 1) (366 + 4 * k + 1) = m from by rw [x_up_ne _ _ (by omega), x_up_ne _ _ (by omega), x_up_ne _ _ (by omega), x_up_self], show va_up _ 14 (a 14 + 1) (366 + 4 * k + 2) = t from by rw [x_up_ne _ _ (by omega), x_up_ne _ _ (by omega), x_up_self], show va_up _ 14 (a 14 + 1) (366 + 4 * k + 3) = -1 from by rw [x_up_ne _ _ (by omega), x_up_self]]
    exact ⟨hm, ht, by decide, by decide⟩
  · rw [sc_j (by omega) (by omega), sc_j (by omega) (by omega), sc_j (by omega) (by omega)]
    exact IL_k h (by omega) h14 (show k < n by omega)
theorem net_i {g e : Int32} (hg : 1 ≤ g ∧ g ≤ 10000) (he : 0 ≤ e ∧ e ≤ 100) : y_in ((g * (100 - e) + 50) / 100) 0 10000 := by
  have g1 := in_w hg
  have e1 := in_w he
  have g11 := g1.1
  have g12 := g1.2
  have e11 := e1.1
  have e12 := e1.2
  have o1 : (1 : Int32).toInt = 1 := by decide
  have o2 : (10000 : Int32).toInt = 10000 := by decide
  have o3 : (0 : Int32).toInt = 0 := by decide
  have o4 : (100 : Int32).toInt = 100 := by decide
  have o5 : (50 : Int32).toInt = 50 := by decide
  rw [o1] at g11
  rw [o2] at g12
  rw [o3] at e11
  rw [o4] at e12
  have d1 : (100 - e).toInt = 100 - e.toInt := by rw [t_sub (by rw [o4]; omega) (by rw [o4]; omega), o4]
  have m := m_bd (show 0 ≤ g.toInt by omega) g12 (show 0 ≤ 100 - e.toInt by omega) (show 100 - e.toInt ≤ 100 by omega)
  have d2 : (g * (100 - e)).toInt = g.toInt * (100 - e.toInt) := by rw [t_mul (by rw [d1]; omega) (by rw [d1]; omega), d1]
  have d3 : (g * (100 - e) + 50).toInt = g.toInt * (100 - e.toInt) + 50 := by rw [t_add (by rw [d2, o5]; omega) (by rw [d2, o5]; omega), d2, o5]
  generalize g.toInt * (100 - e.toInt) = Y at *
  unfold y_in
  rw [div100, d3, Int.tdiv_eq_ediv_of_nonneg (show 0 ≤ Y + 50 by omega)]
  omega
end
theorem sim_scale (T : y_T N I L R) {v : Int32} {g : Int32} {e : Int32} : y_OI N X mL_scale [.ref 0, .int v, .int g, .int e, .ref 232] mX9_scale [.ref 225, .int v, .int g, .int e] I L R := by
  have T0 := T
  obtain ⟨a, b, kn, ks, bf, bn, ep, ⟨β, δ, γ, ν, hB⟩, hM, hI⟩ := T
  have H : y_CS N I L R β a b := ⟨hM.1, hB.1.2.1, hB.1.2.2.2.2.1, hB.2.2.2.2.2.1, hI.1⟩
  obtain ⟨Ns, Np, Nl, Nm, Z⟩ := Z_of hI.1
  have hR := hM.1
  have ha : I 226 = a := hM.2.1
  have hb : L 229 = b := hM.2.2.1
  subst ha
  subst hb
  obtain ⟨hNs, hn, hNp, hp, hNl, hl, hNm, hmm⟩ := id Z
  by_cases h0 : 0 ≤ v ∧ v ≤ I 226 8 - 1
  · obtain ⟨s, hs, rfl⟩ := in_of hn (by omega) h0
    by_cases h1 : 1 ≤ g ∧ g ≤ 10000
    · skip
      by_cases h2 : 0 ≤ e ∧ e ≤ 100
      · skip
        by_cases h3 : I 226 0 = 3
        · skip
          by_cases h4 : ¬ I 226 14 = 60
          · skip
            obtain ⟨I0, L0, hk, S1, fr, sm⟩ := keep_ok (X := X) hB (h60_of (h_IL H))
            have H1 : y_CS N I0 L0 R β (I 226) (L 229) := ⟨hR, h_β H, h_S H, S1.2.2.2.2.2.1, hI.1⟩
            have hβ := h_β H
            have hl6 := nl_1 hNl hl h4
            have k1 := w_scale (kx_scale H Z hk H1 hs h1 h2 h3 h4 )
            have out : ∀ cc, (∀ j, j < 22 → ¬ cc = β + j) → (va_up (va_up (va_up (va_up (va_up I0 (β + 18) (va_up (I0 (β + 18)) Nl (Int32.ofNat s))) (β + 19) (va_up (I0 (β + 19)) Nl (I 226 13))) (β + 20) (va_up (I0 (β + 20)) Nl ((g * (100 - e) + 50) / 100))) (β + 21) (va_up (I0 (β + 21)) Nl (-1))) (β + 17) (va_up (I0 (β + 17)) 0 (I 226 14 + 1))) cc = I0 cc ∧ L0 cc = L0 cc := fun cc ho => ⟨(by rw [x_up_ne _ _ (ho 17 (by decide)), x_up_ne _ _ (ho 21 (by decide)), x_up_ne _ _ (ho 20 (by decide)), x_up_ne _ _ (ho 19 (by decide)), x_up_ne _ _ (ho 18 (by decide))]), rfl⟩
            have M1 := SM_f (I' := (va_up (va_up (va_up (va_up (va_up I0 (β + 18) (va_up (I0 (β + 18)) Nl (Int32.ofNat s))) (β + 19) (va_up (I0 (β + 19)) Nl (I 226 13))) (β + 20) (va_up (I0 (β + 20)) Nl ((g * (100 - e) + 50) / 100))) (β + 21) (va_up (I0 (β + 21)) Nl (-1))) (β + 17) (va_up (I0 (β + 17)) 0 (I 226 14 + 1)))) (L' := va_up L0 232 (va_up (L0 232) 0 (Int32.ofNat Nl).toInt64)) hM hR (fun cc z1 z2 => ⟨(out cc (fun j hj => sl_far hβ (Or.inr z1) hj)).1.trans (fr cc z1).1, (x_up_ne _ _ (by omega)).trans ((out cc (fun j hj => sl_far hβ (Or.inr z1) hj)).2.trans (fr cc z1).2)⟩)
            obtain ⟨I2, L2, hk9, M2, t6, l25, fr9⟩ := keeps_ok (X := X) (SM_tw (t := 0) M1)
            have m1 := mx_scale hR M1.2.1 Z hk9 M2.2.1 hs h1 h2 h3 h4 
            refine OI_c (a' := (va_up (va_up (va_up (va_up (va_up (I 226) (366 + 4 * Nl) (Int32.ofNat s)) (366 + 4 * Nl + 1) (I 226 13)) (366 + 4 * Nl + 2) ((g * (100 - e) + 50) / 100)) (366 + 4 * Nl + 3) (-1)) 14 (I 226 14 + 1))) (b' := (L 229)) k1 ⟨β, δ, γ, _, SB_u S1 out ?_⟩ m1 ?_ (SM_a M2) (fr_t fr_tw (fr_t fr9 fr_a)) (In_p (by omega) hI ?_)
            · exact ⟨(by rw [x_up_ne _ _ (show β ≠ β + 17 by omega), x_up_ne _ _ (show β ≠ β + 21 by omega), x_up_ne _ _ (show β ≠ β + 20 by omega), x_up_ne _ _ (show β ≠ β + 19 by omega), x_up_ne _ _ (show β ≠ β + 18 by omega)]; exact (h_ph H1).trans (show _ = _ from (sc_j (by omega) (by omega))).symm), RT_c (fun k z1 z2 => by rw [x_up_ne _ _ (show β + k ≠ β + 17 by omega), x_up_ne _ _ (show β + k ≠ β + 21 by omega), x_up_ne _ _ (show β + k ≠ β + 20 by omega), x_up_ne _ _ (show β + k ≠ β + 19 by omega), x_up_ne _ _ (show β + k ≠ β + 18 by omega)]) (fun j hj => sc_j (by omega) (by omega)) (h_T H1), RC_c (fun k z1 z2 => by rw [x_up_ne _ _ (show β + k ≠ β + 17 by omega), x_up_ne _ _ (show β + k ≠ β + 21 by omega), x_up_ne _ _ (show β + k ≠ β + 20 by omega), x_up_ne _ _ (show β + k ≠ β + 19 by omega), x_up_ne _ _ (show β + k ≠ β + 18 by omega)]) (fun j hj => sc_j (by omega) (by omega)) (h_C H1), RB_c (fun k z1 z2 => by rw [x_up_ne _ _ (show β + k ≠ β + 17 by omega), x_up_ne _ _ (show β + k ≠ β + 21 by omega), x_up_ne _ _ (show β + k ≠ β + 20 by omega), x_up_ne _ _ (show β + k ≠ β + 19 by omega), x_up_ne _ _ (show β + k ≠ β + 18 by omega)]) (by rw [sc_j (by omega) (by omega)]) (fun j hj => sc_j (by omega) (by omega)) (h_B H1), RK_c (fun k z1 z2 => by rw [x_up_ne _ _ (show β + k ≠ β + 17 by omega), x_up_ne _ _ (show β + k ≠ β + 21 by omega), x_up_ne _ _ (show β + k ≠ β + 20 by omega), x_up_ne _ _ (show β + k ≠ β + 19 by omega), x_up_ne _ _ (show β + k ≠ β + 18 by omega)]) rfl rfl (fun z => by rw [sc_j (by omega) (by omega)] at z; exact z) (fun j hj => sc_j (by omega) (by omega)) (h_K H1), RL_sc (nl_1 hNl hl h4) hl (h_L H1)⟩
            · exact t6
            · have z8 : ¬ I 226 0 = 8 := by rw [h3]; decide
              have hl6 := nl_1 hNl hl h4
              exact ⟨IT_c (by rw [sc_j (by omega) (by omega)]; exact (h_IT H).1) (fun j hj => sc_j (by omega) (by omega)) (h_IT H), IC_c (fun j hj => sc_j (by omega) (by omega)) (h_IC H), IB_c (by omega) (fun z => by rw [sc_j (by omega) (by omega)] at z; exact z) (fun j hj => sc_j (by omega) (by omega)) (h_IB H), IV_c (fun j hj => sc_j (by omega) (by omega)) (h_IV H), IK_c (fun j hj => sc_j (by omega) (by omega)) z8 (h_IK H), IL_sc (nl_1 hNl hl h4) hl ⟨by rw [hmm, t_n (by omega)]; omega, by rw [hmm, t_n (by omega)]; omega⟩ (net_i h1 h2) (h_IL H), (fun j hj => (sc_j (by omega) (by omega)).trans (hI.1.2.2.2.2.2.2.1 j hj)), hI.1.2.2.2.2.2.2.2⟩
          · exact OI_x T0 (by decide) (w_scale_x0 (kf_scale_4 H Z hs h1 h2 h3 h4)) (mf_scale_4 hR Z hs h1 h2 h3 h4)
        · exact OI_x T0 (by decide) (w_scale_x0 (kf_scale_3 H Z hs h1 h2 h3)) (mf_scale_3 hR Z hs h1 h2 h3)
      · exact OI_x T0 (by decide) (w_scale_x1 (kf_scale_2 H Z hs h1 h2)) (mf_scale_2 hR Z hs h1 h2)
    · exact OI_x T0 (by decide) (w_scale_x1 (kf_scale_1 H Z hs h1)) (mf_scale_1 hR Z hs h1)
  · exact OI_x T0 (by decide) (w_scale_x2 (kf_scale_0 H Z h0)) (mf_scale_0 hR Z h0)
end

/-! ===== changes of both, fifth (laid by wip/whole/src/w5.py) ===== -/
section
variable {X : x_X} {I : Nat → Nat → Int32} {L : Nat → Nat → Int64} {R : Nat → Nat → Option Nat} {N : Nat}
theorem k_wiL {N β : Nat} {a : Nat → Int32} {b : Nat → Int64} (H : y_CS N I L R β a b) {L' : Nat → Nat → Int64} {v : Int64} : x_Cv X mX6_withInterest [.ref β, .long v] (I, L', R) 233 (.inl (some (.long (sp_wi a v))), (I, L', R), 233) := by
  have e := c_X6_withInterest (X := X) (I := I) (L := L') (v := v) (h_R H) (h_β H)
  rw [(h_T H).2.1 5 (by decide)] at e
  exact e
theorem fac_up {B C : Int64} {f : Nat → Int64} : x_fac (va_up L 229 f) B C = va_up (x_fac L B C) 229 f := by
  funext q j
  unfold x_fac va_up
  by_cases h : q = 225
  · subst h; rfl
  · by_cases g : q = 229
    · subst g; simp
    · simp [h, g]
theorem k_bookMonth {N β : Nat} {a : Nat → Int32} {b : Nat → Int64} (H : y_CS N I L R β a b) {Ns Np Nl Nm : Nat} (Z : y_Z a Ns Np Nl Nm) : x_Cv X mX6_bookMonth [.ref β] (I, L, R) 233 (.inl none, (I, (va_up (va_up L (β + 16) (va_up (L (β + 16)) Nm (sp_chg a Nm Nl Ns))) (β + 12) (va_up (L (β + 12)) 7 (sp_wi a (b 0) + sp_chg a Nm Nl Ns))), R), 233) := by
  obtain ⟨hNs, hn, hNp, hp, hNl, hl, hNm, hmm⟩ := Z
  have hR := h_R H
  have hβ := h_β H
  have hS := h_S H
  show x_Ev X mX6_bookMonth 0 [some (.ref β), none, none] [] ((I, L, R), 233, 0, 0) _
  refine f_aload_n (M := mX6_bookMonth) 1 dX6_bookMonth_0 rfl rfl ?_
  refine f_aload_n (M := mX6_bookMonth) 2 dX6_bookMonth_1 rfl rfl ?_
  refine e_getR (M := mX6_bookMonth) dX6_bookMonth_2 fl_6035 (x_kk rfl) (sl_lt hβ 0 rfl) (sl_s hβ 0 rfl rfl) (wf_6_4 hR hβ) ?_
  refine e_getI (M := mX6_bookMonth) dX6_bookMonth_5 fl_6133 (x_kk rfl) (sl_lt hβ 12 rfl) (sl_s hβ 12 rfl rfl) ?_
  refine e_cV (M := mX6_bookMonth) [_] 0 0 dX6_bookMonth_8 pa_6136 pb_6136 cc_6136 rfl rfl rfl rfl rfl (x_kk rfl) (x_kk rfl) (x_rcvOK (sl_lt hβ 0 rfl) (sl_s hβ 0 rfl rfl) rfl) (kv_charge H hNl hl hNs hn hNm ((h_K H).2.2.2.2.2.1.trans hmm)) rfl ?_
  refine f_lstore_n (M := mX6_bookMonth) (ls' := [_, _, _]) 12 dX6_bookMonth_11 rfl rfl rfl ?_
  refine f_aload_n (M := mX6_bookMonth) 13 dX6_bookMonth_12 rfl rfl ?_
  refine e_getR (M := mX6_bookMonth) dX6_bookMonth_13 fl_6035 (x_kk rfl) (sl_lt hβ 0 rfl) (sl_s hβ 0 rfl rfl) (wf_6_4 hR hβ) ?_
  refine e_getR (M := mX6_bookMonth) dX6_bookMonth_16 fl_6139 (x_kk rfl) (sl_lt hβ 12 rfl) (sl_s hβ 12 rfl rfl) (wf_1_3 hR hβ) ?_
  refine f_aload_n (M := mX6_bookMonth) 20 dX6_bookMonth_19 rfl rfl ?_
  refine e_getR (M := mX6_bookMonth) dX6_bookMonth_20 fl_6035 (x_kk rfl) (sl_lt hβ 0 rfl) (sl_s hβ 0 rfl rfl) (wf_6_4 hR hβ) ?_
  refine e_getI (M := mX6_bookMonth) dX6_bookMonth_23 fl_6133 (x_kk rfl) (sl_lt hβ 12 rfl) (sl_s hβ 12 rfl rfl) ?_
  refine f_lload_n (M := mX6_bookMonth) 27 dX6_bookMonth_26 rfl rfl ?_
  refine e_lst (M := mX6_bookMonth) (w := 36) (j := Nm) dX6_bookMonth_27 (sl_lt hβ 16 rfl) (sl_shp hβ 16 rfl) ((h_K H).2.2.2.2.2.1.trans hmm) (by omega) (by omega) ?_
  refine f_aload_n (M := mX6_bookMonth) 29 dX6_bookMonth_28 rfl rfl ?_
  refine e_getR (M := mX6_bookMonth) dX6_bookMonth_29 fl_6035 (x_kk rfl) (sl_lt hβ 0 rfl) (sl_s hβ 0 rfl rfl) (wf_6_4 hR hβ) ?_
  refine f_aload_n (M := mX6_bookMonth) 33 dX6_bookMonth_32 rfl rfl ?_
  refine f_aload_n (M := mX6_bookMonth) 34 dX6_bookMonth_33 rfl rfl ?_
  refine e_getR (M := mX6_bookMonth) dX6_bookMonth_34 fl_6035 (x_kk rfl) (sl_lt hβ 0 rfl) (sl_s hβ 0 rfl rfl) (wf_6_4 hR hβ) ?_
  refine e_getL (M := mX6_bookMonth) dX6_bookMonth_37 fl_6143 (x_kk rfl) (sl_lt hβ 12 rfl) (sl_s hβ 12 rfl rfl) ?_
  refine e_cV (M := mX6_bookMonth) [_, _] 0 0 dX6_bookMonth_40 pa_6147 pb_6147 cc_6147 rfl rfl rfl rfl rfl (x_kk rfl) (x_kk rfl) (x_rcvOK (sl_lt hβ 0 rfl) (sl_s hβ 0 rfl rfl) rfl) (k_wiL H) rfl ?_
  refine f_lload_n (M := mX6_bookMonth) 44 dX6_bookMonth_43 rfl rfl ?_
  refine f_ladd (M := mX6_bookMonth) 45 dX6_bookMonth_44 rfl ?_
  refine e_putL (M := mX6_bookMonth) dX6_bookMonth_45 fl_6143 (x_kk rfl) (sl_lt hβ 12 rfl) (sl_s hβ 12 rfl rfl) (fun q9 => Bool.noConfusion q9) ?_
  refine e_rv (M := mX6_bookMonth) dX6_bookMonth_48 rfl (x_kk rfl) (x_kk rfl) ?_
  exact (by simp only [x_up_ne _ _ (show β + 12 ≠ β + 16 by omega), (h_K H).2.2.2.2.2.2.2])
theorem va_uu {α : Type} {f : Nat → α} {k : Nat} {v w : α} : va_up (va_up f k v) k w = va_up f k w := by
  funext j
  unfold va_up
  by_cases h : j = k
  · rw [if_pos h, if_pos h]
  · rw [if_neg h, if_neg h, if_neg h]
theorem m_ends (hR : x_wf R) {Ns Np Nl Nm : Nat} (Z : y_Z (I 226) Ns Np Nl Nm) (hIL : y_IL (I 226)) : x_Cv X mX9_ends [.ref 225] (I, L, R) 233 (.inl none, (I, va_up (x_facF L (I 226) Nl) 229 (va_up (va_up (L 229) 0 (sp_wi (I 226) (L 229 0) + sp_chg (I 226) Nm Nl Ns)) (1 + Nm) (sp_chg (I 226) Nm Nl Ns)), R), 233) := by
  obtain ⟨hNs, hn, hNp, hp, hNl, hl, hNm, hmm⟩ := Z
  show x_Ev X mX9_ends 0 [some (.ref 225), none, none] [] ((I, L, R), 233, 0, 0) _
  refine f_aload_n (M := mX9_ends) 1 dX9_ends_0 rfl rfl ?_
  refine e_getR (M := mX9_ends) dX9_ends_1 fl_9019 (x_kk rfl) (x_kk rfl) rfl (wf_9_3 hR) ?_
  refine f_iconst (M := mX9_ends) 5 dX9_ends_4 ki_0 rfl ?_
  refine e_lld (M := mX9_ends) (w := 37) (j := 0) dX9_ends_5 (x_kk rfl) rfl kn_0 (by omega) (by omega) ?_
  refine f_lconst (M := mX9_ends) 7 dX9_ends_6 kl_0 rfl ?_
  refine f_lcmp (M := mX9_ends) 8 dX9_ends_7 rfl ?_
  refine e_if_le (M := mX9_ends) (t := 39) dX9_ends_8 rfl (fun h1 => ?_) (fun h1 => ?_)
  · refine f_aload_n (M := mX9_ends) 40 dX9_ends_39 rfl rfl ?_
    refine f_aload_n (M := mX9_ends) 41 dX9_ends_40 rfl rfl ?_
    refine e_getR (M := mX9_ends) dX9_ends_41 fl_9007 (x_kk rfl) (x_kk rfl) rfl (wf_9_0 hR) ?_
    refine f_bipush (M := mX9_ends) 46 dX9_ends_44 kb_13 rfl ?_
    refine e_ild (M := mX9_ends) (w := 606) (j := 13) dX9_ends_46 (x_kk rfl) rfl kn_13 (by omega) (by omega) ?_
    refine e_cV (M := mX9_ends) [_] 0 0 dX9_ends_47 pa_9280 pb_9280 cc_9280 rfl rfl rfl rfl rfl (x_kk rfl) (x_kk rfl) rfl (mv_charge hR hNl hl hNs hn hIL hNm hmm) rfl ?_
    refine f_lstore_n (M := mX9_ends) (ls' := [_, _, _]) 51 dX9_ends_50 rfl rfl rfl ?_
    refine f_aload_n (M := mX9_ends) 52 dX9_ends_51 rfl rfl ?_
    refine e_getR (M := mX9_ends) dX9_ends_52 fl_9019 (x_kk rfl) (x_kk rfl) rfl (wf_9_3 hR) ?_
    refine f_iconst (M := mX9_ends) 56 dX9_ends_55 ki_0 rfl ?_
    refine f_dup2 (M := mX9_ends) 57 dX9_ends_56 rfl rfl rfl ?_
    refine e_lld (M := mX9_ends) (w := 37) (j := 0) dX9_ends_57 (x_kk rfl) rfl kn_0 (by omega) (by omega) ?_
    refine f_lload_n (M := mX9_ends) 59 dX9_ends_58 rfl rfl ?_
    refine f_ladd (M := mX9_ends) 60 dX9_ends_59 rfl ?_
    refine e_lst (M := mX9_ends) (w := 37) (j := 0) dX9_ends_60 (x_kk rfl) rfl kn_0 (by omega) (by omega) ?_
    refine f_aload_n (M := mX9_ends) 62 dX9_ends_61 rfl rfl ?_
    refine e_getR (M := mX9_ends) dX9_ends_62 fl_9019 (x_kk rfl) (x_kk rfl) rfl (wf_9_3 hR) ?_
    refine f_iconst (M := mX9_ends) 66 dX9_ends_65 ki_1 rfl ?_
    refine f_aload_n (M := mX9_ends) 67 dX9_ends_66 rfl rfl ?_
    refine e_getR (M := mX9_ends) dX9_ends_67 fl_9007 (x_kk rfl) (x_kk rfl) rfl (wf_9_0 hR) ?_
    refine f_bipush (M := mX9_ends) 72 dX9_ends_70 kb_13 rfl ?_
    refine e_ild (M := mX9_ends) (w := 606) (j := 13) dX9_ends_72 (x_kk rfl) rfl kn_13 (by omega) (by omega) ?_
    refine f_iadd (M := mX9_ends) 74 dX9_ends_73 rfl ?_
    refine f_lload_n (M := mX9_ends) 75 dX9_ends_74 rfl rfl ?_
    refine e_lst (M := mX9_ends) (w := 37) (j := (1) + (Nm)) dX9_ends_75 (x_kk rfl) rfl (ix_add kn_1 hmm) (by omega) (by omega) ?_
    refine e_rv (M := mX9_ends) dX9_ends_76 rfl (x_kk rfl) (x_kk rfl) ?_
    exact (by simp only [x_facF, x_up_self, up_up, fac_o (q := 229) (by decide), show sp_wi (I 226) (L 229 0) = L 229 0 from if_pos (lc_le.mp h1)])
  · refine f_aload_n (M := mX9_ends) 12 dX9_ends_11 rfl rfl ?_
    refine e_getR (M := mX9_ends) dX9_ends_12 fl_9019 (x_kk rfl) (x_kk rfl) rfl (wf_9_3 hR) ?_
    refine f_iconst (M := mX9_ends) 16 dX9_ends_15 ki_0 rfl ?_
    refine f_dup2 (M := mX9_ends) 17 dX9_ends_16 rfl rfl rfl ?_
    refine e_lld (M := mX9_ends) (w := 37) (j := 0) dX9_ends_17 (x_kk rfl) rfl kn_0 (by omega) (by omega) ?_
    refine f_aload_n (M := mX9_ends) 19 dX9_ends_18 rfl rfl ?_
    refine e_getR (M := mX9_ends) dX9_ends_19 fl_9019 (x_kk rfl) (x_kk rfl) rfl (wf_9_3 hR) ?_
    refine f_iconst (M := mX9_ends) 23 dX9_ends_22 ki_0 rfl ?_
    refine e_lld (M := mX9_ends) (w := 37) (j := 0) dX9_ends_23 (x_kk rfl) rfl kn_0 (by omega) (by omega) ?_
    refine f_aload_n (M := mX9_ends) 25 dX9_ends_24 rfl rfl ?_
    refine e_getR (M := mX9_ends) dX9_ends_25 fl_9007 (x_kk rfl) (x_kk rfl) rfl (wf_9_0 hR) ?_
    refine f_bipush (M := mX9_ends) 30 dX9_ends_28 kb_6 rfl ?_
    refine e_ild (M := mX9_ends) (w := 606) (j := 6) dX9_ends_30 (x_kk rfl) rfl kn_6 (by omega) (by omega) ?_
    refine f_i2l (M := mX9_ends) 32 dX9_ends_31 rfl ?_
    refine f_lmul (M := mX9_ends) 33 dX9_ends_32 rfl ?_
    refine f_ldc2 (M := mX9_ends) 36 dX9_ends_33 (x_kk rfl) csl_9278 rfl ?_
    refine e_ldiv (M := mX9_ends) dX9_ends_36 (by decide) ?_
    refine f_ladd (M := mX9_ends) 38 dX9_ends_37 rfl ?_
    refine e_lst (M := mX9_ends) (w := 37) (j := 0) dX9_ends_38 (x_kk rfl) rfl kn_0 (by omega) (by omega) ?_
    refine f_aload_n (M := mX9_ends) 40 dX9_ends_39 rfl rfl ?_
    refine f_aload_n (M := mX9_ends) 41 dX9_ends_40 rfl rfl ?_
    refine e_getR (M := mX9_ends) dX9_ends_41 fl_9007 (x_kk rfl) (x_kk rfl) rfl (wf_9_0 hR) ?_
    refine f_bipush (M := mX9_ends) 46 dX9_ends_44 kb_13 rfl ?_
    refine e_ild (M := mX9_ends) (w := 606) (j := 13) dX9_ends_46 (x_kk rfl) rfl kn_13 (by omega) (by omega) ?_
    refine e_cV (M := mX9_ends) [_] 0 0 dX9_ends_47 pa_9280 pb_9280 cc_9280 rfl rfl rfl rfl rfl (x_kk rfl) (x_kk rfl) rfl (mv_charge hR hNl hl hNs hn hIL hNm hmm) rfl ?_
    refine f_lstore_n (M := mX9_ends) (ls' := [_, _, _]) 51 dX9_ends_50 rfl rfl rfl ?_
    refine f_aload_n (M := mX9_ends) 52 dX9_ends_51 rfl rfl ?_
    refine e_getR (M := mX9_ends) dX9_ends_52 fl_9019 (x_kk rfl) (x_kk rfl) rfl (wf_9_3 hR) ?_
    refine f_iconst (M := mX9_ends) 56 dX9_ends_55 ki_0 rfl ?_
    refine f_dup2 (M := mX9_ends) 57 dX9_ends_56 rfl rfl rfl ?_
    refine e_lld (M := mX9_ends) (w := 37) (j := 0) dX9_ends_57 (x_kk rfl) rfl kn_0 (by omega) (by omega) ?_
    refine f_lload_n (M := mX9_ends) 59 dX9_ends_58 rfl rfl ?_
    refine f_ladd (M := mX9_ends) 60 dX9_ends_59 rfl ?_
    refine e_lst (M := mX9_ends) (w := 37) (j := 0) dX9_ends_60 (x_kk rfl) rfl kn_0 (by omega) (by omega) ?_
    refine f_aload_n (M := mX9_ends) 62 dX9_ends_61 rfl rfl ?_
    refine e_getR (M := mX9_ends) dX9_ends_62 fl_9019 (x_kk rfl) (x_kk rfl) rfl (wf_9_3 hR) ?_
    refine f_iconst (M := mX9_ends) 66 dX9_ends_65 ki_1 rfl ?_
    refine f_aload_n (M := mX9_ends) 67 dX9_ends_66 rfl rfl ?_
    refine e_getR (M := mX9_ends) dX9_ends_67 fl_9007 (x_kk rfl) (x_kk rfl) rfl (wf_9_0 hR) ?_
    refine f_bipush (M := mX9_ends) 72 dX9_ends_70 kb_13 rfl ?_
    refine e_ild (M := mX9_ends) (w := 606) (j := 13) dX9_ends_72 (x_kk rfl) rfl kn_13 (by omega) (by omega) ?_
    refine f_iadd (M := mX9_ends) 74 dX9_ends_73 rfl ?_
    refine f_lload_n (M := mX9_ends) 75 dX9_ends_74 rfl rfl ?_
    refine e_lst (M := mX9_ends) (w := 37) (j := (1) + (Nm)) dX9_ends_75 (x_kk rfl) rfl (ix_add kn_1 hmm) (by omega) (by omega) ?_
    refine e_rv (M := mX9_ends) dX9_ends_76 rfl (x_kk rfl) (x_kk rfl) ?_
    exact (by simp only [x_facF, fac_up, x_up_self, up_up, fac_o (q := 229) (by decide), show sp_wi (I 226) (L 229 0) = _ from if_neg (fun z => h1 (lc_le.mpr z)), va_uu])
theorem kx_endMonth {N β : Nat} {a : Nat → Int32} {b : Nat → Int64} (H : y_CS N I L R β a b) {Ns Np Nl Nm : Nat} (Z : y_Z a Ns Np Nl Nm) {I0 : Nat → Nat → Int32} {L0 : Nat → Nat → Int64} (hk : x_Cv X mX3_keep [.ref 3, .ref β] (I, L, R) 233 (.inl none, (I0, L0, R), 233)) (H1 : y_CS N I0 L0 R β a b) (h0 : a 0 = 3) (h1 : ¬ a 13 = 35)  : x_Cv X mX8_endMonth [.ref 0] (I, L, R) 233 (.inl (some (.long (sp_wi a (b 0) + sp_chg a Nm Nl Ns))), ((va_up I0 (β + 12) (va_up (I0 (β + 12)) 6 (a 13 + 1))), (va_up (va_up L0 (β + 16) (va_up (L0 (β + 16)) Nm (sp_chg a Nm Nl Ns))) (β + 12) (va_up (L0 (β + 12)) 7 (sp_wi a (b 0) + sp_chg a Nm Nl Ns))), R), 233) := by
  have Z0 := Z
  obtain ⟨hNs, hn, hNp, hp, hNl, hl, hNm, hmm⟩ := Z
  have hR := h_R H
  have hβ := h_β H
  have hS := h_S H
  show x_Ev X mX8_endMonth 0 [some (.ref 0)] [] ((I, L, R), 233, 0, 0) _
  refine f_aload_n (M := mX8_endMonth) 1 dX8_endMonth_0 rfl rfl ?_
  refine e_getR (M := mX8_endMonth) dX8_endMonth_1 fl_8026 (x_kk rfl) (x_kk rfl) rfl hS ?_
  refine e_getI (M := mX8_endMonth) dX8_endMonth_4 fl_8067 (x_kk rfl) (sl_lt hβ 0 rfl) (sl_s hβ 0 rfl rfl) ?_
  refine f_iconst (M := mX8_endMonth) 8 dX8_endMonth_7 ki_3 rfl ?_
  refine e_icmp_neF (M := mX8_endMonth) 30 dX8_endMonth_8 rfl (fun z => z (by rw [h_ph H]; exact h0)) ?_
  refine f_aload_n (M := mX8_endMonth) 12 dX8_endMonth_11 rfl rfl ?_
  refine e_getR (M := mX8_endMonth) dX8_endMonth_12 fl_8026 (x_kk rfl) (x_kk rfl) rfl hS ?_
  refine e_getR (M := mX8_endMonth) dX8_endMonth_15 fl_8227 (x_kk rfl) (sl_lt hβ 0 rfl) (sl_s hβ 0 rfl rfl) (wf_6_4 hR hβ) ?_
  refine e_getI (M := mX8_endMonth) dX8_endMonth_18 fl_8254 (x_kk rfl) (sl_lt hβ 12 rfl) (sl_s hβ 12 rfl rfl) ?_
  refine f_bipush (M := mX8_endMonth) 23 dX8_endMonth_21 kb_35 rfl ?_
  refine e_icmp_geF (M := mX8_endMonth) 30 dX8_endMonth_23 rfl (i_nle.mpr (by rw [(h_K H).2.2.2.2.2.1]; exact (nm35 hNm hmm).mpr h1)) ?_
  refine f_iconst (M := mX8_endMonth) 27 dX8_endMonth_26 ki_1 rfl ?_
  refine f_goto (M := mX8_endMonth) 31 dX8_endMonth_27 rfl ?_
  refine e_cS (M := mX8_endMonth) [] 1 6 dX8_endMonth_31 pa_8037 cc_8037 rfl rfl rfl rfl rfl (x_kk rfl) (x_kk rfl) rfl (c_X8_requireState (by decide)) rfl ?_
  refine f_aload_n (M := mX8_endMonth) 35 dX8_endMonth_34 rfl rfl ?_
  refine e_getR (M := mX8_endMonth) dX8_endMonth_35 fl_8019 (x_kk rfl) (x_kk rfl) rfl (wf_8_1 hR) ?_
  refine f_aload_n (M := mX8_endMonth) 39 dX8_endMonth_38 rfl rfl ?_
  refine e_getR (M := mX8_endMonth) dX8_endMonth_39 fl_8026 (x_kk rfl) (x_kk rfl) rfl hS ?_
  refine e_cV (M := mX8_endMonth) [] 1 6 dX8_endMonth_42 pa_8060 pb_8060 cc_8060 rfl rfl rfl rfl rfl (x_kk rfl) (x_kk rfl) rfl (hk) rfl ?_
  refine f_aload_n (M := mX8_endMonth) 46 dX8_endMonth_45 rfl rfl ?_
  refine e_getR (M := mX8_endMonth) dX8_endMonth_46 fl_8026 (x_kk rfl) (x_kk rfl) rfl hS ?_
  refine e_cV (M := mX8_endMonth) [] 1 6 dX8_endMonth_49 pa_8295 pb_8295 cc_8295 rfl rfl rfl rfl rfl (x_kk rfl) (x_kk rfl) (x_rcvOK (sl_lt hβ 0 rfl) (sl_s hβ 0 rfl rfl) rfl) (k_bookMonth H1 Z0) rfl ?_
  refine f_aload_n (M := mX8_endMonth) 53 dX8_endMonth_52 rfl rfl ?_
  refine e_getR (M := mX8_endMonth) dX8_endMonth_53 fl_8026 (x_kk rfl) (x_kk rfl) rfl hS ?_
  refine e_getR (M := mX8_endMonth) dX8_endMonth_56 fl_8227 (x_kk rfl) (sl_lt hβ 0 rfl) (sl_s hβ 0 rfl rfl) (wf_6_4 hR hβ) ?_
  refine f_dup (M := mX8_endMonth) 60 dX8_endMonth_59 rfl rfl ?_
  refine e_getI (M := mX8_endMonth) dX8_endMonth_60 fl_8254 (x_kk rfl) (sl_lt hβ 12 rfl) (sl_s hβ 12 rfl rfl) ?_
  refine f_iconst (M := mX8_endMonth) 64 dX8_endMonth_63 ki_1 rfl ?_
  refine f_iadd (M := mX8_endMonth) 65 dX8_endMonth_64 rfl ?_
  refine e_putI (M := mX8_endMonth) dX8_endMonth_65 fl_8254 (x_kk rfl) (sl_lt hβ 12 rfl) (sl_s hβ 12 rfl rfl) (fun q9 => Bool.noConfusion q9) ?_
  refine f_aload_n (M := mX8_endMonth) 69 dX8_endMonth_68 rfl rfl ?_
  refine e_getR (M := mX8_endMonth) dX8_endMonth_69 fl_8026 (x_kk rfl) (x_kk rfl) rfl hS ?_
  refine e_getR (M := mX8_endMonth) dX8_endMonth_72 fl_8227 (x_kk rfl) (sl_lt hβ 0 rfl) (sl_s hβ 0 rfl rfl) (wf_6_4 hR hβ) ?_
  refine e_getL (M := mX8_endMonth) dX8_endMonth_75 fl_8298 (x_kk rfl) (sl_lt hβ 12 rfl) (sl_s hβ 12 rfl rfl) ?_
  refine e_rl (M := mX8_endMonth) dX8_endMonth_78 rfl (x_kk rfl) (x_kk rfl) ?_
  exact (by simp only [x_up_self, (h_K H1).2.2.2.2.2.1])
theorem mx_endMonth (hR : x_wf R) {a : Nat → Int32} (ha : I 226 = a) {Ns Np Nl Nm : Nat} (Z : y_Z a Ns Np Nl Nm) {I0 : Nat → Nat → Int32} {L0 : Nat → Nat → Int64} (hk : x_Cv X mX9_keeps [.ref 225] (x_tw I 0, L, R) 233 (.inl none, (I0, L0, R), 233)) (ha0 : I0 226 = a) (h0 : a 0 = 3) (h1 : ¬ a 13 = 35)  {b : Nat → Int64} (hb0 : L0 229 = b) (hIL : y_IL a) : x_Cv X mX9_endMonth [.ref 225] (I, L, R) 233 (.inl (some (.long (sp_wi a (b 0) + sp_chg a Nm Nl Ns))), (va_up I0 226 (va_up a 13 (a 13 + 1)), va_up (x_facF L0 a Nl) 229 (va_up (va_up b 0 (sp_wi a (b 0) + sp_chg a Nm Nl Ns)) (1 + Nm) (sp_chg a Nm Nl Ns)), R), 233) := by
  subst ha
  have Z0 := Z
  obtain ⟨hNs, hn, hNp, hp, hNl, hl, hNm, hmm⟩ := Z
  have me := m_ends (X := X) (I := I0) (L := L0) hR (Ns := Ns) (Np := Np) (Nl := Nl) (Nm := Nm) (by rw [ha0]; exact Z0) (by rw [ha0]; exact hIL)
  rw [ha0, hb0] at me
  show x_Ev X mX9_endMonth 0 [some (.ref 225)] [] ((I, L, R), 233, 0, 0) _
  refine f_aload_n (M := mX9_endMonth) 1 dX9_endMonth_0 rfl rfl ?_
  refine f_aload_n (M := mX9_endMonth) 2 dX9_endMonth_1 rfl rfl ?_
  refine e_getR (M := mX9_endMonth) dX9_endMonth_2 fl_9007 (x_kk rfl) (x_kk rfl) rfl (wf_9_0 hR) ?_
  refine f_iconst (M := mX9_endMonth) 6 dX9_endMonth_5 ki_0 rfl ?_
  refine e_ild (M := mX9_endMonth) (w := 606) (j := 0) dX9_endMonth_6 (x_kk rfl) rfl kn_0 (by omega) (by omega) ?_
  refine f_iconst (M := mX9_endMonth) 8 dX9_endMonth_7 ki_3 rfl ?_
  refine e_icmp_neF (M := mX9_endMonth) 23 dX9_endMonth_8 rfl (fun z => z h0) ?_
  refine f_aload_n (M := mX9_endMonth) 12 dX9_endMonth_11 rfl rfl ?_
  refine e_getR (M := mX9_endMonth) dX9_endMonth_12 fl_9007 (x_kk rfl) (x_kk rfl) rfl (wf_9_0 hR) ?_
  refine f_bipush (M := mX9_endMonth) 17 dX9_endMonth_15 kb_13 rfl ?_
  refine e_ild (M := mX9_endMonth) (w := 606) (j := 13) dX9_endMonth_17 (x_kk rfl) rfl kn_13 (by omega) (by omega) ?_
  refine f_bipush (M := mX9_endMonth) 20 dX9_endMonth_18 kb_35 rfl ?_
  refine e_icmp_neT (M := mX9_endMonth) 27 dX9_endMonth_20 rfl h1 ?_
  refine f_iconst (M := mX9_endMonth) 28 dX9_endMonth_27 ki_0 rfl ?_
  refine e_putI (M := mX9_endMonth) dX9_endMonth_28 fl_9033 (x_kk rfl) (x_kk rfl) rfl (fun q9 => Bool.noConfusion q9) ?_
  refine f_aload_n (M := mX9_endMonth) 32 dX9_endMonth_31 rfl rfl ?_
  refine e_getI (M := mX9_endMonth) dX9_endMonth_32 fl_9033 (x_kk rfl) (x_kk rfl) rfl ?_
  refine e_if_leT (M := mX9_endMonth) 40 dX9_endMonth_35 rfl (show (0 : Int32) ≤ 0 by decide) ?_
  refine f_aload_n (M := mX9_endMonth) 41 dX9_endMonth_40 rfl rfl ?_
  refine e_cV (M := mX9_endMonth) [] 0 0 dX9_endMonth_41 pa_9128 pb_9128 cc_9128 rfl rfl rfl rfl rfl (x_kk rfl) (x_kk rfl) rfl (hk) rfl ?_
  refine f_aload_n (M := mX9_endMonth) 45 dX9_endMonth_44 rfl rfl ?_
  refine e_cV (M := mX9_endMonth) [] 0 0 dX9_endMonth_45 pa_9283 pb_9283 cc_9283 rfl rfl rfl rfl rfl (x_kk rfl) (x_kk rfl) rfl (me) rfl ?_
  refine f_aload_n (M := mX9_endMonth) 49 dX9_endMonth_48 rfl rfl ?_
  refine e_getR (M := mX9_endMonth) dX9_endMonth_49 fl_9007 (x_kk rfl) (x_kk rfl) rfl (wf_9_0 hR) ?_
  refine f_bipush (M := mX9_endMonth) 54 dX9_endMonth_52 kb_13 rfl ?_
  refine f_dup2 (M := mX9_endMonth) 55 dX9_endMonth_54 rfl rfl rfl ?_
  refine e_ild (M := mX9_endMonth) (w := 606) (j := 13) dX9_endMonth_55 (x_kk rfl) rfl kn_13 (by omega) (by omega) ?_
  refine f_iconst (M := mX9_endMonth) 57 dX9_endMonth_56 ki_1 rfl ?_
  refine f_iadd (M := mX9_endMonth) 58 dX9_endMonth_57 rfl ?_
  refine e_ist (M := mX9_endMonth) (w := 606) (j := 13) dX9_endMonth_58 (x_kk rfl) rfl kn_13 (by omega) (by omega) ?_
  refine f_aload_n (M := mX9_endMonth) 60 dX9_endMonth_59 rfl rfl ?_
  refine e_getR (M := mX9_endMonth) dX9_endMonth_60 fl_9019 (x_kk rfl) (x_kk rfl) rfl (wf_9_3 hR) ?_
  refine f_iconst (M := mX9_endMonth) 64 dX9_endMonth_63 ki_0 rfl ?_
  refine e_lld (M := mX9_endMonth) (w := 37) (j := 0) dX9_endMonth_64 (x_kk rfl) rfl kn_0 (by omega) (by omega) ?_
  refine e_rl (M := mX9_endMonth) dX9_endMonth_65 rfl (x_kk rfl) (x_kk rfl) ?_
  exact (by simp only [ha0, x_up_self, x_up_ne _ _ (show 0 ≠ 1 + Nm by omega)])
section
variable {β : Nat} {a : Nat → Int32} {b b' : Nat → Int64} {L' : Nat → Nat → Int64}
theorem RK_em {x : Int32} (hL : L' (β + 12) 7 = b' 0) (hL2 : ∀ m, m < 36 → L' (β + 16) m = b' (1 + m)) (h : y_RK I L β a b) : y_RK (va_up I (β + 12) (va_up (I (β + 12)) 6 x)) L' β (va_up a 13 x) b' := by
  obtain ⟨h1, h2, h4, h5, h6, h7, h8, h9⟩ := h
  unfold y_RK
  rw [x_up_self, x_up_ne _ _ (show β + 13 ≠ β + 12 by omega), x_up_ne _ _ (show β + 14 ≠ β + 12 by omega), x_up_ne _ _ (show β + 15 ≠ β + 12 by omega), x_up_ne _ _ (show (0 : Nat) ≠ 13 by decide), x_up_ne _ _ (show (11 : Nat) ≠ 13 by decide), x_up_ne _ _ (show (15 : Nat) ≠ 13 by decide), x_up_ne _ _ (show (4 : Nat) ≠ 6 by decide), x_up_ne _ _ (show (5 : Nat) ≠ 6 by decide), x_up_self, x_up_self]
  exact ⟨fun z k hk => by rw [x_up_ne _ _ (by omega)]; exact h1 z k hk, fun k hk => by rw [x_up_ne _ _ (by omega)]; exact h2 k hk, fun k hk q hq => by rw [x_up_ne _ _ (by omega)]; exact h4 k hk q hq, h5, h6, rfl, hL2, hL⟩
theorem IK_em {m : Nat} (hm : m + 1 < 36) (h13 : a 13 = Int32.ofNat m) (h8 : ¬ a 0 = 8) (h : y_IK a) : y_IK (va_up a 13 (a 13 + 1)) := by
  obtain ⟨_, h2, h3, h4, h5, h6, _⟩ := h
  unfold y_IK
  rw [x_up_self, x_up_ne _ _ (show (15 : Nat) ≠ 13 by decide), x_up_ne _ _ (show (0 : Nat) ≠ 13 by decide), x_up_ne _ _ (show (11 : Nat) ≠ 13 by decide), x_up_ne _ _ (show (16 : Nat) ≠ 13 by decide)]
  exact ⟨⟨m + 1, hm, by rw [h13, n_inc]⟩, h2, fun s hs => by rw [x_up_ne _ _ (by omega)]; exact h3 s hs, fun j hj => by rw [x_up_ne _ _ (by omega)]; exact h4 j hj, h5, h6, fun z => absurd z h8⟩
theorem bk_12 {x y : Int64} {m : Nat} : va_up (va_up L (β + 16) (va_up (L (β + 16)) m x)) (β + 12) (va_up (L (β + 12)) 7 y) (β + 12) 7 = y := by rw [x_up_self, x_up_self]
theorem bk_16 {x y : Int64} {m : Nat} : va_up (va_up L (β + 16) (va_up (L (β + 16)) m x)) (β + 12) (va_up (L (β + 12)) 7 y) (β + 16) = va_up (L (β + 16)) m x := by rw [x_up_ne _ _ (by omega), x_up_self]
theorem b1_0 {x y : Int64} {m : Nat} : va_up (va_up b 0 x) (1 + m) y 0 = x := by rw [x_up_ne _ _ (by omega), x_up_self]
theorem b1_m {x y : Int64} {m : Nat} {f : Nat → Int64} (hf : ∀ k, k < 36 → f k = b (1 + k)) : ∀ k, k < 36 → va_up f m y k = va_up (va_up b 0 x) (1 + m) y (1 + k) := by
  intro k hk
  by_cases e : k = m
  · rw [e, x_up_self, x_up_self]
  · rw [x_up_ne _ _ e, x_up_ne _ _ (by omega), x_up_ne _ _ (by omega)]; exact hf k hk
end
theorem nm_1 {x : Int32} {m : Nat} (h : ¬ x = 35) (hx : x = Int32.ofNat m) (hm : m < 36) : m + 1 < 36 := by
  have : ¬ m = 35 := fun z => h (by rw [hx, z]; decide)
  omega
theorem sim_endMonth (T : y_T N I L R) : y_OL N X mL_endMonth [.ref 0, .ref 232] mX9_endMonth [.ref 225] I L R := by
  have T0 := T
  obtain ⟨a, b, kn, ks, bf, bn, ep, ⟨β, δ, γ, ν, hB⟩, hM, hI⟩ := T
  have H : y_CS N I L R β a b := ⟨hM.1, hB.1.2.1, hB.1.2.2.2.2.1, hB.2.2.2.2.2.1, hI.1⟩
  obtain ⟨Ns, Np, Nl, Nm, Z⟩ := Z_of hI.1
  have hR := hM.1
  have ha : I 226 = a := hM.2.1
  have hb : L 229 = b := hM.2.2.1
  subst ha
  subst hb
  obtain ⟨hNs, hn, hNp, hp, hNl, hl, hNm, hmm⟩ := id Z
  by_cases h0 : I 226 0 = 3
  · skip
    by_cases h1 : ¬ I 226 13 = 35
    · skip
      obtain ⟨I0, L0, hk, S1, fr, sm⟩ := keep_ok (X := X) hB (h60_of (h_IL H))
      have H1 : y_CS N I0 L0 R β (I 226) (L 229) := ⟨hR, h_β H, h_S H, S1.2.2.2.2.2.1, hI.1⟩
      have hβ := h_β H
      have k1 := w_endMonth (kx_endMonth H Z hk H1 h0 h1 )
      have out : ∀ cc, (∀ j, j < 22 → ¬ cc = β + j) → (va_up I0 (β + 12) (va_up (I0 (β + 12)) 6 (I 226 13 + 1))) cc = I0 cc ∧ (va_up (va_up L0 (β + 16) (va_up (L0 (β + 16)) Nm (sp_chg (I 226) Nm Nl Ns))) (β + 12) (va_up (L0 (β + 12)) 7 (sp_wi (I 226) (L 229 0) + sp_chg (I 226) Nm Nl Ns))) cc = L0 cc := fun cc ho => ⟨(x_up_ne _ _ (ho 12 (by decide))), (by rw [x_up_ne _ _ (ho 12 (by decide)), x_up_ne _ _ (ho 16 (by decide))])⟩
      have M1 := SM_f (I' := (va_up I0 (β + 12) (va_up (I0 (β + 12)) 6 (I 226 13 + 1)))) (L' := va_up (va_up (va_up L0 (β + 16) (va_up (L0 (β + 16)) Nm (sp_chg (I 226) Nm Nl Ns))) (β + 12) (va_up (L0 (β + 12)) 7 (sp_wi (I 226) (L 229 0) + sp_chg (I 226) Nm Nl Ns))) 232 (va_up ((va_up (va_up L0 (β + 16) (va_up (L0 (β + 16)) Nm (sp_chg (I 226) Nm Nl Ns))) (β + 12) (va_up (L0 (β + 12)) 7 (sp_wi (I 226) (L 229 0) + sp_chg (I 226) Nm Nl Ns))) 232) 0 (sp_wi (I 226) (L 229 0) + sp_chg (I 226) Nm Nl Ns))) hM hR (fun cc z1 z2 => ⟨(out cc (fun j hj => sl_far hβ (Or.inr z1) hj)).1.trans (fr cc z1).1, (x_up_ne _ _ (by omega)).trans ((out cc (fun j hj => sl_far hβ (Or.inr z1) hj)).2.trans (fr cc z1).2)⟩)
      obtain ⟨I2, L2, hk9, M2, t6, l25, fr9⟩ := keeps_ok (X := X) (SM_tw (t := 0) M1)
      have m1 := mx_endMonth hR M1.2.1 Z hk9 M2.2.1 h0 h1 M2.2.2.1 (h_IL H)
      refine OL_c (a' := (va_up (I 226) 13 (I 226 13 + 1))) (b' := (va_up (va_up (L 229) 0 (sp_wi (I 226) (L 229 0) + sp_chg (I 226) Nm Nl Ns)) (1 + Nm) (sp_chg (I 226) Nm Nl Ns))) k1 ⟨β, δ, γ, _, SB_u S1 out ?_⟩ m1 ?_ (SM_a (SM_b (SM_fac M2))) (fr_t fr_tw (fr_t fr9 (fr_t fr_fac (fr_t fr_b fr_a)))) (In_p (by omega) hI ?_)
      · exact ⟨(by rw [x_up_ne _ _ (show β ≠ β + 12 by omega)]; exact (h_ph H1).trans (show _ = _ from (x_up_ne _ _ (by omega))).symm), RT_c (fun k z1 z2 => by rw [x_up_ne _ _ (show β + k ≠ β + 12 by omega)]) (fun j hj => x_up_ne _ _ (by omega)) (h_T H1), RC_c (fun k z1 z2 => by rw [x_up_ne _ _ (show β + k ≠ β + 12 by omega)]) (fun j hj => x_up_ne _ _ (by omega)) (h_C H1), RB_c (fun k z1 z2 => by rw [x_up_ne _ _ (show β + k ≠ β + 12 by omega)]) (by rw [x_up_ne _ _ (by omega)]) (fun j hj => x_up_ne _ _ (by omega)) (h_B H1), RK_em (by rw [bk_12, b1_0]) (fun m hm => by rw [bk_16]; exact b1_m (h_K H1).2.2.2.2.2.2.1 m hm) (h_K H1), RL_c (fun k z1 z2 => by rw [x_up_ne _ _ (show β + k ≠ β + 12 by omega)]) (fun j hj => x_up_ne _ _ (by omega)) (h60_of (h_IL H)) (h_L H1)⟩
      · exact t6
      · have z8 : ¬ I 226 0 = 8 := by rw [h0]; decide
        exact ⟨IT_c (by rw [x_up_ne _ _ (by omega)]; exact (h_IT H).1) (fun j hj => x_up_ne _ _ (by omega)) (h_IT H), IC_c (fun j hj => x_up_ne _ _ (by omega)) (h_IC H), IB_c (by omega) (fun z => by rw [x_up_ne _ _ (by omega)] at z; exact z) (fun j hj => x_up_ne _ _ (by omega)) (h_IB H), IV_c (fun j hj => x_up_ne _ _ (by omega)) (h_IV H), IK_em (m := Nm) (nm_1 h1 hmm hNm) hmm z8 (h_IK H), IL_c (fun j hj => x_up_ne _ _ (by omega)) (h_IL H), (fun j hj => (x_up_ne _ _ (by omega)).trans (hI.1.2.2.2.2.2.2.1 j hj)), (fun j hj => by rw [x_up_ne _ _ (by omega), x_up_ne _ _ (by omega)]; exact hI.1.2.2.2.2.2.2.2 j hj)⟩
    · exact OL_x T0 (by decide) (w_endMonth_x0 (kf_endMonth_1 H Z h0 h1)) (mf_endMonth_1 hR Z h0 h1)
  · exact OL_x T0 (by decide) (w_endMonth_x0 (kf_endMonth_0 H Z h0)) (mf_endMonth_0 hR Z h0)
end

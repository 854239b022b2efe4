/-! ===== changes of both, seventh: award (laid by wip/whole/src/w7.py) ===== -/
section
variable {X : x_X} {I : Nat → Nat → Int32} {L : Nat → Nat → Int64} {R : Nat → Nat → Option Nat} {N : Nat}
theorem kf_award_0 {N β : Nat} {a : Nat → Int32} {b : Nat → Int64} (H : y_CS N I L R β a b) {Ns Np Nl Nm : Nat} (Z : y_Z a Ns Np Nl Nm) (h0 : ¬ (a 0 = 2 ∨ a 0 = 7)) : x_Cv X mX8_award [.ref 0] (I, L, R) 233 (.inr 0, (I, L, R), 233) := by
  obtain ⟨hNs, hn, hNp, hp, hNl, hl, hNm, hmm⟩ := Z
  have hR := h_R H
  have hβ := h_β H
  have hS := h_S H
  show x_Ev X mX8_award 0 [some (.ref 0), none] [] ((I, L, R), 233, 0, 0) _
  refine f_aload_n (M := mX8_award) 1 dX8_award_0 rfl rfl ?_
  refine e_getR (M := mX8_award) dX8_award_1 fl_8026 (x_kk rfl) (x_kk rfl) rfl hS ?_
  refine e_getI (M := mX8_award) dX8_award_4 fl_8067 (x_kk rfl) (sl_lt hβ 0 rfl) (sl_s hβ 0 rfl rfl) ?_
  refine f_iconst (M := mX8_award) 8 dX8_award_7 ki_2 rfl ?_
  refine e_icmp_eqF (M := mX8_award) 23 dX8_award_8 rfl (fun z => h0 (Or.inl ((h_ph H).symm.trans z))) ?_
  refine f_aload_n (M := mX8_award) 12 dX8_award_11 rfl rfl ?_
  refine e_getR (M := mX8_award) dX8_award_12 fl_8026 (x_kk rfl) (x_kk rfl) rfl hS ?_
  refine e_getI (M := mX8_award) dX8_award_15 fl_8067 (x_kk rfl) (sl_lt hβ 0 rfl) (sl_s hβ 0 rfl rfl) ?_
  refine f_bipush (M := mX8_award) 20 dX8_award_18 kb_7 rfl ?_
  refine e_icmp_neT (M := mX8_award) 27 dX8_award_20 rfl (fun z => h0 (Or.inr ((h_ph H).symm.trans z))) ?_
  refine f_iconst (M := mX8_award) 28 dX8_award_27 ki_0 rfl ?_
  exact e_cSX (M := mX8_award) 1 6 dX8_award_28 pa_8037 cc_8037 rfl rfl rfl rfl rfl (x_kk rfl) (x_kk rfl) rfl (c_X8_requireState_x rfl) rfl
theorem mf_award_0 (hR : x_wf R) {Ns Np Nl Nm : Nat} (Z : y_Z (I 226) Ns Np Nl Nm) (h0 : ¬ (I 226 0 = 2 ∨ I 226 0 = 7)) : x_Cv X mX9_award [.ref 225] (I, L, R) 233 (.inl (some (.int (0))), (x_tw I 1, L, R), 233) := by
  obtain ⟨hNs, hn, hNp, hp, hNl, hl, hNm, hmm⟩ := Z
  show x_Ev X mX9_award 0 [some (.ref 225), none, none] [] ((I, L, R), 233, 0, 0) _
  refine f_aload_n (M := mX9_award) 1 dX9_award_0 rfl rfl ?_
  refine f_aload_n (M := mX9_award) 2 dX9_award_1 rfl rfl ?_
  refine e_getR (M := mX9_award) dX9_award_2 fl_9007 (x_kk rfl) (x_kk rfl) rfl (wf_9_0 hR) ?_
  refine f_iconst (M := mX9_award) 6 dX9_award_5 ki_0 rfl ?_
  refine e_ild (M := mX9_award) (w := 606) (j := 0) dX9_award_6 (x_kk rfl) rfl kn_0 (by omega) (by omega) ?_
  refine f_iconst (M := mX9_award) 8 dX9_award_7 ki_2 rfl ?_
  refine e_icmp_eqF (M := mX9_award) 26 dX9_award_8 rfl (fun z => h0 (Or.inl z)) ?_
  refine f_aload_n (M := mX9_award) 12 dX9_award_11 rfl rfl ?_
  refine e_getR (M := mX9_award) dX9_award_12 fl_9007 (x_kk rfl) (x_kk rfl) rfl (wf_9_0 hR) ?_
  refine f_iconst (M := mX9_award) 16 dX9_award_15 ki_0 rfl ?_
  refine e_ild (M := mX9_award) (w := 606) (j := 0) dX9_award_16 (x_kk rfl) rfl kn_0 (by omega) (by omega) ?_
  refine f_bipush (M := mX9_award) 19 dX9_award_17 kb_7 rfl ?_
  refine e_icmp_eqF (M := mX9_award) 26 dX9_award_19 rfl (fun z => h0 (Or.inr z)) ?_
  refine f_iconst (M := mX9_award) 23 dX9_award_22 ki_1 rfl ?_
  refine f_goto (M := mX9_award) 42 dX9_award_23 rfl ?_
  refine e_putI (M := mX9_award) dX9_award_42 fl_9033 (x_kk rfl) (x_kk rfl) rfl (fun q9 => Bool.noConfusion q9) ?_
  refine f_aload_n (M := mX9_award) 46 dX9_award_45 rfl rfl ?_
  refine e_getI (M := mX9_award) dX9_award_46 fl_9033 (x_kk rfl) (x_kk rfl) rfl ?_
  refine e_if_leF (M := mX9_award) 54 dX9_award_49 rfl (show ¬ ((1 : Int32) ≤ 0) by decide) ?_
  refine f_iconst (M := mX9_award) 53 dX9_award_52 ki_0 rfl ?_
  refine e_ri (M := mX9_award) dX9_award_53 rfl (x_kk rfl) (x_kk rfl) ?_
  rfl
theorem kf_award_1 {N β : Nat} {a : Nat → Int32} {b : Nat → Int64} (H : y_CS N I L R β a b) {Ns Np Nl Nm : Nat} (Z : y_Z a Ns Np Nl Nm) (h0 : a 0 = 2 ∨ a 0 = 7) (h : sp_win a (-1) 100 Ns 8 = none) : x_Cv X mX8_award [.ref 0] (I, L, R) 233 (.inr 3, (I, L, R), 233) := by
  obtain ⟨hNs, hn, hNp, hp, hNl, hl, hNm, hmm⟩ := Z
  have hR := h_R H
  have hβ := h_β H
  have hS := h_S H
  show x_Ev X mX8_award 0 [some (.ref 0), none] [] ((I, L, R), 233, 0, 0) _
  rcases h0 with h0 | h0
  · refine f_aload_n (M := mX8_award) 1 dX8_award_0 rfl rfl ?_
    refine e_getR (M := mX8_award) dX8_award_1 fl_8026 (x_kk rfl) (x_kk rfl) rfl hS ?_
    refine e_getI (M := mX8_award) dX8_award_4 fl_8067 (x_kk rfl) (sl_lt hβ 0 rfl) (sl_s hβ 0 rfl rfl) ?_
    refine f_iconst (M := mX8_award) 8 dX8_award_7 ki_2 rfl ?_
    refine e_icmp_eqT (M := mX8_award) 23 dX8_award_8 rfl ((h_ph H).trans h0) ?_
    refine f_iconst (M := mX8_award) 24 dX8_award_23 ki_1 rfl ?_
    refine f_goto (M := mX8_award) 28 dX8_award_24 rfl ?_
    refine e_cS (M := mX8_award) [] 1 6 dX8_award_28 pa_8037 cc_8037 rfl rfl rfl rfl rfl (x_kk rfl) (x_kk rfl) rfl (c_X8_requireState (by decide)) rfl ?_
    refine f_aload_n (M := mX8_award) 32 dX8_award_31 rfl rfl ?_
    refine e_getR (M := mX8_award) dX8_award_32 fl_8026 (x_kk rfl) (x_kk rfl) rfl hS ?_
    refine e_getR (M := mX8_award) dX8_award_35 fl_8148 (x_kk rfl) (sl_lt hβ 0 rfl) (sl_s hβ 0 rfl rfl) (wf_6_3 hR hβ) ?_
    refine f_aload_n (M := mX8_award) 39 dX8_award_38 rfl rfl ?_
    refine e_getR (M := mX8_award) dX8_award_39 fl_8026 (x_kk rfl) (x_kk rfl) rfl hS ?_
    refine e_getR (M := mX8_award) dX8_award_42 fl_8083 (x_kk rfl) (sl_lt hβ 0 rfl) (sl_s hβ 0 rfl rfl) (wf_6_1 hR hβ) ?_
    refine e_cV (M := mX8_award) [_] 1 6 dX8_award_45 pa_8208 pb_8208 cc_8208 rfl rfl rfl rfl rfl (x_kk rfl) (x_kk rfl) (x_rcvOK (sl_lt hβ 7 rfl) (sl_s hβ 7 rfl rfl) rfl) ((by have e := k_winner (X := X) H hNs hn; rw [h] at e; exact e)) rfl ?_
    refine f_istore_n (M := mX8_award) (ls' := [_, _]) 49 dX8_award_48 rfl rfl rfl ?_
    refine f_iload_n (M := mX8_award) 50 dX8_award_49 rfl rfl ?_
    refine f_iconst (M := mX8_award) 51 dX8_award_50 ki_m1 rfl ?_
    refine e_icmp_eqT (M := mX8_award) 58 dX8_award_51 rfl rfl ?_
    refine f_iconst (M := mX8_award) 59 dX8_award_58 ki_0 rfl ?_
    exact e_cSX (M := mX8_award) 2 12 dX8_award_59 pa_8211 cc_8211 rfl rfl rfl rfl rfl (x_kk rfl) (x_kk rfl) rfl (c_X8_requireFound_x rfl) rfl
  · refine f_aload_n (M := mX8_award) 1 dX8_award_0 rfl rfl ?_
    refine e_getR (M := mX8_award) dX8_award_1 fl_8026 (x_kk rfl) (x_kk rfl) rfl hS ?_
    refine e_getI (M := mX8_award) dX8_award_4 fl_8067 (x_kk rfl) (sl_lt hβ 0 rfl) (sl_s hβ 0 rfl rfl) ?_
    refine f_iconst (M := mX8_award) 8 dX8_award_7 ki_2 rfl ?_
    refine e_icmp_eqF (M := mX8_award) 23 dX8_award_8 rfl (fun z => absurd ((h_ph H).symm.trans z) (by rw [h0]; decide)) ?_
    refine f_aload_n (M := mX8_award) 12 dX8_award_11 rfl rfl ?_
    refine e_getR (M := mX8_award) dX8_award_12 fl_8026 (x_kk rfl) (x_kk rfl) rfl hS ?_
    refine e_getI (M := mX8_award) dX8_award_15 fl_8067 (x_kk rfl) (sl_lt hβ 0 rfl) (sl_s hβ 0 rfl rfl) ?_
    refine f_bipush (M := mX8_award) 20 dX8_award_18 kb_7 rfl ?_
    refine e_icmp_neF (M := mX8_award) 27 dX8_award_20 rfl (fun z => z ((h_ph H).trans h0)) ?_
    refine f_iconst (M := mX8_award) 24 dX8_award_23 ki_1 rfl ?_
    refine f_goto (M := mX8_award) 28 dX8_award_24 rfl ?_
    refine e_cS (M := mX8_award) [] 1 6 dX8_award_28 pa_8037 cc_8037 rfl rfl rfl rfl rfl (x_kk rfl) (x_kk rfl) rfl (c_X8_requireState (by decide)) rfl ?_
    refine f_aload_n (M := mX8_award) 32 dX8_award_31 rfl rfl ?_
    refine e_getR (M := mX8_award) dX8_award_32 fl_8026 (x_kk rfl) (x_kk rfl) rfl hS ?_
    refine e_getR (M := mX8_award) dX8_award_35 fl_8148 (x_kk rfl) (sl_lt hβ 0 rfl) (sl_s hβ 0 rfl rfl) (wf_6_3 hR hβ) ?_
    refine f_aload_n (M := mX8_award) 39 dX8_award_38 rfl rfl ?_
    refine e_getR (M := mX8_award) dX8_award_39 fl_8026 (x_kk rfl) (x_kk rfl) rfl hS ?_
    refine e_getR (M := mX8_award) dX8_award_42 fl_8083 (x_kk rfl) (sl_lt hβ 0 rfl) (sl_s hβ 0 rfl rfl) (wf_6_1 hR hβ) ?_
    refine e_cV (M := mX8_award) [_] 1 6 dX8_award_45 pa_8208 pb_8208 cc_8208 rfl rfl rfl rfl rfl (x_kk rfl) (x_kk rfl) (x_rcvOK (sl_lt hβ 7 rfl) (sl_s hβ 7 rfl rfl) rfl) ((by have e := k_winner (X := X) H hNs hn; rw [h] at e; exact e)) rfl ?_
    refine f_istore_n (M := mX8_award) (ls' := [_, _]) 49 dX8_award_48 rfl rfl rfl ?_
    refine f_iload_n (M := mX8_award) 50 dX8_award_49 rfl rfl ?_
    refine f_iconst (M := mX8_award) 51 dX8_award_50 ki_m1 rfl ?_
    refine e_icmp_eqT (M := mX8_award) 58 dX8_award_51 rfl rfl ?_
    refine f_iconst (M := mX8_award) 59 dX8_award_58 ki_0 rfl ?_
    exact e_cSX (M := mX8_award) 2 12 dX8_award_59 pa_8211 cc_8211 rfl rfl rfl rfl rfl (x_kk rfl) (x_kk rfl) rfl (c_X8_requireFound_x rfl) rfl
theorem mf_award_1 (hR : x_wf R) {Ns Np Nl Nm : Nat} (Z : y_Z (I 226) Ns Np Nl Nm) (h0 : I 226 0 = 2 ∨ I 226 0 = 7) (h : sp_win (I 226) (-1) 100 Ns 8 = none) : x_Cv X mX9_award [.ref 225] (I, L, R) 233 (.inl (some (.int (0))), (x_tw I 2, L, R), 233) := by
  obtain ⟨hNs, hn, hNp, hp, hNl, hl, hNm, hmm⟩ := Z
  show x_Ev X mX9_award 0 [some (.ref 225), none, none] [] ((I, L, R), 233, 0, 0) _
  rcases h0 with h0 | h0
  · refine f_aload_n (M := mX9_award) 1 dX9_award_0 rfl rfl ?_
    refine f_aload_n (M := mX9_award) 2 dX9_award_1 rfl rfl ?_
    refine e_getR (M := mX9_award) dX9_award_2 fl_9007 (x_kk rfl) (x_kk rfl) rfl (wf_9_0 hR) ?_
    refine f_iconst (M := mX9_award) 6 dX9_award_5 ki_0 rfl ?_
    refine e_ild (M := mX9_award) (w := 606) (j := 0) dX9_award_6 (x_kk rfl) rfl kn_0 (by omega) (by omega) ?_
    refine f_iconst (M := mX9_award) 8 dX9_award_7 ki_2 rfl ?_
    refine e_icmp_eqT (M := mX9_award) 26 dX9_award_8 rfl h0 ?_
    refine f_aload_n (M := mX9_award) 27 dX9_award_26 rfl rfl ?_
    refine f_iconst (M := mX9_award) 28 dX9_award_27 ki_m1 rfl ?_
    refine f_bipush (M := mX9_award) 30 dX9_award_28 kb_100 rfl ?_
    refine e_cV (M := mX9_award) [_, _] 0 0 dX9_award_30 pa_9221 pb_9221 cc_9221 rfl rfl rfl rfl rfl (x_kk rfl) (x_kk rfl) rfl ((by have e := c_X9_winnerBy (X := X) (I := I) (L := L) (σ := -1) (h := 100) hR hNs hn; rw [h] at e; exact e)) rfl ?_
    refine f_iconst (M := mX9_award) 34 dX9_award_33 ki_m1 rfl ?_
    refine e_icmp_neF (M := mX9_award) 41 dX9_award_34 rfl (fun z => z rfl) ?_
    refine f_iconst (M := mX9_award) 38 dX9_award_37 ki_2 rfl ?_
    refine f_goto (M := mX9_award) 42 dX9_award_38 rfl ?_
    refine e_putI (M := mX9_award) dX9_award_42 fl_9033 (x_kk rfl) (x_kk rfl) rfl (fun q9 => Bool.noConfusion q9) ?_
    refine f_aload_n (M := mX9_award) 46 dX9_award_45 rfl rfl ?_
    refine e_getI (M := mX9_award) dX9_award_46 fl_9033 (x_kk rfl) (x_kk rfl) rfl ?_
    refine e_if_leF (M := mX9_award) 54 dX9_award_49 rfl (show ¬ ((2 : Int32) ≤ 0) by decide) ?_
    refine f_iconst (M := mX9_award) 53 dX9_award_52 ki_0 rfl ?_
    refine e_ri (M := mX9_award) dX9_award_53 rfl (x_kk rfl) (x_kk rfl) ?_
    rfl
  · refine f_aload_n (M := mX9_award) 1 dX9_award_0 rfl rfl ?_
    refine f_aload_n (M := mX9_award) 2 dX9_award_1 rfl rfl ?_
    refine e_getR (M := mX9_award) dX9_award_2 fl_9007 (x_kk rfl) (x_kk rfl) rfl (wf_9_0 hR) ?_
    refine f_iconst (M := mX9_award) 6 dX9_award_5 ki_0 rfl ?_
    refine e_ild (M := mX9_award) (w := 606) (j := 0) dX9_award_6 (x_kk rfl) rfl kn_0 (by omega) (by omega) ?_
    refine f_iconst (M := mX9_award) 8 dX9_award_7 ki_2 rfl ?_
    refine e_icmp_eqF (M := mX9_award) 26 dX9_award_8 rfl (by show ¬ I 226 0 = 2; rw [h0]; decide) ?_
    refine f_aload_n (M := mX9_award) 12 dX9_award_11 rfl rfl ?_
    refine e_getR (M := mX9_award) dX9_award_12 fl_9007 (x_kk rfl) (x_kk rfl) rfl (wf_9_0 hR) ?_
    refine f_iconst (M := mX9_award) 16 dX9_award_15 ki_0 rfl ?_
    refine e_ild (M := mX9_award) (w := 606) (j := 0) dX9_award_16 (x_kk rfl) rfl kn_0 (by omega) (by omega) ?_
    refine f_bipush (M := mX9_award) 19 dX9_award_17 kb_7 rfl ?_
    refine e_icmp_eqT (M := mX9_award) 26 dX9_award_19 rfl h0 ?_
    refine f_aload_n (M := mX9_award) 27 dX9_award_26 rfl rfl ?_
    refine f_iconst (M := mX9_award) 28 dX9_award_27 ki_m1 rfl ?_
    refine f_bipush (M := mX9_award) 30 dX9_award_28 kb_100 rfl ?_
    refine e_cV (M := mX9_award) [_, _] 0 0 dX9_award_30 pa_9221 pb_9221 cc_9221 rfl rfl rfl rfl rfl (x_kk rfl) (x_kk rfl) rfl ((by have e := c_X9_winnerBy (X := X) (I := I) (L := L) (σ := -1) (h := 100) hR hNs hn; rw [h] at e; exact e)) rfl ?_
    refine f_iconst (M := mX9_award) 34 dX9_award_33 ki_m1 rfl ?_
    refine e_icmp_neF (M := mX9_award) 41 dX9_award_34 rfl (fun z => z rfl) ?_
    refine f_iconst (M := mX9_award) 38 dX9_award_37 ki_2 rfl ?_
    refine f_goto (M := mX9_award) 42 dX9_award_38 rfl ?_
    refine e_putI (M := mX9_award) dX9_award_42 fl_9033 (x_kk rfl) (x_kk rfl) rfl (fun q9 => Bool.noConfusion q9) ?_
    refine f_aload_n (M := mX9_award) 46 dX9_award_45 rfl rfl ?_
    refine e_getI (M := mX9_award) dX9_award_46 fl_9033 (x_kk rfl) (x_kk rfl) rfl ?_
    refine e_if_leF (M := mX9_award) 54 dX9_award_49 rfl (show ¬ ((2 : Int32) ≤ 0) by decide) ?_
    refine f_iconst (M := mX9_award) 53 dX9_award_52 ki_0 rfl ?_
    refine e_ri (M := mX9_award) dX9_award_53 rfl (x_kk rfl) (x_kk rfl) ?_
    rfl
theorem bc_1 {β w k : Nat} : va_up (va_up (va_up (va_up I (β + 13) (x_mix (I (β + 8)) (I (β + 13)) k)) (β + 14) (x_mix (fun s => I (β + 9) (w * 6 + s)) (I (β + 14)) k)) (β + 13) (va_up (x_mix (I (β + 8)) (I (β + 13)) k) k (I (β + 8) k))) (β + 14) (va_up (x_mix (fun s => I (β + 9) (w * 6 + s)) (I (β + 14)) k) k (I (β + 9) (w * 6 + k))) = (va_up (va_up I (β + 13) (x_mix (I (β + 8)) (I (β + 13)) (k + 1))) (β + 14) (x_mix (fun s => I (β + 9) (w * 6 + s)) (I (β + 14)) (k + 1))) := by
  rw [up4 (show β + 13 ≠ β + 14 by omega), mix_up rfl, mix_up rfl]
theorem l_X6_beginContract (hR : x_wf R) {β : Nat} (hβ : x_sl β) {w : Nat} (hw : w < 8) {r : x_O × x_Mem × Nat} (kk : x_Ev X mX6_beginContract 50 [some (.ref β), some (.int (Int32.ofNat w)), some (.int (Int32.ofNat 6))] [] (((va_up (va_up I (β + 13) (x_mix (I (β + 8)) (I (β + 13)) 6)) (β + 14) (x_mix (fun s => I (β + 9) (w * 6 + s)) (I (β + 14)) 6)), L, R), 233, 0, 0) r) : ∀ d k, k + d = 6 → x_Ev X mX6_beginContract 2 [some (.ref β), some (.int (Int32.ofNat w)), some (.int (Int32.ofNat k))] [] (((va_up (va_up I (β + 13) (x_mix (I (β + 8)) (I (β + 13)) k)) (β + 14) (x_mix (fun s => I (β + 9) (w * 6 + s)) (I (β + 14)) k)), L, R), 233, 0, 0) r := by
  intro d
  induction d with
  | zero =>
    intro k hd
    obtain rfl : 6 = k := hd.symm
    refine f_iload_n (M := mX6_beginContract) 3 dX6_beginContract_2 rfl rfl ?_
    refine f_bipush (M := mX6_beginContract) 5 dX6_beginContract_3 kb_6 rfl ?_
    refine e_icmp_geT (M := mX6_beginContract) 50 dX6_beginContract_5 rfl (by decide) ?_
    exact kk
  | succ d ih =>
    intro k hd
    refine f_iload_n (M := mX6_beginContract) 3 dX6_beginContract_2 rfl rfl ?_
    refine f_bipush (M := mX6_beginContract) 5 dX6_beginContract_3 kb_6 rfl ?_
    refine e_icmp_geF (M := mX6_beginContract) 50 dX6_beginContract_5 rfl (by rw [kn_6, n_le (by omega) (by omega)]; omega) ?_
    refine f_aload_n (M := mX6_beginContract) 9 dX6_beginContract_8 rfl rfl ?_
    refine e_getR (M := mX6_beginContract) dX6_beginContract_9 fl_6035 (x_kk rfl) (sl_lt hβ 0 rfl) (sl_s hβ 0 rfl rfl) (wf_6_4 hR hβ) ?_
    refine e_getR (M := mX6_beginContract) dX6_beginContract_12 fl_6101 (x_kk rfl) (sl_lt hβ 12 rfl) (sl_s hβ 12 rfl rfl) (wf_1_0 hR hβ) ?_
    refine f_iload_n (M := mX6_beginContract) 16 dX6_beginContract_15 rfl rfl ?_
    refine f_aload_n (M := mX6_beginContract) 17 dX6_beginContract_16 rfl rfl ?_
    refine e_getR (M := mX6_beginContract) dX6_beginContract_17 fl_6028 (x_kk rfl) (sl_lt hβ 0 rfl) (sl_s hβ 0 rfl rfl) (wf_6_3 hR hβ) ?_
    refine e_getR (M := mX6_beginContract) dX6_beginContract_20 fl_6080 (x_kk rfl) (sl_lt hβ 7 rfl) (sl_s hβ 7 rfl rfl) (wf_0_0 hR hβ) ?_
    refine f_iload_n (M := mX6_beginContract) 24 dX6_beginContract_23 rfl rfl ?_
    refine e_ild (M := mX6_beginContract) (w := 6) (j := k) dX6_beginContract_24 (sl_lt hβ 8 rfl) (sl_shp hβ 8 rfl) rfl (by omega) (by omega) ?_
    refine e_ist (M := mX6_beginContract) (w := 6) (j := k) dX6_beginContract_25 (sl_lt hβ 13 rfl) (sl_shp hβ 13 rfl) rfl (by omega) (by omega) ?_
    refine f_aload_n (M := mX6_beginContract) 27 dX6_beginContract_26 rfl rfl ?_
    refine e_getR (M := mX6_beginContract) dX6_beginContract_27 fl_6035 (x_kk rfl) (sl_lt hβ 0 rfl) (sl_s hβ 0 rfl rfl) (wf_6_4 hR hβ) ?_
    refine e_getR (M := mX6_beginContract) dX6_beginContract_30 fl_6102 (x_kk rfl) (sl_lt hβ 12 rfl) (sl_s hβ 12 rfl rfl) (wf_1_1 hR hβ) ?_
    refine f_iload_n (M := mX6_beginContract) 34 dX6_beginContract_33 rfl rfl ?_
    refine f_aload_n (M := mX6_beginContract) 35 dX6_beginContract_34 rfl rfl ?_
    refine e_getR (M := mX6_beginContract) dX6_beginContract_35 fl_6028 (x_kk rfl) (sl_lt hβ 0 rfl) (sl_s hβ 0 rfl rfl) (wf_6_3 hR hβ) ?_
    refine f_iload_n (M := mX6_beginContract) 39 dX6_beginContract_38 rfl rfl ?_
    refine f_iload_n (M := mX6_beginContract) 40 dX6_beginContract_39 rfl rfl ?_
    refine e_cV (M := mX6_beginContract) [_, _, _] 0 0 dX6_beginContract_40 pa_6105 pb_6105 cc_6105 rfl rfl rfl rfl rfl (x_kk rfl) (x_kk rfl) (x_rcvOK (sl_lt hβ 7 rfl) (sl_s hβ 7 rfl rfl) rfl) (c_X0_rateOf hR hβ hw (by omega)) rfl ?_
    refine e_ist (M := mX6_beginContract) (w := 6) (j := k) dX6_beginContract_43 (sl_lt hβ 14 rfl) (sl_shp hβ 14 rfl) rfl (by omega) (by omega) ?_
    refine f_iinc (M := mX6_beginContract) (ls' := [_, _, _]) 47 dX6_beginContract_44 ki_1 rfl rfl rfl rfl ?_
    refine f_goto (M := mX6_beginContract) 2 dX6_beginContract_47 rfl ?_
    rw [n_inc (s := k)]; simp only [x_up_self, x_up_ne _ _ (show β + 8 ≠ β + 14 by omega), x_up_ne _ _ (show β + 8 ≠ β + 13 by omega), x_up_ne _ _ (show β + 13 ≠ β + 14 by omega), x_up_ne _ _ (show β + 14 ≠ β + 13 by omega), x_up_ne _ _ (show β + 9 ≠ β + 13 by omega), x_up_ne _ _ (show β + 9 ≠ β + 14 by omega)]; rw [bc_1]; exact ih (k + 1) (by omega)
theorem c_X6_beginContract (hR : x_wf R) {β : Nat} (hβ : x_sl β) {w : Nat} (hw : w < 8) : x_Cv X mX6_beginContract [.ref β, .int (Int32.ofNat w)] (I, L, R) 233 (.inl none, ((va_up (va_up (va_up (va_up I (β + 13) (x_mix (I (β + 8)) (I (β + 13)) 6)) (β + 14) (x_mix (fun s => I (β + 9) (w * 6 + s)) (I (β + 14)) 6)) (β + 12) (va_up (va_up (I (β + 12)) 5 (I (β + 10) w)) 4 (Int32.ofNat w))) β (va_up (I β) 0 3)), L, R), 233) := by
  show x_Ev X mX6_beginContract 0 [some (.ref β), some (.int (Int32.ofNat w)), none] [] ((I, L, R), 233, 0, 0) _
  refine f_iconst (M := mX6_beginContract) 1 dX6_beginContract_0 ki_0 rfl ?_
  refine f_istore_n (M := mX6_beginContract) (ls' := [_, _, _]) 2 dX6_beginContract_1 rfl rfl rfl ?_
  have l1 := fun kk => l_X6_beginContract (X := X) (I := I) (L := L) (r := (.inl none, ((va_up (va_up (va_up (va_up I (β + 13) (x_mix (I (β + 8)) (I (β + 13)) 6)) (β + 14) (x_mix (fun s => I (β + 9) (w * 6 + s)) (I (β + 14)) 6)) (β + 12) (va_up (va_up (I (β + 12)) 5 (I (β + 10) w)) 4 (Int32.ofNat w))) β (va_up (I β) 0 3)), L, R), 233)) hR hβ hw kk 6 0 rfl; rw [mix_0, mix_0, up_self, up_self] at l1; refine l1 ?_
  refine f_aload_n (M := mX6_beginContract) 51 dX6_beginContract_50 rfl rfl ?_
  refine e_getR (M := mX6_beginContract) dX6_beginContract_51 fl_6035 (x_kk rfl) (sl_lt hβ 0 rfl) (sl_s hβ 0 rfl rfl) (wf_6_4 hR hβ) ?_
  refine f_aload_n (M := mX6_beginContract) 55 dX6_beginContract_54 rfl rfl ?_
  refine e_getR (M := mX6_beginContract) dX6_beginContract_55 fl_6028 (x_kk rfl) (sl_lt hβ 0 rfl) (sl_s hβ 0 rfl rfl) (wf_6_3 hR hβ) ?_
  refine e_getR (M := mX6_beginContract) dX6_beginContract_58 fl_6108 (x_kk rfl) (sl_lt hβ 7 rfl) (sl_s hβ 7 rfl rfl) (wf_0_2 hR hβ) ?_
  refine f_iload_n (M := mX6_beginContract) 62 dX6_beginContract_61 rfl rfl ?_
  refine e_ild (M := mX6_beginContract) (w := 8) (j := w) dX6_beginContract_62 (sl_lt hβ 10 rfl) (sl_shp hβ 10 rfl) rfl (by omega) (by omega) ?_
  refine e_putI (M := mX6_beginContract) dX6_beginContract_63 fl_6111 (x_kk rfl) (sl_lt hβ 12 rfl) (sl_s hβ 12 rfl rfl) (fun q9 => Bool.noConfusion q9) ?_
  refine f_aload_n (M := mX6_beginContract) 67 dX6_beginContract_66 rfl rfl ?_
  refine e_getR (M := mX6_beginContract) dX6_beginContract_67 fl_6035 (x_kk rfl) (sl_lt hβ 0 rfl) (sl_s hβ 0 rfl rfl) (wf_6_4 hR hβ) ?_
  refine f_iload_n (M := mX6_beginContract) 71 dX6_beginContract_70 rfl rfl ?_
  refine e_putI (M := mX6_beginContract) dX6_beginContract_71 fl_6095 (x_kk rfl) (sl_lt hβ 12 rfl) (sl_s hβ 12 rfl rfl) (fun q9 => Bool.noConfusion q9) ?_
  refine f_aload_n (M := mX6_beginContract) 75 dX6_beginContract_74 rfl rfl ?_
  refine f_iconst (M := mX6_beginContract) 76 dX6_beginContract_75 ki_3 rfl ?_
  refine e_putI (M := mX6_beginContract) dX6_beginContract_76 fl_6046 (x_kk rfl) (sl_lt hβ 0 rfl) (sl_s hβ 0 rfl rfl) (fun q9 => Bool.noConfusion q9) ?_
  refine e_rv (M := mX6_beginContract) dX6_beginContract_79 rfl (x_kk rfl) (x_kk rfl) ?_
  exact (by simp only [x_up_self, up_up, x_up_ne _ _ (show β + 12 ≠ β + 14 by omega), x_up_ne _ _ (show β + 12 ≠ β + 13 by omega), x_up_ne _ _ (show β + 10 ≠ β + 14 by omega), x_up_ne _ _ (show β + 10 ≠ β + 13 by omega), x_up_ne _ _ (show β ≠ β + 12 by omega), x_up_ne _ _ (show β ≠ β + 14 by omega), x_up_ne _ _ (show β ≠ β + 13 by omega)])
theorem kx_award_2 {N β : Nat} {a : Nat → Int32} {b : Nat → Int64} (H : y_CS N I L R β a b) {Ns Np Nl Nm : Nat} (Z : y_Z a Ns Np Nl Nm) {I0 : Nat → Nat → Int32} {L0 : Nat → Nat → Int64} (hk : x_Cv X mX3_keep [.ref 3, .ref β] (I, L, R) 233 (.inl none, (I0, L0, R), 233)) (H1 : y_CS N I0 L0 R β a b) (h0 : a 0 = 2) {w : Nat} (h : sp_win a (-1) 100 Ns 8 = some w) : x_Cv X mX8_award [.ref 0] (I, L, R) 233 (.inl (some (.int (Int32.ofNat w))), ((va_up (va_up (va_up (va_up I0 (β + 13) (x_mix (I0 (β + 8)) (I0 (β + 13)) 6)) (β + 14) (x_mix (fun s => I0 (β + 9) (w * 6 + s)) (I0 (β + 14)) 6)) (β + 12) (va_up (va_up (I0 (β + 12)) 5 (I0 (β + 10) w)) 4 (Int32.ofNat w))) β (va_up (I0 β) 0 3)), L0, R), 233) := by
  obtain ⟨hNs, hn, hNp, hp, hNl, hl, hNm, hmm⟩ := Z
  have hR := h_R H
  have hβ := h_β H
  have hS := h_S H
  show x_Ev X mX8_award 0 [some (.ref 0), none] [] ((I, L, R), 233, 0, 0) _
  refine f_aload_n (M := mX8_award) 1 dX8_award_0 rfl rfl ?_
  refine e_getR (M := mX8_award) dX8_award_1 fl_8026 (x_kk rfl) (x_kk rfl) rfl hS ?_
  refine e_getI (M := mX8_award) dX8_award_4 fl_8067 (x_kk rfl) (sl_lt hβ 0 rfl) (sl_s hβ 0 rfl rfl) ?_
  refine f_iconst (M := mX8_award) 8 dX8_award_7 ki_2 rfl ?_
  refine e_icmp_eqT (M := mX8_award) 23 dX8_award_8 rfl ((h_ph H).trans h0) ?_
  refine f_iconst (M := mX8_award) 24 dX8_award_23 ki_1 rfl ?_
  refine f_goto (M := mX8_award) 28 dX8_award_24 rfl ?_
  refine e_cS (M := mX8_award) [] 1 6 dX8_award_28 pa_8037 cc_8037 rfl rfl rfl rfl rfl (x_kk rfl) (x_kk rfl) rfl (c_X8_requireState (by decide)) rfl ?_
  refine f_aload_n (M := mX8_award) 32 dX8_award_31 rfl rfl ?_
  refine e_getR (M := mX8_award) dX8_award_32 fl_8026 (x_kk rfl) (x_kk rfl) rfl hS ?_
  refine e_getR (M := mX8_award) dX8_award_35 fl_8148 (x_kk rfl) (sl_lt hβ 0 rfl) (sl_s hβ 0 rfl rfl) (wf_6_3 hR hβ) ?_
  refine f_aload_n (M := mX8_award) 39 dX8_award_38 rfl rfl ?_
  refine e_getR (M := mX8_award) dX8_award_39 fl_8026 (x_kk rfl) (x_kk rfl) rfl hS ?_
  refine e_getR (M := mX8_award) dX8_award_42 fl_8083 (x_kk rfl) (sl_lt hβ 0 rfl) (sl_s hβ 0 rfl rfl) (wf_6_1 hR hβ) ?_
  refine e_cV (M := mX8_award) [_] 1 6 dX8_award_45 pa_8208 pb_8208 cc_8208 rfl rfl rfl rfl rfl (x_kk rfl) (x_kk rfl) (x_rcvOK (sl_lt hβ 7 rfl) (sl_s hβ 7 rfl rfl) rfl) ((by have e := k_winner (X := X) H hNs hn; rw [h] at e; exact e)) rfl ?_
  refine f_istore_n (M := mX8_award) (ls' := [_, _]) 49 dX8_award_48 rfl rfl rfl ?_
  refine f_iload_n (M := mX8_award) 50 dX8_award_49 rfl rfl ?_
  refine f_iconst (M := mX8_award) 51 dX8_award_50 ki_m1 rfl ?_
  refine e_icmp_eqF (M := mX8_award) 58 dX8_award_51 rfl (n_ne1 (by have := (win_v h).1; omega)) ?_
  refine f_iconst (M := mX8_award) 55 dX8_award_54 ki_1 rfl ?_
  refine f_goto (M := mX8_award) 59 dX8_award_55 rfl ?_
  refine e_cS (M := mX8_award) [] 2 12 dX8_award_59 pa_8211 cc_8211 rfl rfl rfl rfl rfl (x_kk rfl) (x_kk rfl) rfl (c_X8_requireFound (by decide)) rfl ?_
  refine f_aload_n (M := mX8_award) 63 dX8_award_62 rfl rfl ?_
  refine e_getR (M := mX8_award) dX8_award_63 fl_8019 (x_kk rfl) (x_kk rfl) rfl (wf_8_1 hR) ?_
  refine f_aload_n (M := mX8_award) 67 dX8_award_66 rfl rfl ?_
  refine e_getR (M := mX8_award) dX8_award_67 fl_8026 (x_kk rfl) (x_kk rfl) rfl hS ?_
  refine e_cV (M := mX8_award) [] 2 12 dX8_award_70 pa_8060 pb_8060 cc_8060 rfl rfl rfl rfl rfl (x_kk rfl) (x_kk rfl) rfl (hk) rfl ?_
  refine f_aload_n (M := mX8_award) 74 dX8_award_73 rfl rfl ?_
  refine e_getR (M := mX8_award) dX8_award_74 fl_8026 (x_kk rfl) (x_kk rfl) rfl hS ?_
  refine e_getI (M := mX8_award) dX8_award_77 fl_8067 (x_kk rfl) (sl_lt hβ 0 rfl) (sl_s hβ 0 rfl rfl) ?_
  refine f_iconst (M := mX8_award) 81 dX8_award_80 ki_2 rfl ?_
  refine e_icmp_neF (M := mX8_award) 95 dX8_award_81 rfl (fun z => z ((h_ph H1).trans h0)) ?_
  refine f_aload_n (M := mX8_award) 85 dX8_award_84 rfl rfl ?_
  refine e_getR (M := mX8_award) dX8_award_85 fl_8026 (x_kk rfl) (x_kk rfl) rfl hS ?_
  refine f_iload_n (M := mX8_award) 89 dX8_award_88 rfl rfl ?_
  refine e_cV (M := mX8_award) [] 2 12 dX8_award_89 pa_8221 pb_8221 cc_8221 rfl rfl rfl rfl rfl (x_kk rfl) (x_kk rfl) (x_rcvOK (sl_lt hβ 0 rfl) (sl_s hβ 0 rfl rfl) rfl) (c_X6_beginContract hR hβ (win_v h).1) rfl ?_
  refine f_goto (M := mX8_award) 104 dX8_award_92 rfl ?_
  refine f_iload_n (M := mX8_award) 105 dX8_award_104 rfl rfl ?_
  refine e_ri (M := mX8_award) dX8_award_105 rfl (x_kk rfl) (x_kk rfl) ?_
  rfl
theorem kx_award_7 {N β : Nat} {a : Nat → Int32} {b : Nat → Int64} (H : y_CS N I L R β a b) {Ns Np Nl Nm : Nat} (Z : y_Z a Ns Np Nl Nm) {I0 : Nat → Nat → Int32} {L0 : Nat → Nat → Int64} (hk : x_Cv X mX3_keep [.ref 3, .ref β] (I, L, R) 233 (.inl none, (I0, L0, R), 233)) (H1 : y_CS N I0 L0 R β a b) (h0 : a 0 = 7) {w : Nat} (h : sp_win a (-1) 100 Ns 8 = some w) : x_Cv X mX8_award [.ref 0] (I, L, R) 233 (.inl (some (.int (Int32.ofNat w))), ((va_up I0 β (va_up (I0 β) 0 8)), L0, R), 233) := by
  obtain ⟨hNs, hn, hNp, hp, hNl, hl, hNm, hmm⟩ := Z
  have hR := h_R H
  have hβ := h_β H
  have hS := h_S H
  show x_Ev X mX8_award 0 [some (.ref 0), none] [] ((I, L, R), 233, 0, 0) _
  refine f_aload_n (M := mX8_award) 1 dX8_award_0 rfl rfl ?_
  refine e_getR (M := mX8_award) dX8_award_1 fl_8026 (x_kk rfl) (x_kk rfl) rfl hS ?_
  refine e_getI (M := mX8_award) dX8_award_4 fl_8067 (x_kk rfl) (sl_lt hβ 0 rfl) (sl_s hβ 0 rfl rfl) ?_
  refine f_iconst (M := mX8_award) 8 dX8_award_7 ki_2 rfl ?_
  refine e_icmp_eqF (M := mX8_award) 23 dX8_award_8 rfl (fun z => absurd ((h_ph H).symm.trans z) (by rw [h0]; decide)) ?_
  refine f_aload_n (M := mX8_award) 12 dX8_award_11 rfl rfl ?_
  refine e_getR (M := mX8_award) dX8_award_12 fl_8026 (x_kk rfl) (x_kk rfl) rfl hS ?_
  refine e_getI (M := mX8_award) dX8_award_15 fl_8067 (x_kk rfl) (sl_lt hβ 0 rfl) (sl_s hβ 0 rfl rfl) ?_
  refine f_bipush (M := mX8_award) 20 dX8_award_18 kb_7 rfl ?_
  refine e_icmp_neF (M := mX8_award) 27 dX8_award_20 rfl (fun z => z ((h_ph H).trans h0)) ?_
  refine f_iconst (M := mX8_award) 24 dX8_award_23 ki_1 rfl ?_
  refine f_goto (M := mX8_award) 28 dX8_award_24 rfl ?_
  refine e_cS (M := mX8_award) [] 1 6 dX8_award_28 pa_8037 cc_8037 rfl rfl rfl rfl rfl (x_kk rfl) (x_kk rfl) rfl (c_X8_requireState (by decide)) rfl ?_
  refine f_aload_n (M := mX8_award) 32 dX8_award_31 rfl rfl ?_
  refine e_getR (M := mX8_award) dX8_award_32 fl_8026 (x_kk rfl) (x_kk rfl) rfl hS ?_
  refine e_getR (M := mX8_award) dX8_award_35 fl_8148 (x_kk rfl) (sl_lt hβ 0 rfl) (sl_s hβ 0 rfl rfl) (wf_6_3 hR hβ) ?_
  refine f_aload_n (M := mX8_award) 39 dX8_award_38 rfl rfl ?_
  refine e_getR (M := mX8_award) dX8_award_39 fl_8026 (x_kk rfl) (x_kk rfl) rfl hS ?_
  refine e_getR (M := mX8_award) dX8_award_42 fl_8083 (x_kk rfl) (sl_lt hβ 0 rfl) (sl_s hβ 0 rfl rfl) (wf_6_1 hR hβ) ?_
  refine e_cV (M := mX8_award) [_] 1 6 dX8_award_45 pa_8208 pb_8208 cc_8208 rfl rfl rfl rfl rfl (x_kk rfl) (x_kk rfl) (x_rcvOK (sl_lt hβ 7 rfl) (sl_s hβ 7 rfl rfl) rfl) ((by have e := k_winner (X := X) H hNs hn; rw [h] at e; exact e)) rfl ?_
  refine f_istore_n (M := mX8_award) (ls' := [_, _]) 49 dX8_award_48 rfl rfl rfl ?_
  refine f_iload_n (M := mX8_award) 50 dX8_award_49 rfl rfl ?_
  refine f_iconst (M := mX8_award) 51 dX8_award_50 ki_m1 rfl ?_
  refine e_icmp_eqF (M := mX8_award) 58 dX8_award_51 rfl (n_ne1 (by have := (win_v h).1; omega)) ?_
  refine f_iconst (M := mX8_award) 55 dX8_award_54 ki_1 rfl ?_
  refine f_goto (M := mX8_award) 59 dX8_award_55 rfl ?_
  refine e_cS (M := mX8_award) [] 2 12 dX8_award_59 pa_8211 cc_8211 rfl rfl rfl rfl rfl (x_kk rfl) (x_kk rfl) rfl (c_X8_requireFound (by decide)) rfl ?_
  refine f_aload_n (M := mX8_award) 63 dX8_award_62 rfl rfl ?_
  refine e_getR (M := mX8_award) dX8_award_63 fl_8019 (x_kk rfl) (x_kk rfl) rfl (wf_8_1 hR) ?_
  refine f_aload_n (M := mX8_award) 67 dX8_award_66 rfl rfl ?_
  refine e_getR (M := mX8_award) dX8_award_67 fl_8026 (x_kk rfl) (x_kk rfl) rfl hS ?_
  refine e_cV (M := mX8_award) [] 2 12 dX8_award_70 pa_8060 pb_8060 cc_8060 rfl rfl rfl rfl rfl (x_kk rfl) (x_kk rfl) rfl (hk) rfl ?_
  refine f_aload_n (M := mX8_award) 74 dX8_award_73 rfl rfl ?_
  refine e_getR (M := mX8_award) dX8_award_74 fl_8026 (x_kk rfl) (x_kk rfl) rfl hS ?_
  refine e_getI (M := mX8_award) dX8_award_77 fl_8067 (x_kk rfl) (sl_lt hβ 0 rfl) (sl_s hβ 0 rfl rfl) ?_
  refine f_iconst (M := mX8_award) 81 dX8_award_80 ki_2 rfl ?_
  refine e_icmp_neT (M := mX8_award) 95 dX8_award_81 rfl (fun z => absurd ((h_ph H1).symm.trans z) (by rw [h0]; decide)) ?_
  refine f_aload_n (M := mX8_award) 96 dX8_award_95 rfl rfl ?_
  refine e_getR (M := mX8_award) dX8_award_96 fl_8026 (x_kk rfl) (x_kk rfl) rfl hS ?_
  refine f_bipush (M := mX8_award) 101 dX8_award_99 kb_8 rfl ?_
  refine e_putI (M := mX8_award) dX8_award_101 fl_8067 (x_kk rfl) (sl_lt hβ 0 rfl) (sl_s hβ 0 rfl rfl) (fun q9 => Bool.noConfusion q9) ?_
  refine f_iload_n (M := mX8_award) 105 dX8_award_104 rfl rfl ?_
  refine e_ri (M := mX8_award) dX8_award_105 rfl (x_kk rfl) (x_kk rfl) ?_
  rfl
def y_mv (f : Nat → Int32) (m n k : Nat) : Nat → Int32 := fun j => if m ≤ j ∧ j < m + k then f (n + (j - m)) else f j
theorem mv_s {f : Nat → Int32} {m n k : Nat} : va_up (y_mv f m n k) (m + k) (f (n + k)) = y_mv f m n (k + 1) := by
  funext j
  unfold va_up y_mv
  by_cases e : j = m + k
  · rw [if_pos e, if_pos (by omega), e, Nat.add_sub_cancel_left]
  · rw [if_neg e]
    by_cases c : m ≤ j ∧ j < m + k
    · rw [if_pos c, if_pos (by omega)]
    · rw [if_neg c, if_neg (by omega)]
theorem mv_0 {f : Nat → Int32} {m n : Nat} : y_mv f m n 0 = f := by
  funext j
  unfold y_mv
  rw [if_neg (by omega)]
theorem mv_o {f : Nat → Int32} {m n k j : Nat} (h : ¬ (m ≤ j ∧ j < m + k)) : y_mv f m n k j = f j := if_neg h
def y_aw (a : Nat → Int32) (w : Nat) : Nat → Int32 := fun j => if j = 0 then 3 else if j = 11 then Int32.ofNat w else if j = 15 then a (224 + 8 * w + 6) else if 288 ≤ j ∧ j < 294 then a (224 + 8 * w + (j - 288)) else a j
theorem aw_j {a : Nat → Int32} {w j : Nat} (h : ¬ j = 0 ∧ ¬ j = 11 ∧ ¬ j = 15 ∧ ¬ (288 ≤ j ∧ j < 294)) : y_aw a w j = a j := by
  unfold y_aw
  rw [if_neg h.1, if_neg h.2.1, if_neg h.2.2.1, if_neg h.2.2.2]
theorem aw_r {a : Nat → Int32} {w s : Nat} (hs : s < 6) : y_aw a w (288 + s) = a (224 + 8 * w + s) := by
  unfold y_aw
  rw [if_neg (by omega), if_neg (by omega), if_neg (by omega), if_pos (by omega), Nat.add_sub_cancel_left]
theorem aw_eq {a : Nat → Int32} {w : Nat} (hw : w < 8) : va_up (va_up (y_mv (va_up a 11 (Int32.ofNat w)) 288 (224 + 8 * w) 6) 15 (a (224 + 8 * w + 6))) 0 3 = y_aw a w := by
  funext j
  unfold y_aw va_up y_mv
  dsimp only
  by_cases h0 : j = 0
  · rw [if_pos h0, if_pos h0]
  · rw [if_neg h0, if_neg h0]
    by_cases h15 : j = 15
    · rw [if_pos h15, if_neg (by omega), if_pos h15]
    · rw [if_neg h15]
      by_cases h2 : 288 ≤ j ∧ j < 294
      · rw [if_pos (show 288 ≤ j ∧ j < 288 + 6 by omega), if_neg (show ¬ 224 + 8 * w + (j - 288) = 11 by omega), if_neg (show ¬ j = 11 by omega), if_pos h2, if_neg h15]
      · rw [if_neg (show ¬ (288 ≤ j ∧ j < 288 + 6) by omega)]
        by_cases h11 : j = 11
        · rw [if_pos h11, if_pos h11]
        · rw [if_neg h11, if_neg h11, if_neg h15, if_neg h2]
theorem l_X9_award (hR : x_wf R) {w : Nat} (hw : w < 8) {r : x_O × x_Mem × Nat} (kk : x_Ev X mX9_award 129 [some (.ref 225), some (.int (Int32.ofNat w)), some (.int (Int32.ofNat 6))] [] (((va_up I 226 (y_mv (I 226) 288 (224 + 8 * w) 6)), L, R), 233, 0, 0) r) : ∀ d k, k + d = 6 → x_Ev X mX9_award 101 [some (.ref 225), some (.int (Int32.ofNat w)), some (.int (Int32.ofNat k))] [] (((va_up I 226 (y_mv (I 226) 288 (224 + 8 * w) k)), L, R), 233, 0, 0) r := by
  intro d
  induction d with
  | zero =>
    intro k hd
    obtain rfl : 6 = k := hd.symm
    refine f_iload_n (M := mX9_award) 102 dX9_award_101 rfl rfl ?_
    refine f_bipush (M := mX9_award) 104 dX9_award_102 kb_6 rfl ?_
    refine e_icmp_geT (M := mX9_award) 129 dX9_award_104 rfl (by decide) ?_
    exact kk
  | succ d ih =>
    intro k hd
    refine f_iload_n (M := mX9_award) 102 dX9_award_101 rfl rfl ?_
    refine f_bipush (M := mX9_award) 104 dX9_award_102 kb_6 rfl ?_
    refine e_icmp_geF (M := mX9_award) 129 dX9_award_104 rfl (by rw [kn_6, n_le (by omega) (by omega)]; omega) ?_
    refine f_aload_n (M := mX9_award) 108 dX9_award_107 rfl rfl ?_
    refine e_getR (M := mX9_award) dX9_award_108 fl_9007 (x_kk rfl) (x_kk rfl) rfl (wf_9_0 hR) ?_
    refine f_sipush (M := mX9_award) 114 dX9_award_111 ks_288 rfl ?_
    refine f_iload_n (M := mX9_award) 115 dX9_award_114 rfl rfl ?_
    refine f_iadd (M := mX9_award) 116 dX9_award_115 rfl ?_
    refine f_aload_n (M := mX9_award) 117 dX9_award_116 rfl rfl ?_
    refine f_iload_n (M := mX9_award) 118 dX9_award_117 rfl rfl ?_
    refine f_iload_n (M := mX9_award) 119 dX9_award_118 rfl rfl ?_
    refine e_cV (M := mX9_award) [_, _, _] 0 0 dX9_award_119 pa_9182 pb_9182 cc_9182 rfl rfl rfl rfl rfl (x_kk rfl) (x_kk rfl) rfl (c_X9_ofBid hR hw (by omega)) rfl ?_
    refine e_ist (M := mX9_award) (w := 606) (j := (288) + (k)) dX9_award_122 (x_kk rfl) rfl (ix_add kn_288 rfl) (by omega) (by omega) ?_
    refine f_iinc (M := mX9_award) (ls' := [_, _, _]) 126 dX9_award_123 ki_1 rfl rfl rfl rfl ?_
    refine f_goto (M := mX9_award) 101 dX9_award_126 rfl ?_
    rw [n_inc (s := k), up_s, up_up, mv_o (show ¬ (288 ≤ 224 + 8 * w + k ∧ 224 + 8 * w + k < 288 + k) by omega), mv_s]; exact ih (k + 1) (by omega)
theorem mx_award_2 (hR : x_wf R) {a : Nat → Int32} (ha : I 226 = a) {Ns Np Nl Nm : Nat} (Z : y_Z a Ns Np Nl Nm) {I0 : Nat → Nat → Int32} {L0 : Nat → Nat → Int64} (hk : x_Cv X mX9_keeps [.ref 225] (x_tw I 0, L, R) 233 (.inl none, (I0, L0, R), 233)) (ha0 : I0 226 = a) (h0 : a 0 = 2) {w : Nat} (h : sp_win a (-1) 100 Ns 8 = some w) : x_Cv X mX9_award [.ref 225] (I, L, R) 233 (.inl (some (.int (Int32.ofNat w))), (va_up I0 226 (y_aw a w), L0, R), 233) := by
  subst ha
  obtain ⟨hNs, hn, hNp, hp, hNl, hl, hNm, hmm⟩ := Z
  have hw := (win_v h).1
  show x_Ev X mX9_award 0 [some (.ref 225), none, none] [] ((I, L, R), 233, 0, 0) _
  refine f_aload_n (M := mX9_award) 1 dX9_award_0 rfl rfl ?_
  refine f_aload_n (M := mX9_award) 2 dX9_award_1 rfl rfl ?_
  refine e_getR (M := mX9_award) dX9_award_2 fl_9007 (x_kk rfl) (x_kk rfl) rfl (wf_9_0 hR) ?_
  refine f_iconst (M := mX9_award) 6 dX9_award_5 ki_0 rfl ?_
  refine e_ild (M := mX9_award) (w := 606) (j := 0) dX9_award_6 (x_kk rfl) rfl kn_0 (by omega) (by omega) ?_
  refine f_iconst (M := mX9_award) 8 dX9_award_7 ki_2 rfl ?_
  refine e_icmp_eqT (M := mX9_award) 26 dX9_award_8 rfl h0 ?_
  refine f_aload_n (M := mX9_award) 27 dX9_award_26 rfl rfl ?_
  refine f_iconst (M := mX9_award) 28 dX9_award_27 ki_m1 rfl ?_
  refine f_bipush (M := mX9_award) 30 dX9_award_28 kb_100 rfl ?_
  refine e_cV (M := mX9_award) [_, _] 0 0 dX9_award_30 pa_9221 pb_9221 cc_9221 rfl rfl rfl rfl rfl (x_kk rfl) (x_kk rfl) rfl ((by have e := c_X9_winnerBy (X := X) (I := I) (L := L) (σ := -1) (h := 100) hR hNs hn; rw [h] at e; exact e)) rfl ?_
  refine f_iconst (M := mX9_award) 34 dX9_award_33 ki_m1 rfl ?_
  refine e_icmp_neT (M := mX9_award) 41 dX9_award_34 rfl (n_ne1 (by have := (win_v h).1; omega)) ?_
  refine f_iconst (M := mX9_award) 42 dX9_award_41 ki_0 rfl ?_
  refine e_putI (M := mX9_award) dX9_award_42 fl_9033 (x_kk rfl) (x_kk rfl) rfl (fun q9 => Bool.noConfusion q9) ?_
  refine f_aload_n (M := mX9_award) 46 dX9_award_45 rfl rfl ?_
  refine e_getI (M := mX9_award) dX9_award_46 fl_9033 (x_kk rfl) (x_kk rfl) rfl ?_
  refine e_if_leT (M := mX9_award) 54 dX9_award_49 rfl (show (0 : Int32) ≤ 0 by decide) ?_
  refine f_aload_n (M := mX9_award) 55 dX9_award_54 rfl rfl ?_
  refine e_cV (M := mX9_award) [] 0 0 dX9_award_55 pa_9128 pb_9128 cc_9128 rfl rfl rfl rfl rfl (x_kk rfl) (x_kk rfl) rfl (hk) rfl ?_
  refine f_aload_n (M := mX9_award) 59 dX9_award_58 rfl rfl ?_
  refine f_iconst (M := mX9_award) 60 dX9_award_59 ki_m1 rfl ?_
  refine f_bipush (M := mX9_award) 62 dX9_award_60 kb_100 rfl ?_
  refine e_cV (M := mX9_award) [_] 0 0 dX9_award_62 pa_9221 pb_9221 cc_9221 rfl rfl rfl rfl rfl (x_kk rfl) (x_kk rfl) rfl ((by have e := c_X9_winnerBy (X := X) (I := I0) (L := L0) (σ := -1) (h := 100) hR hNs (by rw [ha0]; exact hn); rw [ha0, h] at e; exact e)) rfl ?_
  refine f_istore_n (M := mX9_award) (ls' := [_, _, _]) 66 dX9_award_65 rfl rfl rfl ?_
  refine f_aload_n (M := mX9_award) 67 dX9_award_66 rfl rfl ?_
  refine e_cV (M := mX9_award) [_] 0 0 dX9_award_67 pa_9170 pb_9170 cc_9170 rfl rfl rfl rfl rfl (x_kk rfl) (x_kk rfl) rfl (c_X9_isSecond hR) rfl ?_
  refine e_if_eqT (M := mX9_award) 91 dX9_award_70 rfl (x_b0 (by rw [ha0, h0]; decide)) ?_
  refine f_aload_n (M := mX9_award) 92 dX9_award_91 rfl rfl ?_
  refine e_getR (M := mX9_award) dX9_award_92 fl_9007 (x_kk rfl) (x_kk rfl) rfl (wf_9_0 hR) ?_
  refine f_bipush (M := mX9_award) 97 dX9_award_95 kb_11 rfl ?_
  refine f_iload_n (M := mX9_award) 98 dX9_award_97 rfl rfl ?_
  refine e_ist (M := mX9_award) (w := 606) (j := 11) dX9_award_98 (x_kk rfl) rfl kn_11 (by omega) (by omega) ?_
  refine f_iconst (M := mX9_award) 100 dX9_award_99 ki_0 rfl ?_
  refine f_istore_n (M := mX9_award) (ls' := [_, _, _]) 101 dX9_award_100 rfl rfl rfl ?_
  have l1 := fun kk => l_X9_award (X := X) (I := va_up I0 226 (va_up (I 226) 11 (Int32.ofNat w))) (L := L0) (r := (.inl (some (.int (Int32.ofNat w))), (va_up I0 226 (y_aw (I 226) w), L0, R), 233)) hR hw kk 6 0 rfl; rw [mv_0, up_self] at l1; rw [ha0]; refine l1 ?_
  refine f_aload_n (M := mX9_award) 130 dX9_award_129 rfl rfl ?_
  refine e_getR (M := mX9_award) dX9_award_130 fl_9007 (x_kk rfl) (x_kk rfl) rfl (wf_9_0 hR) ?_
  refine f_bipush (M := mX9_award) 135 dX9_award_133 kb_15 rfl ?_
  refine f_aload_n (M := mX9_award) 136 dX9_award_135 rfl rfl ?_
  refine f_iload_n (M := mX9_award) 137 dX9_award_136 rfl rfl ?_
  refine f_bipush (M := mX9_award) 139 dX9_award_137 kb_6 rfl ?_
  refine e_cV (M := mX9_award) [_, _, _] 0 0 dX9_award_139 pa_9182 pb_9182 cc_9182 rfl rfl rfl rfl rfl (x_kk rfl) (x_kk rfl) rfl (c_X9_ofBid (j := 6) hR hw (by omega)) rfl ?_
  refine e_ist (M := mX9_award) (w := 606) (j := 15) dX9_award_142 (x_kk rfl) rfl kn_15 (by omega) (by omega) ?_
  refine f_aload_n (M := mX9_award) 144 dX9_award_143 rfl rfl ?_
  refine e_getR (M := mX9_award) dX9_award_144 fl_9007 (x_kk rfl) (x_kk rfl) rfl (wf_9_0 hR) ?_
  refine f_iconst (M := mX9_award) 148 dX9_award_147 ki_0 rfl ?_
  refine f_iconst (M := mX9_award) 149 dX9_award_148 ki_3 rfl ?_
  refine e_ist (M := mX9_award) (w := 606) (j := 0) dX9_award_149 (x_kk rfl) rfl kn_0 (by omega) (by omega) ?_
  refine f_iload_n (M := mX9_award) 151 dX9_award_150 rfl rfl ?_
  refine e_ri (M := mX9_award) dX9_award_151 rfl (x_kk rfl) (x_kk rfl) ?_
  exact (by rw [← aw_eq hw]; simp only [x_up_self, up_up, mv_o (show ¬ (288 ≤ 224 + 8 * w + 6 ∧ 224 + 8 * w + 6 < 288 + 6) by omega), x_up_ne _ _ (show 224 + 8 * w + 6 ≠ 11 by omega)])
theorem mx_award_7 (hR : x_wf R) {a : Nat → Int32} (ha : I 226 = a) {Ns Np Nl Nm : Nat} (Z : y_Z a Ns Np Nl Nm) {I0 : Nat → Nat → Int32} {L0 : Nat → Nat → Int64} (hk : x_Cv X mX9_keeps [.ref 225] (x_tw I 0, L, R) 233 (.inl none, (I0, L0, R), 233)) (ha0 : I0 226 = a) (h0 : a 0 = 7) {w : Nat} (h : sp_win a (-1) 100 Ns 8 = some w) : x_Cv X mX9_award [.ref 225] (I, L, R) 233 (.inl (some (.int (Int32.ofNat w))), (va_up I0 226 (va_up (va_up a 12 (Int32.ofNat w)) 0 8), L0, R), 233) := by
  subst ha
  obtain ⟨hNs, hn, hNp, hp, hNl, hl, hNm, hmm⟩ := Z
  show x_Ev X mX9_award 0 [some (.ref 225), none, none] [] ((I, L, R), 233, 0, 0) _
  refine f_aload_n (M := mX9_award) 1 dX9_award_0 rfl rfl ?_
  refine f_aload_n (M := mX9_award) 2 dX9_award_1 rfl rfl ?_
  refine e_getR (M := mX9_award) dX9_award_2 fl_9007 (x_kk rfl) (x_kk rfl) rfl (wf_9_0 hR) ?_
  refine f_iconst (M := mX9_award) 6 dX9_award_5 ki_0 rfl ?_
  refine e_ild (M := mX9_award) (w := 606) (j := 0) dX9_award_6 (x_kk rfl) rfl kn_0 (by omega) (by omega) ?_
  refine f_iconst (M := mX9_award) 8 dX9_award_7 ki_2 rfl ?_
  refine e_icmp_eqF (M := mX9_award) 26 dX9_award_8 rfl (by show ¬ I 226 0 = 2; rw [h0]; decide) ?_
  refine f_aload_n (M := mX9_award) 12 dX9_award_11 rfl rfl ?_
  refine e_getR (M := mX9_award) dX9_award_12 fl_9007 (x_kk rfl) (x_kk rfl) rfl (wf_9_0 hR) ?_
  refine f_iconst (M := mX9_award) 16 dX9_award_15 ki_0 rfl ?_
  refine e_ild (M := mX9_award) (w := 606) (j := 0) dX9_award_16 (x_kk rfl) rfl kn_0 (by omega) (by omega) ?_
  refine f_bipush (M := mX9_award) 19 dX9_award_17 kb_7 rfl ?_
  refine e_icmp_eqT (M := mX9_award) 26 dX9_award_19 rfl h0 ?_
  refine f_aload_n (M := mX9_award) 27 dX9_award_26 rfl rfl ?_
  refine f_iconst (M := mX9_award) 28 dX9_award_27 ki_m1 rfl ?_
  refine f_bipush (M := mX9_award) 30 dX9_award_28 kb_100 rfl ?_
  refine e_cV (M := mX9_award) [_, _] 0 0 dX9_award_30 pa_9221 pb_9221 cc_9221 rfl rfl rfl rfl rfl (x_kk rfl) (x_kk rfl) rfl ((by have e := c_X9_winnerBy (X := X) (I := I) (L := L) (σ := -1) (h := 100) hR hNs hn; rw [h] at e; exact e)) rfl ?_
  refine f_iconst (M := mX9_award) 34 dX9_award_33 ki_m1 rfl ?_
  refine e_icmp_neT (M := mX9_award) 41 dX9_award_34 rfl (n_ne1 (by have := (win_v h).1; omega)) ?_
  refine f_iconst (M := mX9_award) 42 dX9_award_41 ki_0 rfl ?_
  refine e_putI (M := mX9_award) dX9_award_42 fl_9033 (x_kk rfl) (x_kk rfl) rfl (fun q9 => Bool.noConfusion q9) ?_
  refine f_aload_n (M := mX9_award) 46 dX9_award_45 rfl rfl ?_
  refine e_getI (M := mX9_award) dX9_award_46 fl_9033 (x_kk rfl) (x_kk rfl) rfl ?_
  refine e_if_leT (M := mX9_award) 54 dX9_award_49 rfl (show (0 : Int32) ≤ 0 by decide) ?_
  refine f_aload_n (M := mX9_award) 55 dX9_award_54 rfl rfl ?_
  refine e_cV (M := mX9_award) [] 0 0 dX9_award_55 pa_9128 pb_9128 cc_9128 rfl rfl rfl rfl rfl (x_kk rfl) (x_kk rfl) rfl (hk) rfl ?_
  refine f_aload_n (M := mX9_award) 59 dX9_award_58 rfl rfl ?_
  refine f_iconst (M := mX9_award) 60 dX9_award_59 ki_m1 rfl ?_
  refine f_bipush (M := mX9_award) 62 dX9_award_60 kb_100 rfl ?_
  refine e_cV (M := mX9_award) [_] 0 0 dX9_award_62 pa_9221 pb_9221 cc_9221 rfl rfl rfl rfl rfl (x_kk rfl) (x_kk rfl) rfl ((by have e := c_X9_winnerBy (X := X) (I := I0) (L := L0) (σ := -1) (h := 100) hR hNs (by rw [ha0]; exact hn); rw [ha0, h] at e; exact e)) rfl ?_
  refine f_istore_n (M := mX9_award) (ls' := [_, _, _]) 66 dX9_award_65 rfl rfl rfl ?_
  refine f_aload_n (M := mX9_award) 67 dX9_award_66 rfl rfl ?_
  refine e_cV (M := mX9_award) [_] 0 0 dX9_award_67 pa_9170 pb_9170 cc_9170 rfl rfl rfl rfl rfl (x_kk rfl) (x_kk rfl) rfl (c_X9_isSecond hR) rfl ?_
  refine e_if_eqF (M := mX9_award) 91 dX9_award_70 rfl (x_bn (by rw [ha0, h0]; decide)) ?_
  refine f_aload_n (M := mX9_award) 74 dX9_award_73 rfl rfl ?_
  refine e_getR (M := mX9_award) dX9_award_74 fl_9007 (x_kk rfl) (x_kk rfl) rfl (wf_9_0 hR) ?_
  refine f_bipush (M := mX9_award) 79 dX9_award_77 kb_12 rfl ?_
  refine f_iload_n (M := mX9_award) 80 dX9_award_79 rfl rfl ?_
  refine e_ist (M := mX9_award) (w := 606) (j := 12) dX9_award_80 (x_kk rfl) rfl kn_12 (by omega) (by omega) ?_
  refine f_aload_n (M := mX9_award) 82 dX9_award_81 rfl rfl ?_
  refine e_getR (M := mX9_award) dX9_award_82 fl_9007 (x_kk rfl) (x_kk rfl) rfl (wf_9_0 hR) ?_
  refine f_iconst (M := mX9_award) 86 dX9_award_85 ki_0 rfl ?_
  refine f_bipush (M := mX9_award) 88 dX9_award_86 kb_8 rfl ?_
  refine e_ist (M := mX9_award) (w := 606) (j := 0) dX9_award_88 (x_kk rfl) rfl kn_0 (by omega) (by omega) ?_
  refine f_iload_n (M := mX9_award) 90 dX9_award_89 rfl rfl ?_
  refine e_ri (M := mX9_award) dX9_award_90 rfl (x_kk rfl) (x_kk rfl) ?_
  exact (by simp only [x_up_self, up_up, ha0]; rfl)
section
variable {β : Nat} {a a' : Nat → Int32} {b : Nat → Int64}
theorem Rep_aw (h2 : a 0 = 2) (h60 : (a 14).toNatClampNeg ≤ 60) {w : Nat} (hw : w < 8) (h : y_Rep I L β a b) : y_Rep (va_up (va_up (va_up (va_up I (β + 13) (x_mix (I (β + 8)) (I (β + 13)) 6)) (β + 14) (x_mix (fun s => I (β + 9) (w * 6 + s)) (I (β + 14)) 6)) (β + 12) (va_up (va_up (I (β + 12)) 5 (I (β + 10) w)) 4 (Int32.ofNat w))) β (va_up (I β) 0 3)) L β (y_aw a w) b := by
  obtain ⟨_, hT, hC, hB, hK, hL⟩ := h
  have u : ∀ k, 1 ≤ k → ¬ k = 12 → ¬ k = 13 → ¬ k = 14 → (va_up (va_up (va_up (va_up I (β + 13) (x_mix (I (β + 8)) (I (β + 13)) 6)) (β + 14) (x_mix (fun s => I (β + 9) (w * 6 + s)) (I (β + 14)) 6)) (β + 12) (va_up (va_up (I (β + 12)) 5 (I (β + 10) w)) 4 (Int32.ofNat w))) β (va_up (I β) 0 3)) (β + k) = I (β + k) := fun k h1 h3 h4 h5 => by rw [x_up_ne _ _ (by omega), x_up_ne _ _ (by omega), x_up_ne _ _ (by omega), x_up_ne _ _ (by omega)]
  have n6 : ¬ 6 ≤ y_aw a w 0 := by show ¬ (6 : Int32) ≤ 3; decide
  have n6' : ¬ 6 ≤ a 0 := by rw [h2]; decide
  refine ⟨by rw [x_up_self, x_up_self]; rfl, RT_c (fun k z1 z2 => u k (by omega) (by omega) (by omega) (by omega)) (fun j hj => aw_j (by omega)) hT, RC_c (fun k z1 z2 => u k (by omega) (by omega) (by omega) (by omega)) (fun j hj => aw_j (by omega)) hC, ?_, ?_, RL_c (fun k z1 z2 => u k (by omega) (by omega) (by omega) (by omega)) (fun j hj => aw_j (by omega)) h60 hL⟩
  · obtain ⟨b1, b2, b3, b4, b5, b6⟩ := hB
    unfold y_RB
    rw [u 7 (by omega) (by omega) (by omega) (by omega), u 8 (by omega) (by omega) (by omega) (by omega), u 9 (by omega) (by omega) (by omega) (by omega), u 10 (by omega) (by omega) (by omega) (by omega), u 11 (by omega) (by omega) (by omega) (by omega), if_neg n6]
    rw [if_neg n6'] at b6
    refine ⟨fun s hs => ?_, fun q hq s hs => ?_, fun q hq => ?_, fun q hq => ?_, ?_, b6⟩
    · rw [b1 s hs]; exact (vol_c ⟨fun z => absurd z n6, fun z => absurd z n6'⟩ (fun j hj => aw_j (by omega)) hs).symm
    · rw [aw_j (by omega)]; exact b2 q hq s hs
    · rw [aw_j (by omega)]; exact b3 q hq
    · rw [aw_j (by omega)]; exact b4 q hq
    · rw [aw_j (by omega)]; exact b5
  · obtain ⟨k1, k2, k3, k4, k5, k6, k7, k8⟩ := hK
    obtain ⟨b1, b2, b3, _, _, _⟩ := hB
    have e13 : (va_up (va_up (va_up (va_up I (β + 13) (x_mix (I (β + 8)) (I (β + 13)) 6)) (β + 14) (x_mix (fun s => I (β + 9) (w * 6 + s)) (I (β + 14)) 6)) (β + 12) (va_up (va_up (I (β + 12)) 5 (I (β + 10) w)) 4 (Int32.ofNat w))) β (va_up (I β) 0 3)) (β + 13) = x_mix (I (β + 8)) (I (β + 13)) 6 := by rw [x_up_ne _ _ (by omega), x_up_ne _ _ (by omega), x_up_ne _ _ (by omega), x_up_self]
    have e14 : (va_up (va_up (va_up (va_up I (β + 13) (x_mix (I (β + 8)) (I (β + 13)) 6)) (β + 14) (x_mix (fun s => I (β + 9) (w * 6 + s)) (I (β + 14)) 6)) (β + 12) (va_up (va_up (I (β + 12)) 5 (I (β + 10) w)) 4 (Int32.ofNat w))) β (va_up (I β) 0 3)) (β + 14) = x_mix (fun s => I (β + 9) (w * 6 + s)) (I (β + 14)) 6 := by rw [x_up_ne _ _ (by omega), x_up_ne _ _ (by omega), x_up_self]
    have e12 : (va_up (va_up (va_up (va_up I (β + 13) (x_mix (I (β + 8)) (I (β + 13)) 6)) (β + 14) (x_mix (fun s => I (β + 9) (w * 6 + s)) (I (β + 14)) 6)) (β + 12) (va_up (va_up (I (β + 12)) 5 (I (β + 10) w)) 4 (Int32.ofNat w))) β (va_up (I β) 0 3)) (β + 12) = va_up (va_up (I (β + 12)) 5 (I (β + 10) w)) 4 (Int32.ofNat w) := by rw [x_up_ne _ _ (by omega), x_up_self]
    unfold y_RK
    rw [e12, e13, e14, u 15 (by omega) (by omega) (by omega) (by omega)]
    refine ⟨fun _ s hs => ?_, fun s hs => ?_, fun s hs q hq => ?_, fun _ => ?_, ?_, ?_, k7, k8⟩
    · rw [show x_mix (I (β + 8)) (I (β + 13)) 6 s = I (β + 8) s from if_pos hs, b1 s hs, aw_j (by omega)]
      unfold sp_vol
      rw [if_neg n6']
    · rw [show x_mix (fun s => I (β + 9) (w * 6 + s)) (I (β + 14)) 6 s = I (β + 9) (w * 6 + s) from if_pos hs, b2 w hw s hs, aw_r hs]
    · rw [aw_j (by omega)]; exact k3 s hs q hq
    · rw [x_up_self]; rfl
    · rw [x_up_ne _ _ (by decide), x_up_self, b3 w hw]; rfl
    · rw [x_up_ne _ _ (by decide), x_up_ne _ _ (by decide), aw_j (by omega)]; exact k6
theorem Inv_aw {M : Nat} (hM : N ≤ M) (h2 : a 0 = 2) {w : Nat} (hw : w < 8) (h : y_Inv N a b) : y_Inv M (y_aw a w) b := by
  obtain ⟨hT, hC, hB, hV, hK, hL, ha, hb⟩ := h
  have bw := hB.2.1 w hw
  refine ⟨IT_c ⟨3, by decide, show (3 : Int32) = Int32.ofNat 3 from by decide⟩ (fun j hj => aw_j (by omega)) hT, IC_c (fun j hj => aw_j (by omega)) hC, IB_c hM (fun z => absurd (show (3 : Int32) = 0 from z) (by decide)) (fun j hj => aw_j (by omega)) hB, IV_c (fun j hj => aw_j (by omega)) hV, ?_, IL_c (fun j hj => aw_j (by omega)) hL, fun j hj => (aw_j (by omega)).trans (ha j hj), hb⟩
  obtain ⟨k1, k2, k3, k4, k5, k6, _⟩ := hK
  refine ⟨by rw [aw_j (by omega)]; exact k1, bw.2.1, fun s hs => by rw [aw_r hs]; exact bw.1 s hs, fun j hj => by rw [aw_j (by omega)]; exact k4 j hj, fun _ => ⟨w, hw, rfl⟩, ?_, fun z => absurd (show (3 : Int32) = 8 from z) (by decide)⟩
  rw [aw_j (by omega), k6, if_neg (by rw [h2]; decide), show y_aw a w 0 = 3 from rfl, if_neg (show ¬ (3 : Int32) = 4 by decide)]
theorem val_cc (h6 : 6 ≤ a' 0 ↔ 6 ≤ a 0) (ha : ∀ j, (32 ≤ j ∧ j < 44) ∨ (224 ≤ j ∧ j < 288) → a' j = a j) {q : Nat} (hq : q < 8) {σ h : Int32} {n : Nat} (hn : n ≤ 6) : sp_val a' q σ h n = sp_val a q σ h n :=
  s64_c (fun s hs => by unfold sp_part; rw [vol_c h6 (fun j hj => ha j (by omega)) (by omega), ha _ (by omega)])
theorem prob_cc (h6 : 6 ≤ a' 0 ↔ 6 ≤ a 0) (ha : ∀ j, j = 3 ∨ j = 11 ∨ (20 ≤ j ∧ j < 26) ∨ (32 ≤ j ∧ j < 44) ∨ (224 ≤ j ∧ j < 288) → a' j = a j) {q : Nat} (hq : q < 8) {n : Nat} (hn : n ≤ 6) : sp_prob a' q n = sp_prob a q n := by
  unfold sp_prob
  rw [val_cc h6 (fun j hj => ha j (by omega)) hq hn, ha (224 + 8 * q + 7) (by omega), ha (224 + 8 * q + 6) (by omega), ha 3 (by omega), ha 11 (by omega), show x_any (sp_low a' q) n = x_any (sp_low a q) n from any_c (fun i hi => by unfold sp_low; rw [ha _ (by omega), ha _ (by omega)])]
  simp only [h6]
theorem win_cc (h6 : 6 ≤ a' 0 ↔ 6 ≤ a 0) (ha : ∀ j, j = 3 ∨ j = 11 ∨ (20 ≤ j ∧ j < 26) ∨ (32 ≤ j ∧ j < 44) ∨ (224 ≤ j ∧ j < 288) → a' j = a j) {σ h : Int32} {n : Nat} (hn : n ≤ 6) : sp_win a' σ h n 8 = sp_win a σ h n 8 :=
  fst_c (fun k hk => by rw [prob_cc h6 ha hk hn]) (fun k j hk hj => by
    show (sp_val a' j σ h n < sp_val a' k σ h n ∨ (sp_val a' k σ h n = sp_val a' j σ h n ∧ a' (224 + 8 * k + 7) < a' (224 + 8 * j + 7))) ↔ _
    rw [val_cc h6 (fun j hj => ha j (by omega)) hk hn, val_cc h6 (fun j hj => ha j (by omega)) hj hn, ha _ (by omega), ha _ (by omega)])
theorem Rep_8 (h7 : a 0 = 7) (h60 : (a 14).toNatClampNeg ≤ 60) {x : Int32} (h : y_Rep I L β a b) : y_Rep (va_up I β (va_up (I β) 0 8)) L β (va_up (va_up a 12 x) 0 8) b := by
  obtain ⟨h0, hT, hC, hB, hK, hL⟩ := h
  have h12 : y_Rep I L β (va_up a 12 x) b := ⟨h0.trans (x_up_ne _ _ (by decide)).symm, RT_c (fun k _ _ => rfl) (fun j hj => x_up_ne _ _ (by omega)) hT, RC_c (fun k _ _ => rfl) (fun j hj => x_up_ne _ _ (by omega)) hC, RB_c (fun k _ _ => rfl) (by rw [x_up_ne _ _ (by decide)]) (fun j hj => x_up_ne _ _ (by omega)) hB, RK_c (fun k _ _ => rfl) rfl rfl (fun z => by rw [x_up_ne _ _ (by decide)] at z; exact z) (fun j hj => x_up_ne _ _ (by omega)) hK, RL_c (fun k _ _ => rfl) (fun j hj => x_up_ne _ _ (by omega)) h60 hL⟩
  exact Rep_ph (x := 8) (by rw [x_up_ne _ _ (by decide), h7]; decide) (fun _ => by rw [x_up_ne _ _ (by decide), h7]; decide) (by rw [x_up_ne _ _ (by decide)]; exact h60) h12
theorem Inv_8 {M : Nat} (hM : N ≤ M) (h7 : a 0 = 7) {w n : Nat} (hn : n ≤ 6) (h8 : a 8 = Int32.ofNat n) (hw : sp_win a (-1) 100 n 8 = some w) (h : y_Inv N a b) : y_Inv M (va_up (va_up a 12 (Int32.ofNat w)) 0 8) b := by
  obtain ⟨hT, hC, hB, hV, hK, hL, ha, hb⟩ := h
  have e : ∀ j, ¬ j = 0 → ¬ j = 12 → va_up (va_up a 12 (Int32.ofNat w)) 0 8 j = a j := fun j h1 h2 => by rw [x_up_ne _ _ h1, x_up_ne _ _ h2]
  refine ⟨IT_c ⟨8, by decide, by rw [x_up_self]; decide⟩ (fun j hj => e j (by omega) (by omega)) hT, IC_c (fun j hj => e j (by omega) (by omega)) hC, IB_c hM (fun z => absurd (show (8 : Int32) = 0 from z) (by decide)) (fun j hj => e j (by omega) (by omega)) hB, IV_c (fun j hj => e j (by omega) (by omega)) hV, ?_, IL_c (fun j hj => e j (by omega) (by omega)) hL, fun j hj => (e j (by omega) (by omega)).trans (ha j hj), hb⟩
  obtain ⟨k1, k2, k3, k4, k5, k6, _⟩ := hK
  unfold y_IK
  rw [x_up_self, e 13 (by omega) (by omega), e 15 (by omega) (by omega), e 11 (by omega) (by omega), e 16 (by omega) (by omega), e 8 (by omega) (by omega)]
  refine ⟨k1, k2, fun s hs => by rw [e _ (by omega) (by omega)]; exact k3 s hs, fun j hj => by rw [e _ (by omega) (by omega)]; exact k4 j hj, fun _ => k5 (by rw [h7]; decide), ?_, fun _ => ⟨w, (win_v hw).1, by rw [x_up_ne _ _ (by decide), x_up_self], ?_⟩⟩
  · rw [k6, if_neg (by rw [h7]; decide), if_neg (by decide)]
  · rw [h8, n_cl (by omega), win_cc (by rw [x_up_self, h7]; decide) (fun j hj => e j (by omega) (by omega)) hn]
    exact hw
end
theorem sim_award (T : y_T N I L R) : y_OI N X mL_award [.ref 0, .ref 232] mX9_award [.ref 225] I L R := by
  have T0 := T
  obtain ⟨a, b, kn, ks, bf, bn, ep, ⟨β, δ, γ, ν, hB⟩, hM, hI⟩ := T
  have H : y_CS N I L R β a b := ⟨hM.1, hB.1.2.1, hB.1.2.2.2.2.1, hB.2.2.2.2.2.1, hI.1⟩
  obtain ⟨Ns, Np, Nl, Nm, Z⟩ := Z_of hI.1
  have hR := hM.1
  have ha : I 226 = a := hM.2.1
  have hb : L 229 = b := hM.2.2.1
  subst ha
  subst hb
  obtain ⟨hNs, hn, hNp, hp, hNl, hl, hNm, hmm⟩ := id Z
  by_cases h0 : I 226 0 = 2 ∨ I 226 0 = 7
  · skip
    cases h : sp_win (I 226) (-1) 100 Ns 8 with
    | none => exact OI_x T0 (by decide) (w_award_x3 (kf_award_1 H Z h0 h)) (mf_award_1 hR Z h0 h)
    | some w =>
      have hw := (win_v h).1
      rcases id h0 with h2 | h2
      · obtain ⟨I0, L0, hk, S1, fr, sm⟩ := keep_ok (X := X) hB (h60_of (h_IL H))
        have H1 : y_CS N I0 L0 R β (I 226) (L 229) := ⟨hR, h_β H, h_S H, S1.2.2.2.2.2.1, hI.1⟩
        have hβ := h_β H
        have k1 := w_award (kx_award_2 H Z hk H1 h2 h)
        have out : ∀ cc, (∀ j, j < 22 → ¬ cc = β + j) → (va_up (va_up (va_up (va_up I0 (β + 13) (x_mix (I0 (β + 8)) (I0 (β + 13)) 6)) (β + 14) (x_mix (fun s => I0 (β + 9) (w * 6 + s)) (I0 (β + 14)) 6)) (β + 12) (va_up (va_up (I0 (β + 12)) 5 (I0 (β + 10) w)) 4 (Int32.ofNat w))) β (va_up (I0 β) 0 3)) cc = I0 cc ∧ L0 cc = L0 cc := fun cc ho => ⟨(by rw [x_up_ne _ _ (show cc ≠ β from ho 0 (by decide)), x_up_ne _ _ (ho 12 (by decide)), x_up_ne _ _ (ho 14 (by decide)), x_up_ne _ _ (ho 13 (by decide))]), rfl⟩
        have M1 := SM_f (I' := (va_up (va_up (va_up (va_up I0 (β + 13) (x_mix (I0 (β + 8)) (I0 (β + 13)) 6)) (β + 14) (x_mix (fun s => I0 (β + 9) (w * 6 + s)) (I0 (β + 14)) 6)) (β + 12) (va_up (va_up (I0 (β + 12)) 5 (I0 (β + 10) w)) 4 (Int32.ofNat w))) β (va_up (I0 β) 0 3))) (L' := va_up L0 232 (va_up (L0 232) 0 (Int32.ofNat w).toInt64)) hM hR (fun cc z1 z2 => ⟨(out cc (fun j hj => sl_far hβ (Or.inr z1) hj)).1.trans (fr cc z1).1, (x_up_ne _ _ (by omega)).trans ((out cc (fun j hj => sl_far hβ (Or.inr z1) hj)).2.trans (fr cc z1).2)⟩)
        obtain ⟨I2, L2, hk9, M2, t6, l25, fr9⟩ := keeps_ok (X := X) (SM_tw (t := 0) M1)
        have m1 := mx_award_2 hR M1.2.1 Z hk9 M2.2.1 h2 h
        refine OI_c (a' := (y_aw (I 226) w)) (b' := (L 229)) k1 ⟨β, δ, γ, _, SB_u S1 out ?_⟩ m1 ?_ (SM_a M2) (fr_t fr_tw (fr_t fr9 fr_a)) (In_p (by omega) hI ?_)
        · exact Rep_aw h2 (h60_of (h_IL H)) hw H1.2.2.2.1
        · exact t6
        · exact Inv_aw (by omega) h2 hw hI.1
      · obtain ⟨I0, L0, hk, S1, fr, sm⟩ := keep_ok (X := X) hB (h60_of (h_IL H))
        have H1 : y_CS N I0 L0 R β (I 226) (L 229) := ⟨hR, h_β H, h_S H, S1.2.2.2.2.2.1, hI.1⟩
        have hβ := h_β H
        have k1 := w_award (kx_award_7 H Z hk H1 h2 h)
        have out : ∀ cc, (∀ j, j < 22 → ¬ cc = β + j) → (va_up I0 β (va_up (I0 β) 0 8)) cc = I0 cc ∧ L0 cc = L0 cc := fun cc ho => ⟨(x_up_ne _ _ (ho 0 (by decide))), rfl⟩
        have M1 := SM_f (I' := (va_up I0 β (va_up (I0 β) 0 8))) (L' := va_up L0 232 (va_up (L0 232) 0 (Int32.ofNat w).toInt64)) hM hR (fun cc z1 z2 => ⟨(out cc (fun j hj => sl_far hβ (Or.inr z1) hj)).1.trans (fr cc z1).1, (x_up_ne _ _ (by omega)).trans ((out cc (fun j hj => sl_far hβ (Or.inr z1) hj)).2.trans (fr cc z1).2)⟩)
        obtain ⟨I2, L2, hk9, M2, t6, l25, fr9⟩ := keeps_ok (X := X) (SM_tw (t := 0) M1)
        have m1 := mx_award_7 hR M1.2.1 Z hk9 M2.2.1 h2 h
        refine OI_c (a' := (va_up (va_up (I 226) 12 (Int32.ofNat w)) 0 8)) (b' := (L 229)) k1 ⟨β, δ, γ, _, SB_u S1 out ?_⟩ m1 ?_ (SM_a M2) (fr_t fr_tw (fr_t fr9 fr_a)) (In_p (by omega) hI ?_)
        · exact Rep_8 h2 (h60_of (h_IL H)) H1.2.2.2.1
        · exact t6
        · exact Inv_8 (by omega) h2 hNs hn h hI.1
  · exact OI_x T0 (by decide) (w_award_x0 (kf_award_0 H Z h0)) (mf_award_0 hR Z h0)
end

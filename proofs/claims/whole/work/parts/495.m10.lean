/-! ===== the model: rank, scaled, charge (laid by wip/whole/src/m10.py) ===== -/
section
variable {X : x_X} {I : Nat → Nat → Int32} {L : Nat → Nat → Int64} {R : Nat → Nat → Option Nat}
theorem c_X9_charge_1 (hR : x_wf R) {v : Int32} (h1 : ¬ (0 ≤ v ∧ v ≤ I 226 13)) : x_Cv X mX9_charge [.ref 225, .int v] (I, L, R) 233 (.inl (some (.long (0))), (x_tw I 1, L, R), 233) := by
  show x_Ev X mX9_charge 0 [some (.ref 225), some (.int v)] [] ((I, L, R), 233, 0, 0) _
  refine f_aload_n (M := mX9_charge) 1 dX9_charge_0 rfl rfl ?_
  refine f_iload_n (M := mX9_charge) 2 dX9_charge_1 rfl rfl ?_
  refine f_i2l (M := mX9_charge) 3 dX9_charge_2 rfl ?_
  refine f_lconst (M := mX9_charge) 4 dX9_charge_3 kl_0 rfl ?_
  refine f_aload_n (M := mX9_charge) 5 dX9_charge_4 rfl rfl ?_
  refine e_getR (M := mX9_charge) dX9_charge_5 fl_9007 (x_kk rfl) (x_kk rfl) rfl (wf_9_0 hR) ?_
  refine f_bipush (M := mX9_charge) 10 dX9_charge_8 kb_13 rfl ?_
  refine e_ild (M := mX9_charge) (w := 606) (j := 13) dX9_charge_10 (x_kk rfl) rfl kn_13 (by omega) (by omega) ?_
  refine f_i2l (M := mX9_charge) 12 dX9_charge_11 rfl ?_
  refine e_cS (M := mX9_charge) [_, _] 0 0 dX9_charge_12 pa_9074 cc_9074 rfl rfl rfl rfl rfl (x_kk rfl) (x_kk rfl) rfl (c_X9_isInI (lo := 0)) rfl ?_
  refine e_if_neF (M := mX9_charge) 22 dX9_charge_15 rfl (x_bnn h1) ?_
  refine f_iconst (M := mX9_charge) 19 dX9_charge_18 ki_1 rfl ?_
  refine f_goto (M := mX9_charge) 37 dX9_charge_19 rfl ?_
  refine e_putI (M := mX9_charge) dX9_charge_37 fl_9033 (x_kk rfl) (x_kk rfl) rfl (fun q9 => Bool.noConfusion q9) ?_
  refine f_aload_n (M := mX9_charge) 41 dX9_charge_40 rfl rfl ?_
  refine e_getI (M := mX9_charge) dX9_charge_41 fl_9033 (x_kk rfl) (x_kk rfl) rfl ?_
  refine e_if_leF (M := mX9_charge) 51 dX9_charge_44 rfl (show ¬ (1 : Int32) ≤ 0 by decide) ?_
  refine f_lconst (M := mX9_charge) 48 dX9_charge_47 kl_0 rfl ?_
  refine f_goto (M := mX9_charge) 56 dX9_charge_48 rfl ?_
  refine e_rl (M := mX9_charge) dX9_charge_56 rfl (x_kk rfl) (x_kk rfl) ?_
  rfl
theorem c_X9_charge_2 (hR : x_wf R) {Nm m : Nat} (hNm : Nm < 36) (hmm : I 226 13 = Int32.ofNat Nm) (hm : m ≤ Nm) (h2 : ¬ 3 ≤ I 226 0) : x_Cv X mX9_charge [.ref 225, .int (Int32.ofNat m)] (I, L, R) 233 (.inl (some (.long (0))), (x_tw I 2, L, R), 233) := by
  show x_Ev X mX9_charge 0 [some (.ref 225), some (.int (Int32.ofNat m))] [] ((I, L, R), 233, 0, 0) _
  refine f_aload_n (M := mX9_charge) 1 dX9_charge_0 rfl rfl ?_
  refine f_iload_n (M := mX9_charge) 2 dX9_charge_1 rfl rfl ?_
  refine f_i2l (M := mX9_charge) 3 dX9_charge_2 rfl ?_
  refine f_lconst (M := mX9_charge) 4 dX9_charge_3 kl_0 rfl ?_
  refine f_aload_n (M := mX9_charge) 5 dX9_charge_4 rfl rfl ?_
  refine e_getR (M := mX9_charge) dX9_charge_5 fl_9007 (x_kk rfl) (x_kk rfl) rfl (wf_9_0 hR) ?_
  refine f_bipush (M := mX9_charge) 10 dX9_charge_8 kb_13 rfl ?_
  refine e_ild (M := mX9_charge) (w := 606) (j := 13) dX9_charge_10 (x_kk rfl) rfl kn_13 (by omega) (by omega) ?_
  refine f_i2l (M := mX9_charge) 12 dX9_charge_11 rfl ?_
  refine e_cS (M := mX9_charge) [_, _] 0 0 dX9_charge_12 pa_9074 cc_9074 rfl rfl rfl rfl rfl (x_kk rfl) (x_kk rfl) rfl (c_X9_isInI (lo := 0)) rfl ?_
  refine e_if_neT (M := mX9_charge) 22 dX9_charge_15 rfl (x_bn (ib_ok hmm (by omega) hm)) ?_
  refine f_aload_n (M := mX9_charge) 23 dX9_charge_22 rfl rfl ?_
  refine e_getR (M := mX9_charge) dX9_charge_23 fl_9007 (x_kk rfl) (x_kk rfl) rfl (wf_9_0 hR) ?_
  refine f_iconst (M := mX9_charge) 27 dX9_charge_26 ki_0 rfl ?_
  refine e_ild (M := mX9_charge) (w := 606) (j := 0) dX9_charge_27 (x_kk rfl) rfl kn_0 (by omega) (by omega) ?_
  refine f_iconst (M := mX9_charge) 29 dX9_charge_28 ki_3 rfl ?_
  refine e_icmp_geF (M := mX9_charge) 36 dX9_charge_29 rfl h2 ?_
  refine f_iconst (M := mX9_charge) 33 dX9_charge_32 ki_2 rfl ?_
  refine f_goto (M := mX9_charge) 37 dX9_charge_33 rfl ?_
  refine e_putI (M := mX9_charge) dX9_charge_37 fl_9033 (x_kk rfl) (x_kk rfl) rfl (fun q9 => Bool.noConfusion q9) ?_
  refine f_aload_n (M := mX9_charge) 41 dX9_charge_40 rfl rfl ?_
  refine e_getI (M := mX9_charge) dX9_charge_41 fl_9033 (x_kk rfl) (x_kk rfl) rfl ?_
  refine e_if_leF (M := mX9_charge) 51 dX9_charge_44 rfl (show ¬ (2 : Int32) ≤ 0 by decide) ?_
  refine f_lconst (M := mX9_charge) 48 dX9_charge_47 kl_0 rfl ?_
  refine f_goto (M := mX9_charge) 56 dX9_charge_48 rfl ?_
  refine e_rl (M := mX9_charge) dX9_charge_56 rfl (x_kk rfl) (x_kk rfl) ?_
  rfl
theorem c_X9_charge_0 (hR : x_wf R) {Nm m : Nat} (hNm : Nm < 36) (hmm : I 226 13 = Int32.ofNat Nm) (hm : m ≤ Nm) {Nl : Nat} (hNl : Nl ≤ 60) (hl : I 226 14 = Int32.ofNat Nl) {Ns : Nat} (hNs : Ns ≤ 6) (hn : I 226 8 = Int32.ofNat Ns) (hB : ¬ 10 * sp_fB (I 226) Nl = 0) (h2 : 3 ≤ I 226 0) : x_Cv X mX9_charge [.ref 225, .int (Int32.ofNat m)] (I, L, R) 233 (.inl (some (.long (sp_chg (I 226) m Nl Ns))), (x_tw I 0, x_facF L (I 226) Nl, R), 233) := by
  show x_Ev X mX9_charge 0 [some (.ref 225), some (.int (Int32.ofNat m))] [] ((I, L, R), 233, 0, 0) _
  refine f_aload_n (M := mX9_charge) 1 dX9_charge_0 rfl rfl ?_
  refine f_iload_n (M := mX9_charge) 2 dX9_charge_1 rfl rfl ?_
  refine f_i2l (M := mX9_charge) 3 dX9_charge_2 rfl ?_
  refine f_lconst (M := mX9_charge) 4 dX9_charge_3 kl_0 rfl ?_
  refine f_aload_n (M := mX9_charge) 5 dX9_charge_4 rfl rfl ?_
  refine e_getR (M := mX9_charge) dX9_charge_5 fl_9007 (x_kk rfl) (x_kk rfl) rfl (wf_9_0 hR) ?_
  refine f_bipush (M := mX9_charge) 10 dX9_charge_8 kb_13 rfl ?_
  refine e_ild (M := mX9_charge) (w := 606) (j := 13) dX9_charge_10 (x_kk rfl) rfl kn_13 (by omega) (by omega) ?_
  refine f_i2l (M := mX9_charge) 12 dX9_charge_11 rfl ?_
  refine e_cS (M := mX9_charge) [_, _] 0 0 dX9_charge_12 pa_9074 cc_9074 rfl rfl rfl rfl rfl (x_kk rfl) (x_kk rfl) rfl (c_X9_isInI (lo := 0)) rfl ?_
  refine e_if_neT (M := mX9_charge) 22 dX9_charge_15 rfl (x_bn (ib_ok hmm (by omega) hm)) ?_
  refine f_aload_n (M := mX9_charge) 23 dX9_charge_22 rfl rfl ?_
  refine e_getR (M := mX9_charge) dX9_charge_23 fl_9007 (x_kk rfl) (x_kk rfl) rfl (wf_9_0 hR) ?_
  refine f_iconst (M := mX9_charge) 27 dX9_charge_26 ki_0 rfl ?_
  refine e_ild (M := mX9_charge) (w := 606) (j := 0) dX9_charge_27 (x_kk rfl) rfl kn_0 (by omega) (by omega) ?_
  refine f_iconst (M := mX9_charge) 29 dX9_charge_28 ki_3 rfl ?_
  refine e_icmp_geT (M := mX9_charge) 36 dX9_charge_29 rfl h2 ?_
  refine f_iconst (M := mX9_charge) 37 dX9_charge_36 ki_0 rfl ?_
  refine e_putI (M := mX9_charge) dX9_charge_37 fl_9033 (x_kk rfl) (x_kk rfl) rfl (fun q9 => Bool.noConfusion q9) ?_
  refine f_aload_n (M := mX9_charge) 41 dX9_charge_40 rfl rfl ?_
  refine e_getI (M := mX9_charge) dX9_charge_41 fl_9033 (x_kk rfl) (x_kk rfl) rfl ?_
  refine e_if_leT (M := mX9_charge) 51 dX9_charge_44 rfl (show (0 : Int32) ≤ 0 by decide) ?_
  refine f_aload_n (M := mX9_charge) 52 dX9_charge_51 rfl rfl ?_
  refine f_iload_n (M := mX9_charge) 53 dX9_charge_52 rfl rfl ?_
  refine e_cV (M := mX9_charge) [_] 0 0 dX9_charge_53 pa_9280 pb_9280 cc_9280 rfl rfl rfl rfl rfl (x_kk rfl) (x_kk rfl) rfl (c_X9_chargeOf (I := x_tw I 0) hR hNl hl hNs hn hB (by omega)) rfl ?_
  refine e_rl (M := mX9_charge) dX9_charge_56 rfl (x_kk rfl) (x_kk rfl) ?_
  rfl
end

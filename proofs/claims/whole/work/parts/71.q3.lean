/-! ===== queries of both, third (laid by wip/whole/src/q3.py) ===== -/
section
variable {X : x_X} {I : Nat → Nat → Int32} {L : Nat → Nat → Int64} {R : Nat → Nat → Option Nat} {N : Nat}
theorem mv_charge (hR : x_wf R) {Nl : Nat} (hNl : Nl ≤ 60) (hl : I 226 14 = Int32.ofNat Nl) {Ns : Nat} (hNs : Ns ≤ 6) (hn : I 226 8 = Int32.ofNat Ns) (hIL : y_IL (I 226)) {m : Nat} (hm : m < 36) {x : Int32} (hx : x = Int32.ofNat m) : x_Cv X mX9_chargeOf [.ref 225, .int x] (I, L, R) 233 (.inl (some (.long (sp_chg (I 226) m Nl Ns))), (I, x_facF L (I 226) Nl, R), 233) := by
  subst hx
  exact c_X9_chargeOf hR hNl hl hNs hn (fB_0 hIL hNl hl) hm
theorem kv_charge {N β : Nat} {a : Nat → Int32} {b : Nat → Int64} (H : y_CS N I L R β a b) {Nl : Nat} (hNl : Nl ≤ 60) (hl : a 14 = Int32.ofNat Nl) {Ns : Nat} (hNs : Ns ≤ 6) (hn : a 8 = Int32.ofNat Ns) {m : Nat} (hm : m < 36) {x : Int32} (hx : x = Int32.ofNat m) : x_Cv X mX6_chargeOf [.ref β, .int x] (I, L, R) 233 (.inl (some (.long (sp_chg a m Nl Ns))), (I, L, R), 233) := by
  subst hx
  exact k_chargeOf H hNl hl hNs hn hm
def sp_ap (a : Nat → Int32) (q : Nat) : Int32 := if 0 ≤ a (366 + 4 * q + 3) - a (366 + 4 * q + 2) then a (366 + 4 * q + 3) - a (366 + 4 * q + 2) else -(a (366 + 4 * q + 3) - a (366 + 4 * q + 2))
abbrev sp_wg (a : Nat → Int32) (k j : Nat) : Prop := (sp_ap a j).toInt64 * (a (366 + 4 * k + 2)).toInt64 < (sp_ap a k).toInt64 * (a (366 + 4 * j + 2)).toInt64
abbrev sp_wf (a : Nat → Int32) (k : Nat) : Prop := ¬ a (366 + 4 * k + 3) = -1 ∧ ¬ a (366 + 4 * k + 2) = 0
def sp_wst (a : Nat → Int32) : Nat → Option Nat := sp_fst (fun k => sp_wf a k) (fun k j => sp_wg a k j)
theorem m_apart (hR : x_wf R) {q : Nat} (hq : q < 60) : x_Cv X mX9_apart [.ref 225, .int (Int32.ofNat q)] (I, L, R) 233 (.inl (some (.int (sp_ap (I 226) q))), (I, L, R), 233) := c_X9_apart hR hq
theorem k_isWorse {N β : Nat} {a : Nat → Int32} {b : Nat → Int64} (H : y_CS N I L R β a b) {Nl : Nat} (hNl : Nl ≤ 60) (hl : a 14 = Int32.ofNat Nl) {q j : Nat} (hq : q < Nl) (hj : j < Nl) : x_Cv X mX4_isWorse [.ref (β + 17), .int (Int32.ofNat q), .int (Int32.ofNat j)] (I, L, R) 233 (.inl (some (.int (x_b (sp_wg a q j)))), (I, L, R), 233) := by
  have e := c_X4_isWorse (X := X) (L := L) (I := I) (h_R H) (h_β H) (show q < 60 by omega) (show j < 60 by omega)
  have e1 := RL_k (h_L H) hNl hl hq
  have e2 := RL_k (h_L H) hNl hl hj
  unfold cv_diff at e
  rw [e1.2.2.1, e1.2.2.2, e2.2.2.1, e2.2.2.2] at e
  exact e
theorem l_X9_worstCheck (hR : x_wf R) {Nl : Nat} (hNl : Nl ≤ 60) (hl : I 226 14 = Int32.ofNat Nl) {r : x_O × x_Mem × Nat} (kk : x_Ev X mX9_worstCheck 82 [some (.ref 225), some (.int (x_on (sp_wst (I 226) Nl))), some (.int (Int32.ofNat Nl))] [] ((I, L, R), 233, 0, 0) r) : ∀ d k, k + d = Nl → x_Ev X mX9_worstCheck 4 [some (.ref 225), some (.int (x_on (sp_wst (I 226) k))), some (.int (Int32.ofNat k))] [] ((I, L, R), 233, 0, 0) r := by
  intro d
  induction d with
  | zero =>
    intro k hd
    obtain rfl : Nl = k := by omega
    refine f_iload_n (M := mX9_worstCheck) 5 dX9_worstCheck_4 rfl rfl ?_
    refine f_aload_n (M := mX9_worstCheck) 6 dX9_worstCheck_5 rfl rfl ?_
    refine e_getR (M := mX9_worstCheck) dX9_worstCheck_6 fl_9007 (x_kk rfl) (x_kk rfl) rfl (wf_9_0 hR) ?_
    refine f_bipush (M := mX9_worstCheck) 11 dX9_worstCheck_9 kb_14 rfl ?_
    refine e_ild (M := mX9_worstCheck) (w := 606) (j := 14) dX9_worstCheck_11 (x_kk rfl) rfl kn_14 (by omega) (by omega) ?_
    refine e_icmp_geT (M := mX9_worstCheck) 82 dX9_worstCheck_12 rfl (by rw [hl]; exact Int32.le_refl _) ?_
    exact kk
  | succ d ih =>
    intro k hd
    cases hw : sp_wst (I 226) k with
    | none =>
      refine f_iload_n (M := mX9_worstCheck) 5 dX9_worstCheck_4 rfl rfl ?_
      refine f_aload_n (M := mX9_worstCheck) 6 dX9_worstCheck_5 rfl rfl ?_
      refine e_getR (M := mX9_worstCheck) dX9_worstCheck_6 fl_9007 (x_kk rfl) (x_kk rfl) rfl (wf_9_0 hR) ?_
      refine f_bipush (M := mX9_worstCheck) 11 dX9_worstCheck_9 kb_14 rfl ?_
      refine e_ild (M := mX9_worstCheck) (w := 606) (j := 14) dX9_worstCheck_11 (x_kk rfl) rfl kn_14 (by omega) (by omega) ?_
      refine e_icmp_geF (M := mX9_worstCheck) 82 dX9_worstCheck_12 rfl (by rw [hl, n_le (by omega) (by omega)]; omega) ?_
      refine f_aload_n (M := mX9_worstCheck) 16 dX9_worstCheck_15 rfl rfl ?_
      refine f_iload_n (M := mX9_worstCheck) 17 dX9_worstCheck_16 rfl rfl ?_
      refine f_iconst (M := mX9_worstCheck) 18 dX9_worstCheck_17 ki_3 rfl ?_
      refine e_cV (M := mX9_worstCheck) [_] 0 0 dX9_worstCheck_18 pa_9258 pb_9258 cc_9258 rfl rfl rfl rfl rfl (x_kk rfl) (x_kk rfl) rfl (c_X9_ofLoad (j := 3) hR (by omega) (by omega)) rfl ?_
      refine f_iconst (M := mX9_worstCheck) 22 dX9_worstCheck_21 ki_m1 rfl ?_
      refine e_icmp_eq (M := mX9_worstCheck) (t := 76) dX9_worstCheck_22 rfl (fun h1 => ?_) (fun h1 => ?_)
      · refine f_iinc (M := mX9_worstCheck) (ls' := [_, _, _]) 79 dX9_worstCheck_76 ki_1 rfl rfl rfl rfl ?_
        refine f_goto (M := mX9_worstCheck) 4 dX9_worstCheck_79 rfl ?_
        rw [n_inc (s := k)]; have ih1 := ih (k + 1) (by omega); rw [show sp_wst (I 226) (k + 1) = _ from (sp_fst_n (fun z => z.1 h1)).trans hw] at ih1; exact ih1
      · refine f_aload_n (M := mX9_worstCheck) 26 dX9_worstCheck_25 rfl rfl ?_
        refine f_iload_n (M := mX9_worstCheck) 27 dX9_worstCheck_26 rfl rfl ?_
        refine f_iconst (M := mX9_worstCheck) 28 dX9_worstCheck_27 ki_2 rfl ?_
        refine e_cV (M := mX9_worstCheck) [_] 0 0 dX9_worstCheck_28 pa_9258 pb_9258 cc_9258 rfl rfl rfl rfl rfl (x_kk rfl) (x_kk rfl) rfl (c_X9_ofLoad (j := 2) hR (by omega) (by omega)) rfl ?_
        refine e_if_ne (M := mX9_worstCheck) (t := 37) dX9_worstCheck_31 rfl (fun h2 => ?_) (fun h2 => ?_)
        · refine f_iload_n (M := mX9_worstCheck) 38 dX9_worstCheck_37 rfl rfl ?_
          refine f_iconst (M := mX9_worstCheck) 39 dX9_worstCheck_38 ki_m1 rfl ?_
          refine e_icmp_eqT (M := mX9_worstCheck) 74 dX9_worstCheck_39 rfl rfl ?_
          refine f_iload_n (M := mX9_worstCheck) 75 dX9_worstCheck_74 rfl rfl ?_
          refine f_istore_n (M := mX9_worstCheck) (ls' := [_, _, _]) 76 dX9_worstCheck_75 rfl rfl rfl ?_
          refine f_iinc (M := mX9_worstCheck) (ls' := [_, _, _]) 79 dX9_worstCheck_76 ki_1 rfl rfl rfl rfl ?_
          refine f_goto (M := mX9_worstCheck) 4 dX9_worstCheck_79 rfl ?_
          rw [n_inc (s := k)]; have ih1 := ih (k + 1) (by omega); rw [show sp_wst (I 226) (k + 1) = _ from sp_fst_0 ⟨h1, h2⟩ hw] at ih1; exact ih1
        · refine f_goto (M := mX9_worstCheck) 76 dX9_worstCheck_34 rfl ?_
          refine f_iinc (M := mX9_worstCheck) (ls' := [_, _, _]) 79 dX9_worstCheck_76 ki_1 rfl rfl rfl rfl ?_
          refine f_goto (M := mX9_worstCheck) 4 dX9_worstCheck_79 rfl ?_
          rw [n_inc (s := k)]; have ih1 := ih (k + 1) (by omega); rw [show sp_wst (I 226) (k + 1) = _ from (sp_fst_n (fun z => z.2 (x_dn h2))).trans hw] at ih1; exact ih1
    | some i =>
      have hi : i < k := sp_fst_lt hw
      refine f_iload_n (M := mX9_worstCheck) 5 dX9_worstCheck_4 rfl rfl ?_
      refine f_aload_n (M := mX9_worstCheck) 6 dX9_worstCheck_5 rfl rfl ?_
      refine e_getR (M := mX9_worstCheck) dX9_worstCheck_6 fl_9007 (x_kk rfl) (x_kk rfl) rfl (wf_9_0 hR) ?_
      refine f_bipush (M := mX9_worstCheck) 11 dX9_worstCheck_9 kb_14 rfl ?_
      refine e_ild (M := mX9_worstCheck) (w := 606) (j := 14) dX9_worstCheck_11 (x_kk rfl) rfl kn_14 (by omega) (by omega) ?_
      refine e_icmp_geF (M := mX9_worstCheck) 82 dX9_worstCheck_12 rfl (by rw [hl, n_le (by omega) (by omega)]; omega) ?_
      refine f_aload_n (M := mX9_worstCheck) 16 dX9_worstCheck_15 rfl rfl ?_
      refine f_iload_n (M := mX9_worstCheck) 17 dX9_worstCheck_16 rfl rfl ?_
      refine f_iconst (M := mX9_worstCheck) 18 dX9_worstCheck_17 ki_3 rfl ?_
      refine e_cV (M := mX9_worstCheck) [_] 0 0 dX9_worstCheck_18 pa_9258 pb_9258 cc_9258 rfl rfl rfl rfl rfl (x_kk rfl) (x_kk rfl) rfl (c_X9_ofLoad (j := 3) hR (by omega) (by omega)) rfl ?_
      refine f_iconst (M := mX9_worstCheck) 22 dX9_worstCheck_21 ki_m1 rfl ?_
      refine e_icmp_eq (M := mX9_worstCheck) (t := 76) dX9_worstCheck_22 rfl (fun h1 => ?_) (fun h1 => ?_)
      · refine f_iinc (M := mX9_worstCheck) (ls' := [_, _, _]) 79 dX9_worstCheck_76 ki_1 rfl rfl rfl rfl ?_
        refine f_goto (M := mX9_worstCheck) 4 dX9_worstCheck_79 rfl ?_
        rw [n_inc (s := k)]; have ih1 := ih (k + 1) (by omega); rw [show sp_wst (I 226) (k + 1) = _ from (sp_fst_n (fun z => z.1 h1)).trans hw] at ih1; exact ih1
      · refine f_aload_n (M := mX9_worstCheck) 26 dX9_worstCheck_25 rfl rfl ?_
        refine f_iload_n (M := mX9_worstCheck) 27 dX9_worstCheck_26 rfl rfl ?_
        refine f_iconst (M := mX9_worstCheck) 28 dX9_worstCheck_27 ki_2 rfl ?_
        refine e_cV (M := mX9_worstCheck) [_] 0 0 dX9_worstCheck_28 pa_9258 pb_9258 cc_9258 rfl rfl rfl rfl rfl (x_kk rfl) (x_kk rfl) rfl (c_X9_ofLoad (j := 2) hR (by omega) (by omega)) rfl ?_
        refine e_if_ne (M := mX9_worstCheck) (t := 37) dX9_worstCheck_31 rfl (fun h2 => ?_) (fun h2 => ?_)
        · refine f_iload_n (M := mX9_worstCheck) 38 dX9_worstCheck_37 rfl rfl ?_
          refine f_iconst (M := mX9_worstCheck) 39 dX9_worstCheck_38 ki_m1 rfl ?_
          refine e_icmp_eqF (M := mX9_worstCheck) 74 dX9_worstCheck_39 rfl (n_ne1 (by omega)) ?_
          refine f_aload_n (M := mX9_worstCheck) 43 dX9_worstCheck_42 rfl rfl ?_
          refine f_iload_n (M := mX9_worstCheck) 44 dX9_worstCheck_43 rfl rfl ?_
          refine e_cV (M := mX9_worstCheck) [_] 0 0 dX9_worstCheck_44 pa_9261 pb_9261 cc_9261 rfl rfl rfl rfl rfl (x_kk rfl) (x_kk rfl) rfl (m_apart hR (by omega)) rfl ?_
          refine f_i2l (M := mX9_worstCheck) 48 dX9_worstCheck_47 rfl ?_
          refine f_aload_n (M := mX9_worstCheck) 49 dX9_worstCheck_48 rfl rfl ?_
          refine f_iload_n (M := mX9_worstCheck) 50 dX9_worstCheck_49 rfl rfl ?_
          refine f_iconst (M := mX9_worstCheck) 51 dX9_worstCheck_50 ki_2 rfl ?_
          refine e_cV (M := mX9_worstCheck) [_, _] 0 0 dX9_worstCheck_51 pa_9258 pb_9258 cc_9258 rfl rfl rfl rfl rfl (x_kk rfl) (x_kk rfl) rfl (c_X9_ofLoad (j := 2) hR (by omega) (by omega)) rfl ?_
          refine f_i2l (M := mX9_worstCheck) 55 dX9_worstCheck_54 rfl ?_
          refine f_lmul (M := mX9_worstCheck) 56 dX9_worstCheck_55 rfl ?_
          refine f_aload_n (M := mX9_worstCheck) 57 dX9_worstCheck_56 rfl rfl ?_
          refine f_iload_n (M := mX9_worstCheck) 58 dX9_worstCheck_57 rfl rfl ?_
          refine e_cV (M := mX9_worstCheck) [_, _] 0 0 dX9_worstCheck_58 pa_9261 pb_9261 cc_9261 rfl rfl rfl rfl rfl (x_kk rfl) (x_kk rfl) rfl (m_apart hR (by omega)) rfl ?_
          refine f_i2l (M := mX9_worstCheck) 62 dX9_worstCheck_61 rfl ?_
          refine f_aload_n (M := mX9_worstCheck) 63 dX9_worstCheck_62 rfl rfl ?_
          refine f_iload_n (M := mX9_worstCheck) 64 dX9_worstCheck_63 rfl rfl ?_
          refine f_iconst (M := mX9_worstCheck) 65 dX9_worstCheck_64 ki_2 rfl ?_
          refine e_cV (M := mX9_worstCheck) [_, _, _] 0 0 dX9_worstCheck_65 pa_9258 pb_9258 cc_9258 rfl rfl rfl rfl rfl (x_kk rfl) (x_kk rfl) rfl (c_X9_ofLoad (j := 2) hR (by omega) (by omega)) rfl ?_
          refine f_i2l (M := mX9_worstCheck) 69 dX9_worstCheck_68 rfl ?_
          refine f_lmul (M := mX9_worstCheck) 70 dX9_worstCheck_69 rfl ?_
          refine f_lcmp (M := mX9_worstCheck) 71 dX9_worstCheck_70 rfl ?_
          refine e_if_le (M := mX9_worstCheck) (t := 76) dX9_worstCheck_71 rfl (fun h3 => ?_) (fun h3 => ?_)
          · refine f_iinc (M := mX9_worstCheck) (ls' := [_, _, _]) 79 dX9_worstCheck_76 ki_1 rfl rfl rfl rfl ?_
            refine f_goto (M := mX9_worstCheck) 4 dX9_worstCheck_79 rfl ?_
            rw [n_inc (s := k)]; have ih1 := ih (k + 1) (by omega); rw [show sp_wst (I 226) (k + 1) = _ from (sp_fst_2 hw (l_nlt.mpr (lc_le.mp h3))).trans hw] at ih1; exact ih1
          · refine f_iload_n (M := mX9_worstCheck) 75 dX9_worstCheck_74 rfl rfl ?_
            refine f_istore_n (M := mX9_worstCheck) (ls' := [_, _, _]) 76 dX9_worstCheck_75 rfl rfl rfl ?_
            refine f_iinc (M := mX9_worstCheck) (ls' := [_, _, _]) 79 dX9_worstCheck_76 ki_1 rfl rfl rfl rfl ?_
            refine f_goto (M := mX9_worstCheck) 4 dX9_worstCheck_79 rfl ?_
            rw [n_inc (s := k)]; have ih1 := ih (k + 1) (by omega); rw [show sp_wst (I 226) (k + 1) = _ from sp_fst_1 ⟨h1, h2⟩ hw (l_nle.mp (fun z => h3 (lc_le.mpr z)))] at ih1; exact ih1
        · refine f_goto (M := mX9_worstCheck) 76 dX9_worstCheck_34 rfl ?_
          refine f_iinc (M := mX9_worstCheck) (ls' := [_, _, _]) 79 dX9_worstCheck_76 ki_1 rfl rfl rfl rfl ?_
          refine f_goto (M := mX9_worstCheck) 4 dX9_worstCheck_79 rfl ?_
          rw [n_inc (s := k)]; have ih1 := ih (k + 1) (by omega); rw [show sp_wst (I 226) (k + 1) = _ from (sp_fst_n (fun z => z.2 (x_dn h2))).trans hw] at ih1; exact ih1
theorem mo_worstCheck_1 (hR : x_wf R) {Ns Np Nl Nm : Nat} (Z : y_Z (I 226) Ns Np Nl Nm) (h : sp_wst (I 226) Nl = none) : x_Cv X mX9_worstCheck [.ref 225] (I, L, R) 233 (.inl (some (.int (0))), (x_tw I 1, L, R), 233) := by
  obtain ⟨hNs, hn, hNp, hp, hNl, hl, hNm, hmm⟩ := Z
  show x_Ev X mX9_worstCheck 0 [some (.ref 225), none, none] [] ((I, L, R), 233, 0, 0) _
  refine f_iconst (M := mX9_worstCheck) 1 dX9_worstCheck_0 ki_m1 rfl ?_
  refine f_istore_n (M := mX9_worstCheck) (ls' := [_, _, _]) 2 dX9_worstCheck_1 rfl rfl rfl ?_
  refine f_iconst (M := mX9_worstCheck) 3 dX9_worstCheck_2 ki_0 rfl ?_
  refine f_istore_n (M := mX9_worstCheck) (ls' := [_, _, _]) 4 dX9_worstCheck_3 rfl rfl rfl ?_
  refine l_X9_worstCheck hR hNl hl ?_ Nl 0 (by omega)
  rw [h]
  refine f_aload_n (M := mX9_worstCheck) 83 dX9_worstCheck_82 rfl rfl ?_
  refine f_iload_n (M := mX9_worstCheck) 84 dX9_worstCheck_83 rfl rfl ?_
  refine f_iconst (M := mX9_worstCheck) 85 dX9_worstCheck_84 ki_m1 rfl ?_
  refine e_icmp_neF (M := mX9_worstCheck) 92 dX9_worstCheck_85 rfl (fun z => z rfl) ?_
  refine f_iconst (M := mX9_worstCheck) 89 dX9_worstCheck_88 ki_1 rfl ?_
  refine f_goto (M := mX9_worstCheck) 93 dX9_worstCheck_89 rfl ?_
  refine e_putI (M := mX9_worstCheck) dX9_worstCheck_93 fl_9033 (x_kk rfl) (x_kk rfl) rfl (fun q9 => Bool.noConfusion q9) ?_
  refine f_aload_n (M := mX9_worstCheck) 97 dX9_worstCheck_96 rfl rfl ?_
  refine e_getI (M := mX9_worstCheck) dX9_worstCheck_97 fl_9033 (x_kk rfl) (x_kk rfl) rfl ?_
  refine e_if_leF (M := mX9_worstCheck) 107 dX9_worstCheck_100 rfl (show ¬ ((1 : Int32) ≤ 0) by decide) ?_
  refine f_iconst (M := mX9_worstCheck) 104 dX9_worstCheck_103 ki_0 rfl ?_
  refine f_goto (M := mX9_worstCheck) 108 dX9_worstCheck_104 rfl ?_
  refine e_ri (M := mX9_worstCheck) dX9_worstCheck_108 rfl (x_kk rfl) (x_kk rfl) ?_
  rfl
theorem mo_worstCheck_0 (hR : x_wf R) {Ns Np Nl Nm : Nat} (Z : y_Z (I 226) Ns Np Nl Nm) {i : Nat} (h : sp_wst (I 226) Nl = some i) : x_Cv X mX9_worstCheck [.ref 225] (I, L, R) 233 (.inl (some (.int (Int32.ofNat i))), (x_tw I 0, L, R), 233) := by
  obtain ⟨hNs, hn, hNp, hp, hNl, hl, hNm, hmm⟩ := Z
  show x_Ev X mX9_worstCheck 0 [some (.ref 225), none, none] [] ((I, L, R), 233, 0, 0) _
  refine f_iconst (M := mX9_worstCheck) 1 dX9_worstCheck_0 ki_m1 rfl ?_
  refine f_istore_n (M := mX9_worstCheck) (ls' := [_, _, _]) 2 dX9_worstCheck_1 rfl rfl rfl ?_
  refine f_iconst (M := mX9_worstCheck) 3 dX9_worstCheck_2 ki_0 rfl ?_
  refine f_istore_n (M := mX9_worstCheck) (ls' := [_, _, _]) 4 dX9_worstCheck_3 rfl rfl rfl ?_
  refine l_X9_worstCheck hR hNl hl ?_ Nl 0 (by omega)
  rw [h]
  have hi : i < Nl := sp_fst_lt h
  refine f_aload_n (M := mX9_worstCheck) 83 dX9_worstCheck_82 rfl rfl ?_
  refine f_iload_n (M := mX9_worstCheck) 84 dX9_worstCheck_83 rfl rfl ?_
  refine f_iconst (M := mX9_worstCheck) 85 dX9_worstCheck_84 ki_m1 rfl ?_
  refine e_icmp_neT (M := mX9_worstCheck) 92 dX9_worstCheck_85 rfl (n_ne1 (by omega)) ?_
  refine f_iconst (M := mX9_worstCheck) 93 dX9_worstCheck_92 ki_0 rfl ?_
  refine e_putI (M := mX9_worstCheck) dX9_worstCheck_93 fl_9033 (x_kk rfl) (x_kk rfl) rfl (fun q9 => Bool.noConfusion q9) ?_
  refine f_aload_n (M := mX9_worstCheck) 97 dX9_worstCheck_96 rfl rfl ?_
  refine e_getI (M := mX9_worstCheck) dX9_worstCheck_97 fl_9033 (x_kk rfl) (x_kk rfl) rfl ?_
  refine e_if_leT (M := mX9_worstCheck) 107 dX9_worstCheck_100 rfl (show (0 : Int32) ≤ 0 by decide) ?_
  refine f_iload_n (M := mX9_worstCheck) 108 dX9_worstCheck_107 rfl rfl ?_
  refine e_ri (M := mX9_worstCheck) dX9_worstCheck_108 rfl (x_kk rfl) (x_kk rfl) ?_
  rfl
theorem l_X4_worstChecked {N β : Nat} {a : Nat → Int32} {b : Nat → Int64} (H : y_CS N I L R β a b) {Nl : Nat} (hNl : Nl ≤ 60) (hl : a 14 = Int32.ofNat Nl) : ∀ d k, k + d = Nl → x_Ev X mX4_worstChecked 4 [some (.ref (β + 17)), some (.int (x_on (sp_wst a k))), some (.int (Int32.ofNat k))] [] ((I, L, R), 233, 0, 0) (.inl (some (.int (x_on (sp_wst a Nl)))), (I, L, R), 233) := by
  have hR := h_R H
  have hβ := h_β H
  have hlI : I (β + 17) 0 = Int32.ofNat Nl := (h_L H).1.trans hl
  intro d
  induction d with
  | zero =>
    intro k hd
    obtain rfl : Nl = k := by omega
    refine f_iload_n (M := mX4_worstChecked) 5 dX4_worstChecked_4 rfl rfl ?_
    refine f_aload_n (M := mX4_worstChecked) 6 dX4_worstChecked_5 rfl rfl ?_
    refine e_getI (M := mX4_worstChecked) dX4_worstChecked_6 fl_4024 (x_kk rfl) (sl_lt hβ 17 rfl) (sl_s hβ 17 rfl rfl) ?_
    refine e_icmp_geT (M := mX4_worstChecked) 51 dX4_worstChecked_9 rfl (by rw [hlI]; exact Int32.le_refl _) ?_
    refine f_iload_n (M := mX4_worstChecked) 52 dX4_worstChecked_51 rfl rfl ?_
    refine e_ri (M := mX4_worstChecked) dX4_worstChecked_52 rfl (x_kk rfl) (x_kk rfl) ?_
    rfl
  | succ d ih =>
    intro k hd
    have hk : k < Nl := by omega
    have rk := RL_k (h_L H) hNl hl hk
    have bk := (IL_k (h_IL H) hNl hl hk).2.1
    cases hw : sp_wst a k with
    | none =>
      refine f_iload_n (M := mX4_worstChecked) 5 dX4_worstChecked_4 rfl rfl ?_
      refine f_aload_n (M := mX4_worstChecked) 6 dX4_worstChecked_5 rfl rfl ?_
      refine e_getI (M := mX4_worstChecked) dX4_worstChecked_6 fl_4024 (x_kk rfl) (sl_lt hβ 17 rfl) (sl_s hβ 17 rfl rfl) ?_
      refine e_icmp_geF (M := mX4_worstChecked) 51 dX4_worstChecked_9 rfl (by rw [hlI, n_le (by omega) (by omega)]; omega) ?_
      refine f_aload_n (M := mX4_worstChecked) 13 dX4_worstChecked_12 rfl rfl ?_
      refine f_iload_n (M := mX4_worstChecked) 14 dX4_worstChecked_13 rfl rfl ?_
      refine e_cV (M := mX4_worstChecked) [_] 0 0 dX4_worstChecked_14 pa_4048 pb_4048 cc_4048 rfl rfl rfl rfl rfl (x_kk rfl) (x_kk rfl) (x_rcvOK (sl_lt hβ 17 rfl) (sl_s hβ 17 rfl rfl) rfl) (k_isChecked H hNl hl hk) rfl ?_
      refine e_if_eq (M := mX4_worstChecked) (t := 45) dX4_worstChecked_17 rfl (fun h1 => ?_) (fun h1 => ?_)
      · refine f_iinc (M := mX4_worstChecked) (ls' := [_, _, _]) 48 dX4_worstChecked_45 ki_1 rfl rfl rfl rfl ?_
        refine f_goto (M := mX4_worstChecked) 4 dX4_worstChecked_48 rfl ?_
        rw [n_inc (s := k)]; have ih1 := ih (k + 1) (by omega); rw [show sp_wst a (k + 1) = _ from (sp_fst_n (fun z => x_bF h1 z.1)).trans hw] at ih1; exact ih1
      · refine f_aload_n (M := mX4_worstChecked) 21 dX4_worstChecked_20 rfl rfl ?_
        refine e_getR (M := mX4_worstChecked) dX4_worstChecked_21 fl_4018 (x_kk rfl) (sl_lt hβ 17 rfl) (sl_s hβ 17 rfl rfl) (wf_4_5 hR hβ) ?_
        refine f_iload_n (M := mX4_worstChecked) 25 dX4_worstChecked_24 rfl rfl ?_
        refine e_ild (M := mX4_worstChecked) (w := 60) (j := k) dX4_worstChecked_25 (sl_lt hβ 20 rfl) (sl_shp hβ 20 rfl) rfl (by omega) (by omega) ?_
        refine e_if_le (M := mX4_worstChecked) (t := 45) dX4_worstChecked_26 rfl (fun h2 => ?_) (fun h2 => ?_)
        · refine f_iinc (M := mX4_worstChecked) (ls' := [_, _, _]) 48 dX4_worstChecked_45 ki_1 rfl rfl rfl rfl ?_
          refine f_goto (M := mX4_worstChecked) 4 dX4_worstChecked_48 rfl ?_
          rw [n_inc (s := k)]; have ih1 := ih (k + 1) (by omega); rw [show sp_wst a (k + 1) = _ from (sp_fst_n (fun z => z.2 (by have z2 := t_le.mp h2; rw [rk.2.2.1, show (0 : Int32).toInt = 0 from by decide] at z2; rw [t_eq, show (0 : Int32).toInt = 0 from by decide]; have := bk.1; omega))).trans hw] at ih1; exact ih1
        · refine f_iload_n (M := mX4_worstChecked) 30 dX4_worstChecked_29 rfl rfl ?_
          refine f_iconst (M := mX4_worstChecked) 31 dX4_worstChecked_30 ki_m1 rfl ?_
          refine e_icmp_eqT (M := mX4_worstChecked) 43 dX4_worstChecked_31 rfl rfl ?_
          refine f_iload_n (M := mX4_worstChecked) 44 dX4_worstChecked_43 rfl rfl ?_
          refine f_istore_n (M := mX4_worstChecked) (ls' := [_, _, _]) 45 dX4_worstChecked_44 rfl rfl rfl ?_
          refine f_iinc (M := mX4_worstChecked) (ls' := [_, _, _]) 48 dX4_worstChecked_45 ki_1 rfl rfl rfl rfl ?_
          refine f_goto (M := mX4_worstChecked) 4 dX4_worstChecked_48 rfl ?_
          rw [n_inc (s := k)]; have ih1 := ih (k + 1) (by omega); rw [show sp_wst a (k + 1) = _ from sp_fst_0 ⟨x_bT h1, (fun z => h2 (by rw [rk.2.2.1, z]; exact Int32.le_refl _))⟩ hw] at ih1; exact ih1
    | some i =>
      have hi : i < k := sp_fst_lt hw
      refine f_iload_n (M := mX4_worstChecked) 5 dX4_worstChecked_4 rfl rfl ?_
      refine f_aload_n (M := mX4_worstChecked) 6 dX4_worstChecked_5 rfl rfl ?_
      refine e_getI (M := mX4_worstChecked) dX4_worstChecked_6 fl_4024 (x_kk rfl) (sl_lt hβ 17 rfl) (sl_s hβ 17 rfl rfl) ?_
      refine e_icmp_geF (M := mX4_worstChecked) 51 dX4_worstChecked_9 rfl (by rw [hlI, n_le (by omega) (by omega)]; omega) ?_
      refine f_aload_n (M := mX4_worstChecked) 13 dX4_worstChecked_12 rfl rfl ?_
      refine f_iload_n (M := mX4_worstChecked) 14 dX4_worstChecked_13 rfl rfl ?_
      refine e_cV (M := mX4_worstChecked) [_] 0 0 dX4_worstChecked_14 pa_4048 pb_4048 cc_4048 rfl rfl rfl rfl rfl (x_kk rfl) (x_kk rfl) (x_rcvOK (sl_lt hβ 17 rfl) (sl_s hβ 17 rfl rfl) rfl) (k_isChecked H hNl hl hk) rfl ?_
      refine e_if_eq (M := mX4_worstChecked) (t := 45) dX4_worstChecked_17 rfl (fun h1 => ?_) (fun h1 => ?_)
      · refine f_iinc (M := mX4_worstChecked) (ls' := [_, _, _]) 48 dX4_worstChecked_45 ki_1 rfl rfl rfl rfl ?_
        refine f_goto (M := mX4_worstChecked) 4 dX4_worstChecked_48 rfl ?_
        rw [n_inc (s := k)]; have ih1 := ih (k + 1) (by omega); rw [show sp_wst a (k + 1) = _ from (sp_fst_n (fun z => x_bF h1 z.1)).trans hw] at ih1; exact ih1
      · refine f_aload_n (M := mX4_worstChecked) 21 dX4_worstChecked_20 rfl rfl ?_
        refine e_getR (M := mX4_worstChecked) dX4_worstChecked_21 fl_4018 (x_kk rfl) (sl_lt hβ 17 rfl) (sl_s hβ 17 rfl rfl) (wf_4_5 hR hβ) ?_
        refine f_iload_n (M := mX4_worstChecked) 25 dX4_worstChecked_24 rfl rfl ?_
        refine e_ild (M := mX4_worstChecked) (w := 60) (j := k) dX4_worstChecked_25 (sl_lt hβ 20 rfl) (sl_shp hβ 20 rfl) rfl (by omega) (by omega) ?_
        refine e_if_le (M := mX4_worstChecked) (t := 45) dX4_worstChecked_26 rfl (fun h2 => ?_) (fun h2 => ?_)
        · refine f_iinc (M := mX4_worstChecked) (ls' := [_, _, _]) 48 dX4_worstChecked_45 ki_1 rfl rfl rfl rfl ?_
          refine f_goto (M := mX4_worstChecked) 4 dX4_worstChecked_48 rfl ?_
          rw [n_inc (s := k)]; have ih1 := ih (k + 1) (by omega); rw [show sp_wst a (k + 1) = _ from (sp_fst_n (fun z => z.2 (by have z2 := t_le.mp h2; rw [rk.2.2.1, show (0 : Int32).toInt = 0 from by decide] at z2; rw [t_eq, show (0 : Int32).toInt = 0 from by decide]; have := bk.1; omega))).trans hw] at ih1; exact ih1
        · refine f_iload_n (M := mX4_worstChecked) 30 dX4_worstChecked_29 rfl rfl ?_
          refine f_iconst (M := mX4_worstChecked) 31 dX4_worstChecked_30 ki_m1 rfl ?_
          refine e_icmp_eqF (M := mX4_worstChecked) 43 dX4_worstChecked_31 rfl (n_ne1 (by omega)) ?_
          refine f_aload_n (M := mX4_worstChecked) 35 dX4_worstChecked_34 rfl rfl ?_
          refine f_iload_n (M := mX4_worstChecked) 36 dX4_worstChecked_35 rfl rfl ?_
          refine f_iload_n (M := mX4_worstChecked) 37 dX4_worstChecked_36 rfl rfl ?_
          refine e_cV (M := mX4_worstChecked) [_] 0 0 dX4_worstChecked_37 pa_4052 pb_4052 cc_4052 rfl rfl rfl rfl rfl (x_kk rfl) (x_kk rfl) (x_rcvOK (sl_lt hβ 17 rfl) (sl_s hβ 17 rfl rfl) rfl) (k_isWorse H hNl hl hk (by omega)) rfl ?_
          refine e_if_eq (M := mX4_worstChecked) (t := 45) dX4_worstChecked_40 rfl (fun h3 => ?_) (fun h3 => ?_)
          · refine f_iinc (M := mX4_worstChecked) (ls' := [_, _, _]) 48 dX4_worstChecked_45 ki_1 rfl rfl rfl rfl ?_
            refine f_goto (M := mX4_worstChecked) 4 dX4_worstChecked_48 rfl ?_
            rw [n_inc (s := k)]; have ih1 := ih (k + 1) (by omega); rw [show sp_wst a (k + 1) = _ from (sp_fst_2 hw (x_bF h3)).trans hw] at ih1; exact ih1
          · refine f_iload_n (M := mX4_worstChecked) 44 dX4_worstChecked_43 rfl rfl ?_
            refine f_istore_n (M := mX4_worstChecked) (ls' := [_, _, _]) 45 dX4_worstChecked_44 rfl rfl rfl ?_
            refine f_iinc (M := mX4_worstChecked) (ls' := [_, _, _]) 48 dX4_worstChecked_45 ki_1 rfl rfl rfl rfl ?_
            refine f_goto (M := mX4_worstChecked) 4 dX4_worstChecked_48 rfl ?_
            rw [n_inc (s := k)]; have ih1 := ih (k + 1) (by omega); rw [show sp_wst a (k + 1) = _ from sp_fst_1 ⟨x_bT h1, (fun z => h2 (by rw [rk.2.2.1, z]; exact Int32.le_refl _))⟩ hw (x_bT h3)] at ih1; exact ih1
theorem k_worstChecked {N β : Nat} {a : Nat → Int32} {b : Nat → Int64} (H : y_CS N I L R β a b) {Nl : Nat} (hNl : Nl ≤ 60) (hl : a 14 = Int32.ofNat Nl) : x_Cv X mX4_worstChecked [.ref (β + 17)] (I, L, R) 233 (.inl (some (.int (x_on (sp_wst a Nl)))), (I, L, R), 233) := by
  show x_Ev X mX4_worstChecked 0 [some (.ref (β + 17)), none, none] [] ((I, L, R), 233, 0, 0) _
  refine f_iconst (M := mX4_worstChecked) 1 dX4_worstChecked_0 ki_m1 rfl ?_
  refine f_istore_n (M := mX4_worstChecked) (ls' := [_, _, _]) 2 dX4_worstChecked_1 rfl rfl rfl ?_
  refine f_iconst (M := mX4_worstChecked) 3 dX4_worstChecked_2 ki_0 rfl ?_
  refine f_istore_n (M := mX4_worstChecked) (ls' := [_, _, _]) 4 dX4_worstChecked_3 rfl rfl rfl ?_
  exact l_X4_worstChecked H hNl hl Nl 0 (by omega)
theorem kf_worstCheck {N β : Nat} {a : Nat → Int32} {b : Nat → Int64} (H : y_CS N I L R β a b) {Ns Np Nl Nm : Nat} (Z : y_Z a Ns Np Nl Nm) (h : sp_wst a Nl = none) : x_Cv X mX8_worstCheck [.ref 0] (I, L, R) 233 (.inr 3, (I, L, R), 233) := by
  obtain ⟨hNs, hn, hNp, hp, hNl, hl, hNm, hmm⟩ := Z
  have hR := h_R H
  have hβ := h_β H
  have hS := h_S H
  show x_Ev X mX8_worstCheck 0 [some (.ref 0), none] [] ((I, L, R), 233, 0, 0) _
  refine f_aload_n (M := mX8_worstCheck) 1 dX8_worstCheck_0 rfl rfl ?_
  refine e_getR (M := mX8_worstCheck) dX8_worstCheck_1 fl_8026 (x_kk rfl) (x_kk rfl) rfl hS ?_
  refine e_getR (M := mX8_worstCheck) dX8_worstCheck_4 fl_8245 (x_kk rfl) (sl_lt hβ 0 rfl) (sl_s hβ 0 rfl rfl) (wf_6_5 hR hβ) ?_
  refine e_cV (M := mX8_worstCheck) [_] 0 0 dX8_worstCheck_7 pa_8278 pb_8278 cc_8278 rfl rfl rfl rfl rfl (x_kk rfl) (x_kk rfl) (x_rcvOK (sl_lt hβ 17 rfl) (sl_s hβ 17 rfl rfl) rfl) ((by have e := k_worstChecked (X := X) H hNl hl; rw [h] at e; exact e)) rfl ?_
  refine f_istore_n (M := mX8_worstCheck) (ls' := [_, _]) 11 dX8_worstCheck_10 rfl rfl rfl ?_
  refine f_iload_n (M := mX8_worstCheck) 12 dX8_worstCheck_11 rfl rfl ?_
  refine f_iconst (M := mX8_worstCheck) 13 dX8_worstCheck_12 ki_m1 rfl ?_
  refine e_icmp_eqT (M := mX8_worstCheck) 20 dX8_worstCheck_13 rfl rfl ?_
  refine f_iconst (M := mX8_worstCheck) 21 dX8_worstCheck_20 ki_0 rfl ?_
  exact e_cSX (M := mX8_worstCheck) 1 6 dX8_worstCheck_21 pa_8211 cc_8211 rfl rfl rfl rfl rfl (x_kk rfl) (x_kk rfl) rfl (c_X8_requireFound_x rfl) rfl
theorem ko_worstCheck {N β : Nat} {a : Nat → Int32} {b : Nat → Int64} (H : y_CS N I L R β a b) {Ns Np Nl Nm : Nat} (Z : y_Z a Ns Np Nl Nm) {i : Nat} (h : sp_wst a Nl = some i) : x_Cv X mX8_worstCheck [.ref 0] (I, L, R) 233 (.inl (some (.int (Int32.ofNat i))), (I, L, R), 233) := by
  obtain ⟨hNs, hn, hNp, hp, hNl, hl, hNm, hmm⟩ := Z
  have hR := h_R H
  have hβ := h_β H
  have hS := h_S H
  show x_Ev X mX8_worstCheck 0 [some (.ref 0), none] [] ((I, L, R), 233, 0, 0) _
  refine f_aload_n (M := mX8_worstCheck) 1 dX8_worstCheck_0 rfl rfl ?_
  refine e_getR (M := mX8_worstCheck) dX8_worstCheck_1 fl_8026 (x_kk rfl) (x_kk rfl) rfl hS ?_
  refine e_getR (M := mX8_worstCheck) dX8_worstCheck_4 fl_8245 (x_kk rfl) (sl_lt hβ 0 rfl) (sl_s hβ 0 rfl rfl) (wf_6_5 hR hβ) ?_
  refine e_cV (M := mX8_worstCheck) [_] 0 0 dX8_worstCheck_7 pa_8278 pb_8278 cc_8278 rfl rfl rfl rfl rfl (x_kk rfl) (x_kk rfl) (x_rcvOK (sl_lt hβ 17 rfl) (sl_s hβ 17 rfl rfl) rfl) ((by have e := k_worstChecked (X := X) H hNl hl; rw [h] at e; exact e)) rfl ?_
  refine f_istore_n (M := mX8_worstCheck) (ls' := [_, _]) 11 dX8_worstCheck_10 rfl rfl rfl ?_
  refine f_iload_n (M := mX8_worstCheck) 12 dX8_worstCheck_11 rfl rfl ?_
  refine f_iconst (M := mX8_worstCheck) 13 dX8_worstCheck_12 ki_m1 rfl ?_
  refine e_icmp_eqF (M := mX8_worstCheck) 20 dX8_worstCheck_13 rfl (n_ne1 (by have := sp_fst_lt h; omega)) ?_
  refine f_iconst (M := mX8_worstCheck) 17 dX8_worstCheck_16 ki_1 rfl ?_
  refine f_goto (M := mX8_worstCheck) 21 dX8_worstCheck_17 rfl ?_
  refine e_cS (M := mX8_worstCheck) [] 1 6 dX8_worstCheck_21 pa_8211 cc_8211 rfl rfl rfl rfl rfl (x_kk rfl) (x_kk rfl) rfl (c_X8_requireFound (by decide)) rfl ?_
  refine f_iload_n (M := mX8_worstCheck) 25 dX8_worstCheck_24 rfl rfl ?_
  refine e_ri (M := mX8_worstCheck) dX8_worstCheck_25 rfl (x_kk rfl) (x_kk rfl) ?_
  rfl
theorem sim_worstCheck (T : y_T N I L R) : y_OI N X mL_worstCheck [.ref 0, .ref 232] mX9_worstCheck [.ref 225] I L R := by
  have T0 := T
  obtain ⟨a, b, kn, ks, bf, bn, ep, ⟨β, δ, γ, ν, hB⟩, hM, hI⟩ := T
  have H : y_CS N I L R β a b := ⟨hM.1, hB.1.2.1, hB.1.2.2.2.2.1, hB.2.2.2.2.2.1, hI.1⟩
  obtain ⟨Ns, Np, Nl, Nm, Z⟩ := Z_of hI.1
  have hR := hM.1
  have ha : I 226 = a := hM.2.1
  have hb : L 229 = b := hM.2.2.1
  subst ha
  subst hb
  obtain ⟨hNs, hn, hNp, hp, hNl, hl, hNm, hmm⟩ := id Z
  cases h : sp_wst (I 226) Nl with
  | none => exact OI_x T0 (by decide) (w_worstCheck_x3 (kf_worstCheck H Z h)) (mo_worstCheck_1 hR Z h)
  | some i => exact OI_q T0 (w_worstCheck (ko_worstCheck H Z h)) (mo_worstCheck_0 hR Z h)
end

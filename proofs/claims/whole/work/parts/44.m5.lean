/-! ===== the model: the rest of the readers (laid by wip/whole/src/m5.py) ===== -/
section
variable {X : x_X} {I : Nat → Nat → Int32} {L : Nat → Nat → Int64} {R : Nat → Nat → Option Nat}
def sp_fbut (a : Nat → Int32) (n b : Nat) : Nat → Option Nat := sp_fst (fun k => ¬ k = b ∧ sp_prob a k n = 0) (fun k j => sp_bef a k j (-1) 100 n)
theorem l_X9_firstBut (hR : x_wf R) {Ns : Nat} (hNs : Ns ≤ 6) (hn : I 226 8 = Int32.ofNat Ns) {b : Nat} (hb : b < 8) : ∀ d k, k + d = 8 → x_Ev X mX9_firstBut 4 [some (.ref 225), some (.int (Int32.ofNat b)), some (.int (x_on (sp_fbut (I 226) Ns b k))), some (.int (Int32.ofNat k))] [] ((I, L, R), 233, 0, 0) (.inl (some (.int (x_on (sp_fbut (I 226) Ns b 8)))), (I, L, R), 233) := by
  intro d
  induction d with
  | zero =>
    intro k hd
    obtain rfl : 8 = k := by omega
    refine f_iload_n (M := mX9_firstBut) 5 dX9_firstBut_4 rfl rfl ?_
    refine f_bipush (M := mX9_firstBut) 7 dX9_firstBut_5 kb_8 rfl ?_
    refine e_icmp_geT (M := mX9_firstBut) 48 dX9_firstBut_7 rfl (by decide) ?_
    refine f_iload_n (M := mX9_firstBut) 49 dX9_firstBut_48 rfl rfl ?_
    refine e_ri (M := mX9_firstBut) dX9_firstBut_49 rfl (x_kk rfl) (x_kk rfl) ?_
    rfl
  | succ d ih =>
    intro k hd
    cases hw : sp_fbut (I 226) Ns b k with
    | none =>
      refine f_iload_n (M := mX9_firstBut) 5 dX9_firstBut_4 rfl rfl ?_
      refine f_bipush (M := mX9_firstBut) 7 dX9_firstBut_5 kb_8 rfl ?_
      refine e_icmp_geF (M := mX9_firstBut) 48 dX9_firstBut_7 rfl (by rw [kn_8, n_le (by omega) (by omega)]; omega) ?_
      refine f_iload_n (M := mX9_firstBut) 11 dX9_firstBut_10 rfl rfl ?_
      refine f_iload_n (M := mX9_firstBut) 12 dX9_firstBut_11 rfl rfl ?_
      refine e_icmp_eq (M := mX9_firstBut) (t := 42) dX9_firstBut_12 rfl (fun h0 => ?_) (fun h0 => ?_)
      · refine f_iinc (M := mX9_firstBut) (ls' := [_, _, _, _]) 45 dX9_firstBut_42 ki_1 rfl rfl rfl rfl ?_
        refine f_goto (M := mX9_firstBut) 4 dX9_firstBut_45 rfl ?_
        rw [n_inc (s := k)]; have ih1 := ih (k + 1) (by omega); rw [show sp_fbut (I 226) Ns b (k + 1) = _ from (sp_fst_n (fun z => z.1 ((n_eq (by omega) (by omega)).mp h0))).trans hw] at ih1; exact ih1
      · refine f_aload_n (M := mX9_firstBut) 16 dX9_firstBut_15 rfl rfl ?_
        refine f_iload_n (M := mX9_firstBut) 17 dX9_firstBut_16 rfl rfl ?_
        refine e_cV (M := mX9_firstBut) [_] 0 0 dX9_firstBut_17 pa_9202 pb_9202 cc_9202 rfl rfl rfl rfl rfl (x_kk rfl) (x_kk rfl) rfl (c_X9_problemOf hR hNs hn (by omega)) rfl ?_
        refine e_if_ne (M := mX9_firstBut) (t := 42) dX9_firstBut_20 rfl (fun h1 => ?_) (fun h1 => ?_)
        · refine f_iinc (M := mX9_firstBut) (ls' := [_, _, _, _]) 45 dX9_firstBut_42 ki_1 rfl rfl rfl rfl ?_
          refine f_goto (M := mX9_firstBut) 4 dX9_firstBut_45 rfl ?_
          rw [n_inc (s := k)]; have ih1 := ih (k + 1) (by omega); rw [show sp_fbut (I 226) Ns b (k + 1) = _ from (sp_fst_n (fun z => h1 z.2)).trans hw] at ih1; exact ih1
        · refine f_iload_n (M := mX9_firstBut) 24 dX9_firstBut_23 rfl rfl ?_
          refine f_iconst (M := mX9_firstBut) 25 dX9_firstBut_24 ki_m1 rfl ?_
          refine e_icmp_eqT (M := mX9_firstBut) 40 dX9_firstBut_25 rfl rfl ?_
          refine f_iload_n (M := mX9_firstBut) 41 dX9_firstBut_40 rfl rfl ?_
          refine f_istore_n (M := mX9_firstBut) (ls' := [_, _, _, _]) 42 dX9_firstBut_41 rfl rfl rfl ?_
          refine f_iinc (M := mX9_firstBut) (ls' := [_, _, _, _]) 45 dX9_firstBut_42 ki_1 rfl rfl rfl rfl ?_
          refine f_goto (M := mX9_firstBut) 4 dX9_firstBut_45 rfl ?_
          rw [n_inc (s := k)]; have ih1 := ih (k + 1) (by omega); rw [show sp_fbut (I 226) Ns b (k + 1) = _ from sp_fst_0 ⟨(fun z => h0 (by rw [z])), x_dn h1⟩ hw] at ih1; exact ih1
    | some i =>
      have hi : i < 8 := Nat.lt_trans (sp_fst_lt hw) (by omega)
      refine f_iload_n (M := mX9_firstBut) 5 dX9_firstBut_4 rfl rfl ?_
      refine f_bipush (M := mX9_firstBut) 7 dX9_firstBut_5 kb_8 rfl ?_
      refine e_icmp_geF (M := mX9_firstBut) 48 dX9_firstBut_7 rfl (by rw [kn_8, n_le (by omega) (by omega)]; omega) ?_
      refine f_iload_n (M := mX9_firstBut) 11 dX9_firstBut_10 rfl rfl ?_
      refine f_iload_n (M := mX9_firstBut) 12 dX9_firstBut_11 rfl rfl ?_
      refine e_icmp_eq (M := mX9_firstBut) (t := 42) dX9_firstBut_12 rfl (fun h0 => ?_) (fun h0 => ?_)
      · refine f_iinc (M := mX9_firstBut) (ls' := [_, _, _, _]) 45 dX9_firstBut_42 ki_1 rfl rfl rfl rfl ?_
        refine f_goto (M := mX9_firstBut) 4 dX9_firstBut_45 rfl ?_
        rw [n_inc (s := k)]; have ih1 := ih (k + 1) (by omega); rw [show sp_fbut (I 226) Ns b (k + 1) = _ from (sp_fst_n (fun z => z.1 ((n_eq (by omega) (by omega)).mp h0))).trans hw] at ih1; exact ih1
      · refine f_aload_n (M := mX9_firstBut) 16 dX9_firstBut_15 rfl rfl ?_
        refine f_iload_n (M := mX9_firstBut) 17 dX9_firstBut_16 rfl rfl ?_
        refine e_cV (M := mX9_firstBut) [_] 0 0 dX9_firstBut_17 pa_9202 pb_9202 cc_9202 rfl rfl rfl rfl rfl (x_kk rfl) (x_kk rfl) rfl (c_X9_problemOf hR hNs hn (by omega)) rfl ?_
        refine e_if_ne (M := mX9_firstBut) (t := 42) dX9_firstBut_20 rfl (fun h1 => ?_) (fun h1 => ?_)
        · refine f_iinc (M := mX9_firstBut) (ls' := [_, _, _, _]) 45 dX9_firstBut_42 ki_1 rfl rfl rfl rfl ?_
          refine f_goto (M := mX9_firstBut) 4 dX9_firstBut_45 rfl ?_
          rw [n_inc (s := k)]; have ih1 := ih (k + 1) (by omega); rw [show sp_fbut (I 226) Ns b (k + 1) = _ from (sp_fst_n (fun z => h1 z.2)).trans hw] at ih1; exact ih1
        · refine f_iload_n (M := mX9_firstBut) 24 dX9_firstBut_23 rfl rfl ?_
          refine f_iconst (M := mX9_firstBut) 25 dX9_firstBut_24 ki_m1 rfl ?_
          refine e_icmp_eqF (M := mX9_firstBut) 40 dX9_firstBut_25 rfl (n_ne1 (by omega)) ?_
          refine f_aload_n (M := mX9_firstBut) 29 dX9_firstBut_28 rfl rfl ?_
          refine f_iload_n (M := mX9_firstBut) 30 dX9_firstBut_29 rfl rfl ?_
          refine f_iload_n (M := mX9_firstBut) 31 dX9_firstBut_30 rfl rfl ?_
          refine f_iconst (M := mX9_firstBut) 32 dX9_firstBut_31 ki_m1 rfl ?_
          refine f_bipush (M := mX9_firstBut) 34 dX9_firstBut_32 kb_100 rfl ?_
          refine e_cV (M := mX9_firstBut) [_] 0 0 dX9_firstBut_34 pa_9211 pb_9211 cc_9211 rfl rfl rfl rfl rfl (x_kk rfl) (x_kk rfl) rfl (c_X9_isBefore (σ := -1) (h := 100) hR hNs hn (by omega) hi) rfl ?_
          refine e_if_eq (M := mX9_firstBut) (t := 42) dX9_firstBut_37 rfl (fun h2 => ?_) (fun h2 => ?_)
          · refine f_iinc (M := mX9_firstBut) (ls' := [_, _, _, _]) 45 dX9_firstBut_42 ki_1 rfl rfl rfl rfl ?_
            refine f_goto (M := mX9_firstBut) 4 dX9_firstBut_45 rfl ?_
            rw [n_inc (s := k)]; have ih1 := ih (k + 1) (by omega); rw [show sp_fbut (I 226) Ns b (k + 1) = _ from (sp_fst_2 hw (x_bF h2)).trans hw] at ih1; exact ih1
          · refine f_iload_n (M := mX9_firstBut) 41 dX9_firstBut_40 rfl rfl ?_
            refine f_istore_n (M := mX9_firstBut) (ls' := [_, _, _, _]) 42 dX9_firstBut_41 rfl rfl rfl ?_
            refine f_iinc (M := mX9_firstBut) (ls' := [_, _, _, _]) 45 dX9_firstBut_42 ki_1 rfl rfl rfl rfl ?_
            refine f_goto (M := mX9_firstBut) 4 dX9_firstBut_45 rfl ?_
            rw [n_inc (s := k)]; have ih1 := ih (k + 1) (by omega); rw [show sp_fbut (I 226) Ns b (k + 1) = _ from sp_fst_1 ⟨(fun z => h0 (by rw [z])), x_dn h1⟩ hw (x_bT h2)] at ih1; exact ih1
theorem c_X9_firstBut (hR : x_wf R) {Ns : Nat} (hNs : Ns ≤ 6) (hn : I 226 8 = Int32.ofNat Ns) {b : Nat} (hb : b < 8) : x_Cv X mX9_firstBut [.ref 225, .int (Int32.ofNat b)] (I, L, R) 233 (.inl (some (.int (x_on (sp_fbut (I 226) Ns b 8)))), (I, L, R), 233) := by
  show x_Ev X mX9_firstBut 0 [some (.ref 225), some (.int (Int32.ofNat b)), none, none] [] ((I, L, R), 233, 0, 0) _
  refine f_iconst (M := mX9_firstBut) 1 dX9_firstBut_0 ki_m1 rfl ?_
  refine f_istore_n (M := mX9_firstBut) (ls' := [_, _, _, _]) 2 dX9_firstBut_1 rfl rfl rfl ?_
  refine f_iconst (M := mX9_firstBut) 3 dX9_firstBut_2 ki_0 rfl ?_
  refine f_istore_n (M := mX9_firstBut) (ls' := [_, _, _, _]) 4 dX9_firstBut_3 rfl rfl rfl ?_
  exact l_X9_firstBut hR hNs hn hb 8 0 rfl
def sp_lowx (a : Nat → Int32) (q s k : Nat) : Bool := decide (¬ k = s ∧ a (224 + 8 * q + k) < a (20 + k))
abbrev sp_could (a : Nat → Int32) (q s n : Nat) : Prop := 0 < a (224 + 8 * q + 7) ∧ ¬ (6 ≤ a 0 ∧ Int32.ofNat q = a 11) ∧ x_any (sp_lowx a q s) n = false
theorem l_X9_couldBeValid (hR : x_wf R) {Ns : Nat} (hNs : Ns ≤ 6) (hn : I 226 8 = Int32.ofNat Ns) {q s : Nat} (hq : q < 8) (hs : s < 6) (h1 : 0 < I 226 (224 + 8 * q + 7)) (h2 : ¬ (6 ≤ I 226 0 ∧ Int32.ofNat q = I 226 11)) : ∀ d k, k + d = Ns → x_any (sp_lowx (I 226) q s) k = false → x_Ev X mX9_couldBeValid 30 [some (.ref 225), some (.int (Int32.ofNat q)), some (.int (Int32.ofNat s)), some (.int (Int32.ofNat k))] [] ((I, L, R), 233, 0, 0) (.inl (some (.int (x_b (sp_could (I 226) q s Ns)))), (I, L, R), 233) := by
  intro d
  induction d with
  | zero =>
    intro k hd he
    obtain rfl : Ns = k := by omega
    refine f_iload_n (M := mX9_couldBeValid) 31 dX9_couldBeValid_30 rfl rfl ?_
    refine f_aload_n (M := mX9_couldBeValid) 32 dX9_couldBeValid_31 rfl rfl ?_
    refine e_getR (M := mX9_couldBeValid) dX9_couldBeValid_32 fl_9007 (x_kk rfl) (x_kk rfl) rfl (wf_9_0 hR) ?_
    refine f_bipush (M := mX9_couldBeValid) 37 dX9_couldBeValid_35 kb_8 rfl ?_
    refine e_ild (M := mX9_couldBeValid) (w := 606) (j := 8) dX9_couldBeValid_37 (x_kk rfl) rfl kn_8 (by omega) (by omega) ?_
    refine e_icmp_geT (M := mX9_couldBeValid) 72 dX9_couldBeValid_38 rfl (by rw [hn]; exact Int32.le_refl _) ?_
    refine f_iconst (M := mX9_couldBeValid) 73 dX9_couldBeValid_72 ki_1 rfl ?_
    refine e_rb (M := mX9_couldBeValid) dX9_couldBeValid_73 rfl (x_kk rfl) (x_kk rfl) (by decide) ?_
    exact r_b1 ⟨h1, h2, he⟩
  | succ d ih =>
    intro k hd he
    refine f_iload_n (M := mX9_couldBeValid) 31 dX9_couldBeValid_30 rfl rfl ?_
    refine f_aload_n (M := mX9_couldBeValid) 32 dX9_couldBeValid_31 rfl rfl ?_
    refine e_getR (M := mX9_couldBeValid) dX9_couldBeValid_32 fl_9007 (x_kk rfl) (x_kk rfl) rfl (wf_9_0 hR) ?_
    refine f_bipush (M := mX9_couldBeValid) 37 dX9_couldBeValid_35 kb_8 rfl ?_
    refine e_ild (M := mX9_couldBeValid) (w := 606) (j := 8) dX9_couldBeValid_37 (x_kk rfl) rfl kn_8 (by omega) (by omega) ?_
    refine e_icmp_geF (M := mX9_couldBeValid) 72 dX9_couldBeValid_38 rfl (by rw [hn, n_le (by omega) (by omega)]; omega) ?_
    refine f_iload_n (M := mX9_couldBeValid) 42 dX9_couldBeValid_41 rfl rfl ?_
    refine f_iload_n (M := mX9_couldBeValid) 43 dX9_couldBeValid_42 rfl rfl ?_
    refine e_icmp_eq (M := mX9_couldBeValid) (t := 66) dX9_couldBeValid_43 rfl (fun h3 => ?_) (fun h3 => ?_)
    · refine f_iinc (M := mX9_couldBeValid) (ls' := [_, _, _, _]) 69 dX9_couldBeValid_66 ki_1 rfl rfl rfl rfl ?_
      refine f_goto (M := mX9_couldBeValid) 30 dX9_couldBeValid_69 rfl ?_
      rw [n_inc (s := k)]; exact ih (k + 1) (by omega) (x_any_f he (decide_eq_false (fun z => z.1 ((n_eq (by omega) (by omega)).mp h3))))
    · refine f_aload_n (M := mX9_couldBeValid) 47 dX9_couldBeValid_46 rfl rfl ?_
      refine f_iload_n (M := mX9_couldBeValid) 48 dX9_couldBeValid_47 rfl rfl ?_
      refine f_iload_n (M := mX9_couldBeValid) 49 dX9_couldBeValid_48 rfl rfl ?_
      refine e_cV (M := mX9_couldBeValid) [_] 0 0 dX9_couldBeValid_49 pa_9182 pb_9182 cc_9182 rfl rfl rfl rfl rfl (x_kk rfl) (x_kk rfl) rfl (c_X9_ofBid hR hq (by omega)) rfl ?_
      refine f_aload_n (M := mX9_couldBeValid) 53 dX9_couldBeValid_52 rfl rfl ?_
      refine e_getR (M := mX9_couldBeValid) dX9_couldBeValid_53 fl_9007 (x_kk rfl) (x_kk rfl) rfl (wf_9_0 hR) ?_
      refine f_bipush (M := mX9_couldBeValid) 58 dX9_couldBeValid_56 kb_20 rfl ?_
      refine f_iload_n (M := mX9_couldBeValid) 59 dX9_couldBeValid_58 rfl rfl ?_
      refine f_iadd (M := mX9_couldBeValid) 60 dX9_couldBeValid_59 rfl ?_
      refine e_ild (M := mX9_couldBeValid) (w := 606) (j := (20) + (k)) dX9_couldBeValid_60 (x_kk rfl) rfl (ix_add kn_20 rfl) (by omega) (by omega) ?_
      refine e_icmp_ge (M := mX9_couldBeValid) (t := 66) dX9_couldBeValid_61 rfl (fun h4 => ?_) (fun h4 => ?_)
      · refine f_iinc (M := mX9_couldBeValid) (ls' := [_, _, _, _]) 69 dX9_couldBeValid_66 ki_1 rfl rfl rfl rfl ?_
        refine f_goto (M := mX9_couldBeValid) 30 dX9_couldBeValid_69 rfl ?_
        rw [n_inc (s := k)]; exact ih (k + 1) (by omega) (x_any_f he (decide_eq_false (fun z => absurd z.2 (i_nlt.mpr h4))))
      · refine f_iconst (M := mX9_couldBeValid) 65 dX9_couldBeValid_64 ki_0 rfl ?_
        refine e_rb (M := mX9_couldBeValid) dX9_couldBeValid_65 rfl (x_kk rfl) (x_kk rfl) (by decide) ?_
        exact r_b0 (fun z => by have z1 := x_any_t (f := sp_lowx (I 226) q s) (decide_eq_true ⟨fun z2 => h3 (by rw [z2]), i_nle.mp h4⟩) (show k < Ns by omega); rw [z.2.2] at z1; cases z1)
theorem c_X9_couldBeValid (hR : x_wf R) {Ns : Nat} (hNs : Ns ≤ 6) (hn : I 226 8 = Int32.ofNat Ns) {q s : Nat} (hq : q < 8) (hs : s < 6) : x_Cv X mX9_couldBeValid [.ref 225, .int (Int32.ofNat q), .int (Int32.ofNat s)] (I, L, R) 233 (.inl (some (.int (x_b (sp_could (I 226) q s Ns)))), (I, L, R), 233) := by
  show x_Ev X mX9_couldBeValid 0 [some (.ref 225), some (.int (Int32.ofNat q)), some (.int (Int32.ofNat s)), none] [] ((I, L, R), 233, 0, 0) _
  refine f_aload_n (M := mX9_couldBeValid) 1 dX9_couldBeValid_0 rfl rfl ?_
  refine f_iload_n (M := mX9_couldBeValid) 2 dX9_couldBeValid_1 rfl rfl ?_
  refine e_cV (M := mX9_couldBeValid) [_] 0 0 dX9_couldBeValid_2 pa_9193 pb_9193 cc_9193 rfl rfl rfl rfl rfl (x_kk rfl) (x_kk rfl) rfl (c_X9_isSealed hR hq) rfl ?_
  refine e_if_eq (M := mX9_couldBeValid) (t := 26) dX9_couldBeValid_5 rfl (fun h1 => ?_) (fun h1 => ?_)
  · refine f_iconst (M := mX9_couldBeValid) 27 dX9_couldBeValid_26 ki_0 rfl ?_
    refine e_rb (M := mX9_couldBeValid) dX9_couldBeValid_27 rfl (x_kk rfl) (x_kk rfl) (by decide) ?_
    exact r_b0 (fun z => x_bF h1 z.1)
  · refine f_aload_n (M := mX9_couldBeValid) 9 dX9_couldBeValid_8 rfl rfl ?_
    refine e_cV (M := mX9_couldBeValid) [_] 0 0 dX9_couldBeValid_9 pa_9170 pb_9170 cc_9170 rfl rfl rfl rfl rfl (x_kk rfl) (x_kk rfl) rfl (c_X9_isSecond hR) rfl ?_
    refine e_if_eq (M := mX9_couldBeValid) (t := 28) dX9_couldBeValid_12 rfl (fun h2 => ?_) (fun h2 => ?_)
    · refine f_iconst (M := mX9_couldBeValid) 29 dX9_couldBeValid_28 ki_0 rfl ?_
      refine f_istore_n (M := mX9_couldBeValid) (ls' := [_, _, _, _]) 30 dX9_couldBeValid_29 rfl rfl rfl ?_
      exact l_X9_couldBeValid hR hNs hn hq hs (x_bT h1) (fun z => x_bF h2 z.1) Ns 0 (by omega) rfl
    · refine f_iload_n (M := mX9_couldBeValid) 16 dX9_couldBeValid_15 rfl rfl ?_
      refine f_aload_n (M := mX9_couldBeValid) 17 dX9_couldBeValid_16 rfl rfl ?_
      refine e_getR (M := mX9_couldBeValid) dX9_couldBeValid_17 fl_9007 (x_kk rfl) (x_kk rfl) rfl (wf_9_0 hR) ?_
      refine f_bipush (M := mX9_couldBeValid) 22 dX9_couldBeValid_20 kb_11 rfl ?_
      refine e_ild (M := mX9_couldBeValid) (w := 606) (j := 11) dX9_couldBeValid_22 (x_kk rfl) rfl kn_11 (by omega) (by omega) ?_
      refine e_icmp_ne (M := mX9_couldBeValid) (t := 28) dX9_couldBeValid_23 rfl (fun h3 => ?_) (fun h3 => ?_)
      · refine f_iconst (M := mX9_couldBeValid) 29 dX9_couldBeValid_28 ki_0 rfl ?_
        refine f_istore_n (M := mX9_couldBeValid) (ls' := [_, _, _, _]) 30 dX9_couldBeValid_29 rfl rfl rfl ?_
        exact l_X9_couldBeValid hR hNs hn hq hs (x_bT h1) (fun z => h3 z.2) Ns 0 (by omega) rfl
      · refine f_iconst (M := mX9_couldBeValid) 27 dX9_couldBeValid_26 ki_0 rfl ?_
        refine e_rb (M := mX9_couldBeValid) dX9_couldBeValid_27 rfl (x_kk rfl) (x_kk rfl) (by decide) ?_
        exact r_b0 (fun z => z.2.1 ⟨x_bT h2, x_dn h3⟩)
def sp_rest (a : Nat → Int32) (q s n : Nat) : Int64 := sp_val a q (-1) 100 n - (sp_vol a s).toInt64 * (a (224 + 8 * q + s)).toInt64
def sp_lacks (a : Nat → Int32) (q s n j : Nat) : Int64 := sp_val a j (-1) 100 n + (if a (224 + 8 * j + 7) ≤ a (224 + 8 * q + 7) then 1 else 0) - sp_rest a q s n
def sp_enough (a : Nat → Int32) (q s n : Nat) (least : Int64) : Int64 := if (sp_rest a q s n + least * (sp_vol a s).toInt64) * (a 3).toInt64 ≤ (a (224 + 8 * q + 6)).toInt64 * 100 then least else 9223372036854775807
def sp_least (a : Nat → Int32) (q s n : Nat) : Int64 := match sp_fbut a n q 8 with
  | none => sp_enough a q s n (a (20 + s)).toInt64
  | some j => if 0 < sp_lacks a q s n j ∧ (sp_vol a s).toInt64 = 0 then 9223372036854775807 else if sp_lacks a q s n j ≤ (a (20 + s)).toInt64 * (sp_vol a s).toInt64 then sp_enough a q s n (a (20 + s)).toInt64 else sp_enough a q s n ((sp_lacks a q s n j + (sp_vol a s).toInt64 - 1) / (sp_vol a s).toInt64)
theorem c_X9_leastRate (hR : x_wf R) {Ns : Nat} (hNs : Ns ≤ 6) (hn : I 226 8 = Int32.ofNat Ns) {q s : Nat} (hq : q < 8) (hs : s < 6) : x_Cv X mX9_leastRate [.ref 225, .int (Int32.ofNat q), .int (Int32.ofNat s)] (I, L, R) 233 (.inl (some (.long (sp_least (I 226) q s Ns))), (I, L, R), 233) := by
  have hfb := c_X9_firstBut (X := X) (L := L) hR hNs hn hq
  have hlt : ∀ j, sp_fbut (I 226) Ns q 8 = some j → j < 8 := fun j z => sp_fst_lt z
  show x_Ev X mX9_leastRate 0 [some (.ref 225), some (.int (Int32.ofNat q)), some (.int (Int32.ofNat s)), none, none, none, none, none, none, none, none, none] [] ((I, L, R), 233, 0, 0) _
  cases hf : sp_fbut (I 226) Ns q 8 with
  | none =>
    rw [hf] at hfb
    refine f_aload_n (M := mX9_leastRate) 1 dX9_leastRate_0 rfl rfl ?_
    refine e_getR (M := mX9_leastRate) dX9_leastRate_1 fl_9007 (x_kk rfl) (x_kk rfl) rfl (wf_9_0 hR) ?_
    refine f_bipush (M := mX9_leastRate) 6 dX9_leastRate_4 kb_20 rfl ?_
    refine f_iload_n (M := mX9_leastRate) 7 dX9_leastRate_6 rfl rfl ?_
    refine f_iadd (M := mX9_leastRate) 8 dX9_leastRate_7 rfl ?_
    refine e_ild (M := mX9_leastRate) (w := 606) (j := (20) + (s)) dX9_leastRate_8 (x_kk rfl) rfl (ix_add kn_20 rfl) (by omega) (by omega) ?_
    refine f_i2l (M := mX9_leastRate) 10 dX9_leastRate_9 rfl ?_
    refine f_lstore_n (M := mX9_leastRate) (ls' := [_, _, _, _, _, _, _, _, _, _, _, _]) 11 dX9_leastRate_10 rfl rfl rfl ?_
    refine f_aload_n (M := mX9_leastRate) 12 dX9_leastRate_11 rfl rfl ?_
    refine f_iload_n (M := mX9_leastRate) 13 dX9_leastRate_12 rfl rfl ?_
    refine e_cV (M := mX9_leastRate) [_] 0 0 dX9_leastRate_13 pa_9224 pb_9224 cc_9224 rfl rfl rfl rfl rfl (x_kk rfl) (x_kk rfl) rfl (hfb) rfl ?_
    refine f_istore (M := mX9_leastRate) (ls' := [_, _, _, _, _, _, _, _, _, _, _, _]) 18 dX9_leastRate_16 rfl rfl rfl ?_
    refine f_aload_n (M := mX9_leastRate) 19 dX9_leastRate_18 rfl rfl ?_
    refine f_iload_n (M := mX9_leastRate) 20 dX9_leastRate_19 rfl rfl ?_
    refine e_cV (M := mX9_leastRate) [_] 0 0 dX9_leastRate_20 pa_9177 pb_9177 cc_9177 rfl rfl rfl rfl rfl (x_kk rfl) (x_kk rfl) rfl (c_X9_volumeAt hR hs) rfl ?_
    refine f_i2l (M := mX9_leastRate) 24 dX9_leastRate_23 rfl ?_
    refine f_lstore (M := mX9_leastRate) (ls' := [_, _, _, _, _, _, _, _, _, _, _, _]) 26 dX9_leastRate_24 rfl rfl rfl ?_
    refine f_aload_n (M := mX9_leastRate) 27 dX9_leastRate_26 rfl rfl ?_
    refine f_iload_n (M := mX9_leastRate) 28 dX9_leastRate_27 rfl rfl ?_
    refine f_iconst (M := mX9_leastRate) 29 dX9_leastRate_28 ki_m1 rfl ?_
    refine f_bipush (M := mX9_leastRate) 31 dX9_leastRate_29 kb_100 rfl ?_
    refine e_cV (M := mX9_leastRate) [_] 0 0 dX9_leastRate_31 pa_9207 pb_9207 cc_9207 rfl rfl rfl rfl rfl (x_kk rfl) (x_kk rfl) rfl (c_X9_valueOf (σ := -1) (h := 100) hR hNs hn hq) rfl ?_
    refine f_lload (M := mX9_leastRate) 36 dX9_leastRate_34 rfl rfl ?_
    refine f_aload_n (M := mX9_leastRate) 37 dX9_leastRate_36 rfl rfl ?_
    refine f_iload_n (M := mX9_leastRate) 38 dX9_leastRate_37 rfl rfl ?_
    refine f_iload_n (M := mX9_leastRate) 39 dX9_leastRate_38 rfl rfl ?_
    refine e_cV (M := mX9_leastRate) [_, _, _] 0 0 dX9_leastRate_39 pa_9182 pb_9182 cc_9182 rfl rfl rfl rfl rfl (x_kk rfl) (x_kk rfl) rfl (c_X9_ofBid hR hq (by omega)) rfl ?_
    refine f_i2l (M := mX9_leastRate) 43 dX9_leastRate_42 rfl ?_
    refine f_lmul (M := mX9_leastRate) 44 dX9_leastRate_43 rfl ?_
    refine f_lsub (M := mX9_leastRate) 45 dX9_leastRate_44 rfl ?_
    refine f_lstore (M := mX9_leastRate) (ls' := [_, _, _, _, _, _, _, _, _, _, _, _]) 47 dX9_leastRate_45 rfl rfl rfl ?_
    rw [show sp_val (I 226) q (-1) 100 Ns - (sp_vol (I 226) s).toInt64 * (I 226 (224 + 8 * q + s)).toInt64 = sp_rest (I 226) q s Ns from rfl]
    refine f_iload (M := mX9_leastRate) 49 dX9_leastRate_47 rfl rfl ?_
    refine f_iconst (M := mX9_leastRate) 50 dX9_leastRate_49 ki_m1 rfl ?_
    refine e_icmp_eqT (M := mX9_leastRate) 130 dX9_leastRate_50 rfl rfl ?_
    refine f_aload_n (M := mX9_leastRate) 131 dX9_leastRate_130 rfl rfl ?_
    refine f_iload_n (M := mX9_leastRate) 132 dX9_leastRate_131 rfl rfl ?_
    refine f_bipush (M := mX9_leastRate) 134 dX9_leastRate_132 kb_6 rfl ?_
    refine e_cV (M := mX9_leastRate) [_] 0 0 dX9_leastRate_134 pa_9182 pb_9182 cc_9182 rfl rfl rfl rfl rfl (x_kk rfl) (x_kk rfl) rfl (c_X9_ofBid (j := 6) hR hq (by omega)) rfl ?_
    refine f_i2l (M := mX9_leastRate) 138 dX9_leastRate_137 rfl ?_
    refine f_ldc2 (M := mX9_leastRate) 141 dX9_leastRate_138 (x_kk rfl) csl_9205 rfl ?_
    refine f_lmul (M := mX9_leastRate) 142 dX9_leastRate_141 rfl ?_
    refine f_lload (M := mX9_leastRate) 144 dX9_leastRate_142 rfl rfl ?_
    refine f_lload_n (M := mX9_leastRate) 145 dX9_leastRate_144 rfl rfl ?_
    refine f_lload (M := mX9_leastRate) 147 dX9_leastRate_145 rfl rfl ?_
    refine f_lmul (M := mX9_leastRate) 148 dX9_leastRate_147 rfl ?_
    refine f_ladd (M := mX9_leastRate) 149 dX9_leastRate_148 rfl ?_
    refine f_aload_n (M := mX9_leastRate) 150 dX9_leastRate_149 rfl rfl ?_
    refine e_getR (M := mX9_leastRate) dX9_leastRate_150 fl_9007 (x_kk rfl) (x_kk rfl) rfl (wf_9_0 hR) ?_
    refine f_iconst (M := mX9_leastRate) 154 dX9_leastRate_153 ki_3 rfl ?_
    refine e_ild (M := mX9_leastRate) (w := 606) (j := 3) dX9_leastRate_154 (x_kk rfl) rfl kn_3 (by omega) (by omega) ?_
    refine f_i2l (M := mX9_leastRate) 156 dX9_leastRate_155 rfl ?_
    refine f_lmul (M := mX9_leastRate) 157 dX9_leastRate_156 rfl ?_
    refine f_lcmp (M := mX9_leastRate) 158 dX9_leastRate_157 rfl ?_
    refine e_if_ge (M := mX9_leastRate) (t := 167) dX9_leastRate_158 rfl (fun h9 => ?_) (fun h9 => ?_)
    · refine f_lload_n (M := mX9_leastRate) 168 dX9_leastRate_167 rfl rfl ?_
      refine e_rl (M := mX9_leastRate) dX9_leastRate_168 rfl (x_kk rfl) (x_kk rfl) ?_
      exact r_l (by unfold sp_least; rw [hf]; dsimp only; unfold sp_enough; rw [if_pos (lc_ge.mp h9)])
    · refine f_ldc2 (M := mX9_leastRate) 164 dX9_leastRate_161 (x_kk rfl) csl_9229 rfl ?_
      refine f_goto (M := mX9_leastRate) 168 dX9_leastRate_164 rfl ?_
      refine e_rl (M := mX9_leastRate) dX9_leastRate_168 rfl (x_kk rfl) (x_kk rfl) ?_
      exact r_l (by unfold sp_least; rw [hf]; dsimp only; unfold sp_enough; rw [if_neg (fun z => h9 (lc_ge.mpr z))])
  | some j =>
    rw [hf] at hfb
    have hj : j < 8 := hlt j hf
    refine f_aload_n (M := mX9_leastRate) 1 dX9_leastRate_0 rfl rfl ?_
    refine e_getR (M := mX9_leastRate) dX9_leastRate_1 fl_9007 (x_kk rfl) (x_kk rfl) rfl (wf_9_0 hR) ?_
    refine f_bipush (M := mX9_leastRate) 6 dX9_leastRate_4 kb_20 rfl ?_
    refine f_iload_n (M := mX9_leastRate) 7 dX9_leastRate_6 rfl rfl ?_
    refine f_iadd (M := mX9_leastRate) 8 dX9_leastRate_7 rfl ?_
    refine e_ild (M := mX9_leastRate) (w := 606) (j := (20) + (s)) dX9_leastRate_8 (x_kk rfl) rfl (ix_add kn_20 rfl) (by omega) (by omega) ?_
    refine f_i2l (M := mX9_leastRate) 10 dX9_leastRate_9 rfl ?_
    refine f_lstore_n (M := mX9_leastRate) (ls' := [_, _, _, _, _, _, _, _, _, _, _, _]) 11 dX9_leastRate_10 rfl rfl rfl ?_
    refine f_aload_n (M := mX9_leastRate) 12 dX9_leastRate_11 rfl rfl ?_
    refine f_iload_n (M := mX9_leastRate) 13 dX9_leastRate_12 rfl rfl ?_
    refine e_cV (M := mX9_leastRate) [_] 0 0 dX9_leastRate_13 pa_9224 pb_9224 cc_9224 rfl rfl rfl rfl rfl (x_kk rfl) (x_kk rfl) rfl (hfb) rfl ?_
    refine f_istore (M := mX9_leastRate) (ls' := [_, _, _, _, _, _, _, _, _, _, _, _]) 18 dX9_leastRate_16 rfl rfl rfl ?_
    refine f_aload_n (M := mX9_leastRate) 19 dX9_leastRate_18 rfl rfl ?_
    refine f_iload_n (M := mX9_leastRate) 20 dX9_leastRate_19 rfl rfl ?_
    refine e_cV (M := mX9_leastRate) [_] 0 0 dX9_leastRate_20 pa_9177 pb_9177 cc_9177 rfl rfl rfl rfl rfl (x_kk rfl) (x_kk rfl) rfl (c_X9_volumeAt hR hs) rfl ?_
    refine f_i2l (M := mX9_leastRate) 24 dX9_leastRate_23 rfl ?_
    refine f_lstore (M := mX9_leastRate) (ls' := [_, _, _, _, _, _, _, _, _, _, _, _]) 26 dX9_leastRate_24 rfl rfl rfl ?_
    refine f_aload_n (M := mX9_leastRate) 27 dX9_leastRate_26 rfl rfl ?_
    refine f_iload_n (M := mX9_leastRate) 28 dX9_leastRate_27 rfl rfl ?_
    refine f_iconst (M := mX9_leastRate) 29 dX9_leastRate_28 ki_m1 rfl ?_
    refine f_bipush (M := mX9_leastRate) 31 dX9_leastRate_29 kb_100 rfl ?_
    refine e_cV (M := mX9_leastRate) [_] 0 0 dX9_leastRate_31 pa_9207 pb_9207 cc_9207 rfl rfl rfl rfl rfl (x_kk rfl) (x_kk rfl) rfl (c_X9_valueOf (σ := -1) (h := 100) hR hNs hn hq) rfl ?_
    refine f_lload (M := mX9_leastRate) 36 dX9_leastRate_34 rfl rfl ?_
    refine f_aload_n (M := mX9_leastRate) 37 dX9_leastRate_36 rfl rfl ?_
    refine f_iload_n (M := mX9_leastRate) 38 dX9_leastRate_37 rfl rfl ?_
    refine f_iload_n (M := mX9_leastRate) 39 dX9_leastRate_38 rfl rfl ?_
    refine e_cV (M := mX9_leastRate) [_, _, _] 0 0 dX9_leastRate_39 pa_9182 pb_9182 cc_9182 rfl rfl rfl rfl rfl (x_kk rfl) (x_kk rfl) rfl (c_X9_ofBid hR hq (by omega)) rfl ?_
    refine f_i2l (M := mX9_leastRate) 43 dX9_leastRate_42 rfl ?_
    refine f_lmul (M := mX9_leastRate) 44 dX9_leastRate_43 rfl ?_
    refine f_lsub (M := mX9_leastRate) 45 dX9_leastRate_44 rfl ?_
    refine f_lstore (M := mX9_leastRate) (ls' := [_, _, _, _, _, _, _, _, _, _, _, _]) 47 dX9_leastRate_45 rfl rfl rfl ?_
    rw [show sp_val (I 226) q (-1) 100 Ns - (sp_vol (I 226) s).toInt64 * (I 226 (224 + 8 * q + s)).toInt64 = sp_rest (I 226) q s Ns from rfl]
    refine f_iload (M := mX9_leastRate) 49 dX9_leastRate_47 rfl rfl ?_
    refine f_iconst (M := mX9_leastRate) 50 dX9_leastRate_49 ki_m1 rfl ?_
    refine e_icmp_eqF (M := mX9_leastRate) 130 dX9_leastRate_50 rfl (n_ne1 (by omega)) ?_
    refine f_aload_n (M := mX9_leastRate) 54 dX9_leastRate_53 rfl rfl ?_
    refine f_iload (M := mX9_leastRate) 56 dX9_leastRate_54 rfl rfl ?_
    refine f_iconst (M := mX9_leastRate) 57 dX9_leastRate_56 ki_m1 rfl ?_
    refine f_bipush (M := mX9_leastRate) 59 dX9_leastRate_57 kb_100 rfl ?_
    refine e_cV (M := mX9_leastRate) [_] 0 0 dX9_leastRate_59 pa_9207 pb_9207 cc_9207 rfl rfl rfl rfl rfl (x_kk rfl) (x_kk rfl) rfl (c_X9_valueOf (σ := -1) (h := 100) hR hNs hn hj) rfl ?_
    refine f_aload_n (M := mX9_leastRate) 63 dX9_leastRate_62 rfl rfl ?_
    refine f_iload_n (M := mX9_leastRate) 64 dX9_leastRate_63 rfl rfl ?_
    refine f_bipush (M := mX9_leastRate) 66 dX9_leastRate_64 kb_7 rfl ?_
    refine e_cV (M := mX9_leastRate) [_, _] 0 0 dX9_leastRate_66 pa_9182 pb_9182 cc_9182 rfl rfl rfl rfl rfl (x_kk rfl) (x_kk rfl) rfl (c_X9_ofBid (j := 7) hR hq (by omega)) rfl ?_
    refine f_aload_n (M := mX9_leastRate) 70 dX9_leastRate_69 rfl rfl ?_
    refine f_iload (M := mX9_leastRate) 72 dX9_leastRate_70 rfl rfl ?_
    refine f_bipush (M := mX9_leastRate) 74 dX9_leastRate_72 kb_7 rfl ?_
    refine e_cV (M := mX9_leastRate) [_, _, _] 0 0 dX9_leastRate_74 pa_9182 pb_9182 cc_9182 rfl rfl rfl rfl rfl (x_kk rfl) (x_kk rfl) rfl (c_X9_ofBid (j := 7) hR hj (by omega)) rfl ?_
    refine e_icmp_ge (M := mX9_leastRate) (t := 84) dX9_leastRate_77 rfl (fun h1 => ?_) (fun h1 => ?_)
    · refine f_lconst (M := mX9_leastRate) 85 dX9_leastRate_84 kl_1 rfl ?_
      refine f_ladd (M := mX9_leastRate) 86 dX9_leastRate_85 rfl ?_
      refine f_lload (M := mX9_leastRate) 88 dX9_leastRate_86 rfl rfl ?_
      refine f_lsub (M := mX9_leastRate) 89 dX9_leastRate_88 rfl ?_
      refine f_lstore (M := mX9_leastRate) (ls' := [_, _, _, _, _, _, _, _, _, _, _, _]) 91 dX9_leastRate_89 rfl rfl rfl ?_
      refine f_lload (M := mX9_leastRate) 93 dX9_leastRate_91 rfl rfl ?_
      refine f_lconst (M := mX9_leastRate) 94 dX9_leastRate_93 kl_0 rfl ?_
      refine f_lcmp (M := mX9_leastRate) 95 dX9_leastRate_94 rfl ?_
      refine e_if_le (M := mX9_leastRate) (t := 109) dX9_leastRate_95 rfl (fun h2 => ?_) (fun h2 => ?_)
      · refine f_lload (M := mX9_leastRate) 111 dX9_leastRate_109 rfl rfl ?_
        refine f_lload_n (M := mX9_leastRate) 112 dX9_leastRate_111 rfl rfl ?_
        refine f_lload (M := mX9_leastRate) 114 dX9_leastRate_112 rfl rfl ?_
        refine f_lmul (M := mX9_leastRate) 115 dX9_leastRate_114 rfl ?_
        refine f_lcmp (M := mX9_leastRate) 116 dX9_leastRate_115 rfl ?_
        refine e_if_le (M := mX9_leastRate) (t := 130) dX9_leastRate_116 rfl (fun h5 => ?_) (fun h5 => ?_)
        · refine f_aload_n (M := mX9_leastRate) 131 dX9_leastRate_130 rfl rfl ?_
          refine f_iload_n (M := mX9_leastRate) 132 dX9_leastRate_131 rfl rfl ?_
          refine f_bipush (M := mX9_leastRate) 134 dX9_leastRate_132 kb_6 rfl ?_
          refine e_cV (M := mX9_leastRate) [_] 0 0 dX9_leastRate_134 pa_9182 pb_9182 cc_9182 rfl rfl rfl rfl rfl (x_kk rfl) (x_kk rfl) rfl (c_X9_ofBid (j := 6) hR hq (by omega)) rfl ?_
          refine f_i2l (M := mX9_leastRate) 138 dX9_leastRate_137 rfl ?_
          refine f_ldc2 (M := mX9_leastRate) 141 dX9_leastRate_138 (x_kk rfl) csl_9205 rfl ?_
          refine f_lmul (M := mX9_leastRate) 142 dX9_leastRate_141 rfl ?_
          refine f_lload (M := mX9_leastRate) 144 dX9_leastRate_142 rfl rfl ?_
          refine f_lload_n (M := mX9_leastRate) 145 dX9_leastRate_144 rfl rfl ?_
          refine f_lload (M := mX9_leastRate) 147 dX9_leastRate_145 rfl rfl ?_
          refine f_lmul (M := mX9_leastRate) 148 dX9_leastRate_147 rfl ?_
          refine f_ladd (M := mX9_leastRate) 149 dX9_leastRate_148 rfl ?_
          refine f_aload_n (M := mX9_leastRate) 150 dX9_leastRate_149 rfl rfl ?_
          refine e_getR (M := mX9_leastRate) dX9_leastRate_150 fl_9007 (x_kk rfl) (x_kk rfl) rfl (wf_9_0 hR) ?_
          refine f_iconst (M := mX9_leastRate) 154 dX9_leastRate_153 ki_3 rfl ?_
          refine e_ild (M := mX9_leastRate) (w := 606) (j := 3) dX9_leastRate_154 (x_kk rfl) rfl kn_3 (by omega) (by omega) ?_
          refine f_i2l (M := mX9_leastRate) 156 dX9_leastRate_155 rfl ?_
          refine f_lmul (M := mX9_leastRate) 157 dX9_leastRate_156 rfl ?_
          refine f_lcmp (M := mX9_leastRate) 158 dX9_leastRate_157 rfl ?_
          refine e_if_ge (M := mX9_leastRate) (t := 167) dX9_leastRate_158 rfl (fun h9 => ?_) (fun h9 => ?_)
          · refine f_lload_n (M := mX9_leastRate) 168 dX9_leastRate_167 rfl rfl ?_
            refine e_rl (M := mX9_leastRate) dX9_leastRate_168 rfl (x_kk rfl) (x_kk rfl) ?_
            exact r_l (by have hlk : sp_lacks (I 226) q s Ns j = sp_val (I 226) j (-1) 100 Ns + 1 - sp_rest (I 226) q s Ns := (by unfold sp_lacks; rw [if_pos h1]); unfold sp_least; rw [hf]; dsimp only; rw [hlk, if_neg (fun z => absurd z.1 (l_nlt.mpr (lc_le.mp h2))), if_pos (lc_le.mp h5)]; unfold sp_enough; rw [if_pos (lc_ge.mp h9)])
          · refine f_ldc2 (M := mX9_leastRate) 164 dX9_leastRate_161 (x_kk rfl) csl_9229 rfl ?_
            refine f_goto (M := mX9_leastRate) 168 dX9_leastRate_164 rfl ?_
            refine e_rl (M := mX9_leastRate) dX9_leastRate_168 rfl (x_kk rfl) (x_kk rfl) ?_
            exact r_l (by have hlk : sp_lacks (I 226) q s Ns j = sp_val (I 226) j (-1) 100 Ns + 1 - sp_rest (I 226) q s Ns := (by unfold sp_lacks; rw [if_pos h1]); unfold sp_least; rw [hf]; dsimp only; rw [hlk, if_neg (fun z => absurd z.1 (l_nlt.mpr (lc_le.mp h2))), if_pos (lc_le.mp h5)]; unfold sp_enough; rw [if_neg (fun z => h9 (lc_ge.mpr z))])
        · refine f_lload (M := mX9_leastRate) 121 dX9_leastRate_119 rfl rfl ?_
          refine f_lload (M := mX9_leastRate) 123 dX9_leastRate_121 rfl rfl ?_
          refine f_ladd (M := mX9_leastRate) 124 dX9_leastRate_123 rfl ?_
          refine f_lconst (M := mX9_leastRate) 125 dX9_leastRate_124 kl_1 rfl ?_
          refine f_lsub (M := mX9_leastRate) 126 dX9_leastRate_125 rfl ?_
          refine f_lload (M := mX9_leastRate) 128 dX9_leastRate_126 rfl rfl ?_
          refine e_ldiv (M := mX9_leastRate) dX9_leastRate_128 (fun z => h5 (lc_le.mpr (by rw [z, Int64.mul_zero]; exact lc_le.mp h2))) ?_
          refine f_lstore_n (M := mX9_leastRate) (ls' := [_, _, _, _, _, _, _, _, _, _, _, _]) 130 dX9_leastRate_129 rfl rfl rfl ?_
          refine f_aload_n (M := mX9_leastRate) 131 dX9_leastRate_130 rfl rfl ?_
          refine f_iload_n (M := mX9_leastRate) 132 dX9_leastRate_131 rfl rfl ?_
          refine f_bipush (M := mX9_leastRate) 134 dX9_leastRate_132 kb_6 rfl ?_
          refine e_cV (M := mX9_leastRate) [_] 0 0 dX9_leastRate_134 pa_9182 pb_9182 cc_9182 rfl rfl rfl rfl rfl (x_kk rfl) (x_kk rfl) rfl (c_X9_ofBid (j := 6) hR hq (by omega)) rfl ?_
          refine f_i2l (M := mX9_leastRate) 138 dX9_leastRate_137 rfl ?_
          refine f_ldc2 (M := mX9_leastRate) 141 dX9_leastRate_138 (x_kk rfl) csl_9205 rfl ?_
          refine f_lmul (M := mX9_leastRate) 142 dX9_leastRate_141 rfl ?_
          refine f_lload (M := mX9_leastRate) 144 dX9_leastRate_142 rfl rfl ?_
          refine f_lload_n (M := mX9_leastRate) 145 dX9_leastRate_144 rfl rfl ?_
          refine f_lload (M := mX9_leastRate) 147 dX9_leastRate_145 rfl rfl ?_
          refine f_lmul (M := mX9_leastRate) 148 dX9_leastRate_147 rfl ?_
          refine f_ladd (M := mX9_leastRate) 149 dX9_leastRate_148 rfl ?_
          refine f_aload_n (M := mX9_leastRate) 150 dX9_leastRate_149 rfl rfl ?_
          refine e_getR (M := mX9_leastRate) dX9_leastRate_150 fl_9007 (x_kk rfl) (x_kk rfl) rfl (wf_9_0 hR) ?_
          refine f_iconst (M := mX9_leastRate) 154 dX9_leastRate_153 ki_3 rfl ?_
          refine e_ild (M := mX9_leastRate) (w := 606) (j := 3) dX9_leastRate_154 (x_kk rfl) rfl kn_3 (by omega) (by omega) ?_
          refine f_i2l (M := mX9_leastRate) 156 dX9_leastRate_155 rfl ?_
          refine f_lmul (M := mX9_leastRate) 157 dX9_leastRate_156 rfl ?_
          refine f_lcmp (M := mX9_leastRate) 158 dX9_leastRate_157 rfl ?_
          refine e_if_ge (M := mX9_leastRate) (t := 167) dX9_leastRate_158 rfl (fun h9 => ?_) (fun h9 => ?_)
          · refine f_lload_n (M := mX9_leastRate) 168 dX9_leastRate_167 rfl rfl ?_
            refine e_rl (M := mX9_leastRate) dX9_leastRate_168 rfl (x_kk rfl) (x_kk rfl) ?_
            exact r_l (by have hlk : sp_lacks (I 226) q s Ns j = sp_val (I 226) j (-1) 100 Ns + 1 - sp_rest (I 226) q s Ns := (by unfold sp_lacks; rw [if_pos h1]); unfold sp_least; rw [hf]; dsimp only; rw [hlk, if_neg (fun z => absurd z.1 (l_nlt.mpr (lc_le.mp h2))), if_neg (fun z => h5 (lc_le.mpr z))]; unfold sp_enough; rw [if_pos (lc_ge.mp h9)])
          · refine f_ldc2 (M := mX9_leastRate) 164 dX9_leastRate_161 (x_kk rfl) csl_9229 rfl ?_
            refine f_goto (M := mX9_leastRate) 168 dX9_leastRate_164 rfl ?_
            refine e_rl (M := mX9_leastRate) dX9_leastRate_168 rfl (x_kk rfl) (x_kk rfl) ?_
            exact r_l (by have hlk : sp_lacks (I 226) q s Ns j = sp_val (I 226) j (-1) 100 Ns + 1 - sp_rest (I 226) q s Ns := (by unfold sp_lacks; rw [if_pos h1]); unfold sp_least; rw [hf]; dsimp only; rw [hlk, if_neg (fun z => absurd z.1 (l_nlt.mpr (lc_le.mp h2))), if_neg (fun z => h5 (lc_le.mpr z))]; unfold sp_enough; rw [if_neg (fun z => h9 (lc_ge.mpr z))])
      · refine f_lload (M := mX9_leastRate) 100 dX9_leastRate_98 rfl rfl ?_
        refine f_lconst (M := mX9_leastRate) 101 dX9_leastRate_100 kl_0 rfl ?_
        refine f_lcmp (M := mX9_leastRate) 102 dX9_leastRate_101 rfl ?_
        refine e_if_ne (M := mX9_leastRate) (t := 109) dX9_leastRate_102 rfl (fun h3 => ?_) (fun h3 => ?_)
        · refine f_lload (M := mX9_leastRate) 111 dX9_leastRate_109 rfl rfl ?_
          refine f_lload_n (M := mX9_leastRate) 112 dX9_leastRate_111 rfl rfl ?_
          refine f_lload (M := mX9_leastRate) 114 dX9_leastRate_112 rfl rfl ?_
          refine f_lmul (M := mX9_leastRate) 115 dX9_leastRate_114 rfl ?_
          refine f_lcmp (M := mX9_leastRate) 116 dX9_leastRate_115 rfl ?_
          refine e_if_le (M := mX9_leastRate) (t := 130) dX9_leastRate_116 rfl (fun h5 => ?_) (fun h5 => ?_)
          · refine f_aload_n (M := mX9_leastRate) 131 dX9_leastRate_130 rfl rfl ?_
            refine f_iload_n (M := mX9_leastRate) 132 dX9_leastRate_131 rfl rfl ?_
            refine f_bipush (M := mX9_leastRate) 134 dX9_leastRate_132 kb_6 rfl ?_
            refine e_cV (M := mX9_leastRate) [_] 0 0 dX9_leastRate_134 pa_9182 pb_9182 cc_9182 rfl rfl rfl rfl rfl (x_kk rfl) (x_kk rfl) rfl (c_X9_ofBid (j := 6) hR hq (by omega)) rfl ?_
            refine f_i2l (M := mX9_leastRate) 138 dX9_leastRate_137 rfl ?_
            refine f_ldc2 (M := mX9_leastRate) 141 dX9_leastRate_138 (x_kk rfl) csl_9205 rfl ?_
            refine f_lmul (M := mX9_leastRate) 142 dX9_leastRate_141 rfl ?_
            refine f_lload (M := mX9_leastRate) 144 dX9_leastRate_142 rfl rfl ?_
            refine f_lload_n (M := mX9_leastRate) 145 dX9_leastRate_144 rfl rfl ?_
            refine f_lload (M := mX9_leastRate) 147 dX9_leastRate_145 rfl rfl ?_
            refine f_lmul (M := mX9_leastRate) 148 dX9_leastRate_147 rfl ?_
            refine f_ladd (M := mX9_leastRate) 149 dX9_leastRate_148 rfl ?_
            refine f_aload_n (M := mX9_leastRate) 150 dX9_leastRate_149 rfl rfl ?_
            refine e_getR (M := mX9_leastRate) dX9_leastRate_150 fl_9007 (x_kk rfl) (x_kk rfl) rfl (wf_9_0 hR) ?_
            refine f_iconst (M := mX9_leastRate) 154 dX9_leastRate_153 ki_3 rfl ?_
            refine e_ild (M := mX9_leastRate) (w := 606) (j := 3) dX9_leastRate_154 (x_kk rfl) rfl kn_3 (by omega) (by omega) ?_
            refine f_i2l (M := mX9_leastRate) 156 dX9_leastRate_155 rfl ?_
            refine f_lmul (M := mX9_leastRate) 157 dX9_leastRate_156 rfl ?_
            refine f_lcmp (M := mX9_leastRate) 158 dX9_leastRate_157 rfl ?_
            refine e_if_ge (M := mX9_leastRate) (t := 167) dX9_leastRate_158 rfl (fun h9 => ?_) (fun h9 => ?_)
            · refine f_lload_n (M := mX9_leastRate) 168 dX9_leastRate_167 rfl rfl ?_
              refine e_rl (M := mX9_leastRate) dX9_leastRate_168 rfl (x_kk rfl) (x_kk rfl) ?_
              exact r_l (by have hlk : sp_lacks (I 226) q s Ns j = sp_val (I 226) j (-1) 100 Ns + 1 - sp_rest (I 226) q s Ns := (by unfold sp_lacks; rw [if_pos h1]); unfold sp_least; rw [hf]; dsimp only; rw [hlk, if_neg (fun z => h3 (lc_eq.mpr z.2)), if_pos (lc_le.mp h5)]; unfold sp_enough; rw [if_pos (lc_ge.mp h9)])
            · refine f_ldc2 (M := mX9_leastRate) 164 dX9_leastRate_161 (x_kk rfl) csl_9229 rfl ?_
              refine f_goto (M := mX9_leastRate) 168 dX9_leastRate_164 rfl ?_
              refine e_rl (M := mX9_leastRate) dX9_leastRate_168 rfl (x_kk rfl) (x_kk rfl) ?_
              exact r_l (by have hlk : sp_lacks (I 226) q s Ns j = sp_val (I 226) j (-1) 100 Ns + 1 - sp_rest (I 226) q s Ns := (by unfold sp_lacks; rw [if_pos h1]); unfold sp_least; rw [hf]; dsimp only; rw [hlk, if_neg (fun z => h3 (lc_eq.mpr z.2)), if_pos (lc_le.mp h5)]; unfold sp_enough; rw [if_neg (fun z => h9 (lc_ge.mpr z))])
          · refine f_lload (M := mX9_leastRate) 121 dX9_leastRate_119 rfl rfl ?_
            refine f_lload (M := mX9_leastRate) 123 dX9_leastRate_121 rfl rfl ?_
            refine f_ladd (M := mX9_leastRate) 124 dX9_leastRate_123 rfl ?_
            refine f_lconst (M := mX9_leastRate) 125 dX9_leastRate_124 kl_1 rfl ?_
            refine f_lsub (M := mX9_leastRate) 126 dX9_leastRate_125 rfl ?_
            refine f_lload (M := mX9_leastRate) 128 dX9_leastRate_126 rfl rfl ?_
            refine e_ldiv (M := mX9_leastRate) dX9_leastRate_128 (fun z => h3 (lc_eq.mpr z)) ?_
            refine f_lstore_n (M := mX9_leastRate) (ls' := [_, _, _, _, _, _, _, _, _, _, _, _]) 130 dX9_leastRate_129 rfl rfl rfl ?_
            refine f_aload_n (M := mX9_leastRate) 131 dX9_leastRate_130 rfl rfl ?_
            refine f_iload_n (M := mX9_leastRate) 132 dX9_leastRate_131 rfl rfl ?_
            refine f_bipush (M := mX9_leastRate) 134 dX9_leastRate_132 kb_6 rfl ?_
            refine e_cV (M := mX9_leastRate) [_] 0 0 dX9_leastRate_134 pa_9182 pb_9182 cc_9182 rfl rfl rfl rfl rfl (x_kk rfl) (x_kk rfl) rfl (c_X9_ofBid (j := 6) hR hq (by omega)) rfl ?_
            refine f_i2l (M := mX9_leastRate) 138 dX9_leastRate_137 rfl ?_
            refine f_ldc2 (M := mX9_leastRate) 141 dX9_leastRate_138 (x_kk rfl) csl_9205 rfl ?_
            refine f_lmul (M := mX9_leastRate) 142 dX9_leastRate_141 rfl ?_
            refine f_lload (M := mX9_leastRate) 144 dX9_leastRate_142 rfl rfl ?_
            refine f_lload_n (M := mX9_leastRate) 145 dX9_leastRate_144 rfl rfl ?_
            refine f_lload (M := mX9_leastRate) 147 dX9_leastRate_145 rfl rfl ?_
            refine f_lmul (M := mX9_leastRate) 148 dX9_leastRate_147 rfl ?_
            refine f_ladd (M := mX9_leastRate) 149 dX9_leastRate_148 rfl ?_
            refine f_aload_n (M := mX9_leastRate) 150 dX9_leastRate_149 rfl rfl ?_
            refine e_getR (M := mX9_leastRate) dX9_leastRate_150 fl_9007 (x_kk rfl) (x_kk rfl) rfl (wf_9_0 hR) ?_
            refine f_iconst (M := mX9_leastRate) 154 dX9_leastRate_153 ki_3 rfl ?_
            refine e_ild (M := mX9_leastRate) (w := 606) (j := 3) dX9_leastRate_154 (x_kk rfl) rfl kn_3 (by omega) (by omega) ?_
            refine f_i2l (M := mX9_leastRate) 156 dX9_leastRate_155 rfl ?_
            refine f_lmul (M := mX9_leastRate) 157 dX9_leastRate_156 rfl ?_
            refine f_lcmp (M := mX9_leastRate) 158 dX9_leastRate_157 rfl ?_
            refine e_if_ge (M := mX9_leastRate) (t := 167) dX9_leastRate_158 rfl (fun h9 => ?_) (fun h9 => ?_)
            · refine f_lload_n (M := mX9_leastRate) 168 dX9_leastRate_167 rfl rfl ?_
              refine e_rl (M := mX9_leastRate) dX9_leastRate_168 rfl (x_kk rfl) (x_kk rfl) ?_
              exact r_l (by have hlk : sp_lacks (I 226) q s Ns j = sp_val (I 226) j (-1) 100 Ns + 1 - sp_rest (I 226) q s Ns := (by unfold sp_lacks; rw [if_pos h1]); unfold sp_least; rw [hf]; dsimp only; rw [hlk, if_neg (fun z => h3 (lc_eq.mpr z.2)), if_neg (fun z => h5 (lc_le.mpr z))]; unfold sp_enough; rw [if_pos (lc_ge.mp h9)])
            · refine f_ldc2 (M := mX9_leastRate) 164 dX9_leastRate_161 (x_kk rfl) csl_9229 rfl ?_
              refine f_goto (M := mX9_leastRate) 168 dX9_leastRate_164 rfl ?_
              refine e_rl (M := mX9_leastRate) dX9_leastRate_168 rfl (x_kk rfl) (x_kk rfl) ?_
              exact r_l (by have hlk : sp_lacks (I 226) q s Ns j = sp_val (I 226) j (-1) 100 Ns + 1 - sp_rest (I 226) q s Ns := (by unfold sp_lacks; rw [if_pos h1]); unfold sp_least; rw [hf]; dsimp only; rw [hlk, if_neg (fun z => h3 (lc_eq.mpr z.2)), if_neg (fun z => h5 (lc_le.mpr z))]; unfold sp_enough; rw [if_neg (fun z => h9 (lc_ge.mpr z))])
        · refine f_ldc2 (M := mX9_leastRate) 108 dX9_leastRate_105 (x_kk rfl) csl_9229 rfl ?_
          refine e_rl (M := mX9_leastRate) dX9_leastRate_108 rfl (x_kk rfl) (x_kk rfl) ?_
          exact r_l (by have hlk : sp_lacks (I 226) q s Ns j = sp_val (I 226) j (-1) 100 Ns + 1 - sp_rest (I 226) q s Ns := (by unfold sp_lacks; rw [if_pos h1]); unfold sp_least; rw [hf]; dsimp only; rw [hlk, if_pos ⟨l_nle.mp (fun z => h2 (lc_le.mpr z)), lc_eq.mp (x_dn h3)⟩])
    · refine f_lconst (M := mX9_leastRate) 81 dX9_leastRate_80 kl_0 rfl ?_
      refine f_goto (M := mX9_leastRate) 85 dX9_leastRate_81 rfl ?_
      refine f_ladd (M := mX9_leastRate) 86 dX9_leastRate_85 rfl ?_
      refine f_lload (M := mX9_leastRate) 88 dX9_leastRate_86 rfl rfl ?_
      refine f_lsub (M := mX9_leastRate) 89 dX9_leastRate_88 rfl ?_
      refine f_lstore (M := mX9_leastRate) (ls' := [_, _, _, _, _, _, _, _, _, _, _, _]) 91 dX9_leastRate_89 rfl rfl rfl ?_
      refine f_lload (M := mX9_leastRate) 93 dX9_leastRate_91 rfl rfl ?_
      refine f_lconst (M := mX9_leastRate) 94 dX9_leastRate_93 kl_0 rfl ?_
      refine f_lcmp (M := mX9_leastRate) 95 dX9_leastRate_94 rfl ?_
      refine e_if_le (M := mX9_leastRate) (t := 109) dX9_leastRate_95 rfl (fun h2 => ?_) (fun h2 => ?_)
      · refine f_lload (M := mX9_leastRate) 111 dX9_leastRate_109 rfl rfl ?_
        refine f_lload_n (M := mX9_leastRate) 112 dX9_leastRate_111 rfl rfl ?_
        refine f_lload (M := mX9_leastRate) 114 dX9_leastRate_112 rfl rfl ?_
        refine f_lmul (M := mX9_leastRate) 115 dX9_leastRate_114 rfl ?_
        refine f_lcmp (M := mX9_leastRate) 116 dX9_leastRate_115 rfl ?_
        refine e_if_le (M := mX9_leastRate) (t := 130) dX9_leastRate_116 rfl (fun h5 => ?_) (fun h5 => ?_)
        · refine f_aload_n (M := mX9_leastRate) 131 dX9_leastRate_130 rfl rfl ?_
          refine f_iload_n (M := mX9_leastRate) 132 dX9_leastRate_131 rfl rfl ?_
          refine f_bipush (M := mX9_leastRate) 134 dX9_leastRate_132 kb_6 rfl ?_
          refine e_cV (M := mX9_leastRate) [_] 0 0 dX9_leastRate_134 pa_9182 pb_9182 cc_9182 rfl rfl rfl rfl rfl (x_kk rfl) (x_kk rfl) rfl (c_X9_ofBid (j := 6) hR hq (by omega)) rfl ?_
          refine f_i2l (M := mX9_leastRate) 138 dX9_leastRate_137 rfl ?_
          refine f_ldc2 (M := mX9_leastRate) 141 dX9_leastRate_138 (x_kk rfl) csl_9205 rfl ?_
          refine f_lmul (M := mX9_leastRate) 142 dX9_leastRate_141 rfl ?_
          refine f_lload (M := mX9_leastRate) 144 dX9_leastRate_142 rfl rfl ?_
          refine f_lload_n (M := mX9_leastRate) 145 dX9_leastRate_144 rfl rfl ?_
          refine f_lload (M := mX9_leastRate) 147 dX9_leastRate_145 rfl rfl ?_
          refine f_lmul (M := mX9_leastRate) 148 dX9_leastRate_147 rfl ?_
          refine f_ladd (M := mX9_leastRate) 149 dX9_leastRate_148 rfl ?_
          refine f_aload_n (M := mX9_leastRate) 150 dX9_leastRate_149 rfl rfl ?_
          refine e_getR (M := mX9_leastRate) dX9_leastRate_150 fl_9007 (x_kk rfl) (x_kk rfl) rfl (wf_9_0 hR) ?_
          refine f_iconst (M := mX9_leastRate) 154 dX9_leastRate_153 ki_3 rfl ?_
          refine e_ild (M := mX9_leastRate) (w := 606) (j := 3) dX9_leastRate_154 (x_kk rfl) rfl kn_3 (by omega) (by omega) ?_
          refine f_i2l (M := mX9_leastRate) 156 dX9_leastRate_155 rfl ?_
          refine f_lmul (M := mX9_leastRate) 157 dX9_leastRate_156 rfl ?_
          refine f_lcmp (M := mX9_leastRate) 158 dX9_leastRate_157 rfl ?_
          refine e_if_ge (M := mX9_leastRate) (t := 167) dX9_leastRate_158 rfl (fun h9 => ?_) (fun h9 => ?_)
          · refine f_lload_n (M := mX9_leastRate) 168 dX9_leastRate_167 rfl rfl ?_
            refine e_rl (M := mX9_leastRate) dX9_leastRate_168 rfl (x_kk rfl) (x_kk rfl) ?_
            exact r_l (by have hlk : sp_lacks (I 226) q s Ns j = sp_val (I 226) j (-1) 100 Ns + 0 - sp_rest (I 226) q s Ns := (by unfold sp_lacks; rw [if_neg h1]); unfold sp_least; rw [hf]; dsimp only; rw [hlk, if_neg (fun z => absurd z.1 (l_nlt.mpr (lc_le.mp h2))), if_pos (lc_le.mp h5)]; unfold sp_enough; rw [if_pos (lc_ge.mp h9)])
          · refine f_ldc2 (M := mX9_leastRate) 164 dX9_leastRate_161 (x_kk rfl) csl_9229 rfl ?_
            refine f_goto (M := mX9_leastRate) 168 dX9_leastRate_164 rfl ?_
            refine e_rl (M := mX9_leastRate) dX9_leastRate_168 rfl (x_kk rfl) (x_kk rfl) ?_
            exact r_l (by have hlk : sp_lacks (I 226) q s Ns j = sp_val (I 226) j (-1) 100 Ns + 0 - sp_rest (I 226) q s Ns := (by unfold sp_lacks; rw [if_neg h1]); unfold sp_least; rw [hf]; dsimp only; rw [hlk, if_neg (fun z => absurd z.1 (l_nlt.mpr (lc_le.mp h2))), if_pos (lc_le.mp h5)]; unfold sp_enough; rw [if_neg (fun z => h9 (lc_ge.mpr z))])
        · refine f_lload (M := mX9_leastRate) 121 dX9_leastRate_119 rfl rfl ?_
          refine f_lload (M := mX9_leastRate) 123 dX9_leastRate_121 rfl rfl ?_
          refine f_ladd (M := mX9_leastRate) 124 dX9_leastRate_123 rfl ?_
          refine f_lconst (M := mX9_leastRate) 125 dX9_leastRate_124 kl_1 rfl ?_
          refine f_lsub (M := mX9_leastRate) 126 dX9_leastRate_125 rfl ?_
          refine f_lload (M := mX9_leastRate) 128 dX9_leastRate_126 rfl rfl ?_
          refine e_ldiv (M := mX9_leastRate) dX9_leastRate_128 (fun z => h5 (lc_le.mpr (by rw [z, Int64.mul_zero]; exact lc_le.mp h2))) ?_
          refine f_lstore_n (M := mX9_leastRate) (ls' := [_, _, _, _, _, _, _, _, _, _, _, _]) 130 dX9_leastRate_129 rfl rfl rfl ?_
          refine f_aload_n (M := mX9_leastRate) 131 dX9_leastRate_130 rfl rfl ?_
          refine f_iload_n (M := mX9_leastRate) 132 dX9_leastRate_131 rfl rfl ?_
          refine f_bipush (M := mX9_leastRate) 134 dX9_leastRate_132 kb_6 rfl ?_
          refine e_cV (M := mX9_leastRate) [_] 0 0 dX9_leastRate_134 pa_9182 pb_9182 cc_9182 rfl rfl rfl rfl rfl (x_kk rfl) (x_kk rfl) rfl (c_X9_ofBid (j := 6) hR hq (by omega)) rfl ?_
          refine f_i2l (M := mX9_leastRate) 138 dX9_leastRate_137 rfl ?_
          refine f_ldc2 (M := mX9_leastRate) 141 dX9_leastRate_138 (x_kk rfl) csl_9205 rfl ?_
          refine f_lmul (M := mX9_leastRate) 142 dX9_leastRate_141 rfl ?_
          refine f_lload (M := mX9_leastRate) 144 dX9_leastRate_142 rfl rfl ?_
          refine f_lload_n (M := mX9_leastRate) 145 dX9_leastRate_144 rfl rfl ?_
          refine f_lload (M := mX9_leastRate) 147 dX9_leastRate_145 rfl rfl ?_
          refine f_lmul (M := mX9_leastRate) 148 dX9_leastRate_147 rfl ?_
          refine f_ladd (M := mX9_leastRate) 149 dX9_leastRate_148 rfl ?_
          refine f_aload_n (M := mX9_leastRate) 150 dX9_leastRate_149 rfl rfl ?_
          refine e_getR (M := mX9_leastRate) dX9_leastRate_150 fl_9007 (x_kk rfl) (x_kk rfl) rfl (wf_9_0 hR) ?_
          refine f_iconst (M := mX9_leastRate) 154 dX9_leastRate_153 ki_3 rfl ?_
          refine e_ild (M := mX9_leastRate) (w := 606) (j := 3) dX9_leastRate_154 (x_kk rfl) rfl kn_3 (by omega) (by omega) ?_
          refine f_i2l (M := mX9_leastRate) 156 dX9_leastRate_155 rfl ?_
          refine f_lmul (M := mX9_leastRate) 157 dX9_leastRate_156 rfl ?_
          refine f_lcmp (M := mX9_leastRate) 158 dX9_leastRate_157 rfl ?_
          refine e_if_ge (M := mX9_leastRate) (t := 167) dX9_leastRate_158 rfl (fun h9 => ?_) (fun h9 => ?_)
          · refine f_lload_n (M := mX9_leastRate) 168 dX9_leastRate_167 rfl rfl ?_
            refine e_rl (M := mX9_leastRate) dX9_leastRate_168 rfl (x_kk rfl) (x_kk rfl) ?_
            exact r_l (by have hlk : sp_lacks (I 226) q s Ns j = sp_val (I 226) j (-1) 100 Ns + 0 - sp_rest (I 226) q s Ns := (by unfold sp_lacks; rw [if_neg h1]); unfold sp_least; rw [hf]; dsimp only; rw [hlk, if_neg (fun z => absurd z.1 (l_nlt.mpr (lc_le.mp h2))), if_neg (fun z => h5 (lc_le.mpr z))]; unfold sp_enough; rw [if_pos (lc_ge.mp h9)])
          · refine f_ldc2 (M := mX9_leastRate) 164 dX9_leastRate_161 (x_kk rfl) csl_9229 rfl ?_
            refine f_goto (M := mX9_leastRate) 168 dX9_leastRate_164 rfl ?_
            refine e_rl (M := mX9_leastRate) dX9_leastRate_168 rfl (x_kk rfl) (x_kk rfl) ?_
            exact r_l (by have hlk : sp_lacks (I 226) q s Ns j = sp_val (I 226) j (-1) 100 Ns + 0 - sp_rest (I 226) q s Ns := (by unfold sp_lacks; rw [if_neg h1]); unfold sp_least; rw [hf]; dsimp only; rw [hlk, if_neg (fun z => absurd z.1 (l_nlt.mpr (lc_le.mp h2))), if_neg (fun z => h5 (lc_le.mpr z))]; unfold sp_enough; rw [if_neg (fun z => h9 (lc_ge.mpr z))])
      · refine f_lload (M := mX9_leastRate) 100 dX9_leastRate_98 rfl rfl ?_
        refine f_lconst (M := mX9_leastRate) 101 dX9_leastRate_100 kl_0 rfl ?_
        refine f_lcmp (M := mX9_leastRate) 102 dX9_leastRate_101 rfl ?_
        refine e_if_ne (M := mX9_leastRate) (t := 109) dX9_leastRate_102 rfl (fun h3 => ?_) (fun h3 => ?_)
        · refine f_lload (M := mX9_leastRate) 111 dX9_leastRate_109 rfl rfl ?_
          refine f_lload_n (M := mX9_leastRate) 112 dX9_leastRate_111 rfl rfl ?_
          refine f_lload (M := mX9_leastRate) 114 dX9_leastRate_112 rfl rfl ?_
          refine f_lmul (M := mX9_leastRate) 115 dX9_leastRate_114 rfl ?_
          refine f_lcmp (M := mX9_leastRate) 116 dX9_leastRate_115 rfl ?_
          refine e_if_le (M := mX9_leastRate) (t := 130) dX9_leastRate_116 rfl (fun h5 => ?_) (fun h5 => ?_)
          · refine f_aload_n (M := mX9_leastRate) 131 dX9_leastRate_130 rfl rfl ?_
            refine f_iload_n (M := mX9_leastRate) 132 dX9_leastRate_131 rfl rfl ?_
            refine f_bipush (M := mX9_leastRate) 134 dX9_leastRate_132 kb_6 rfl ?_
            refine e_cV (M := mX9_leastRate) [_] 0 0 dX9_leastRate_134 pa_9182 pb_9182 cc_9182 rfl rfl rfl rfl rfl (x_kk rfl) (x_kk rfl) rfl (c_X9_ofBid (j := 6) hR hq (by omega)) rfl ?_
            refine f_i2l (M := mX9_leastRate) 138 dX9_leastRate_137 rfl ?_
            refine f_ldc2 (M := mX9_leastRate) 141 dX9_leastRate_138 (x_kk rfl) csl_9205 rfl ?_
            refine f_lmul (M := mX9_leastRate) 142 dX9_leastRate_141 rfl ?_
            refine f_lload (M := mX9_leastRate) 144 dX9_leastRate_142 rfl rfl ?_
            refine f_lload_n (M := mX9_leastRate) 145 dX9_leastRate_144 rfl rfl ?_
            refine f_lload (M := mX9_leastRate) 147 dX9_leastRate_145 rfl rfl ?_
            refine f_lmul (M := mX9_leastRate) 148 dX9_leastRate_147 rfl ?_
            refine f_ladd (M := mX9_leastRate) 149 dX9_leastRate_148 rfl ?_
            refine f_aload_n (M := mX9_leastRate) 150 dX9_leastRate_149 rfl rfl ?_
            refine e_getR (M := mX9_leastRate) dX9_leastRate_150 fl_9007 (x_kk rfl) (x_kk rfl) rfl (wf_9_0 hR) ?_
            refine f_iconst (M := mX9_leastRate) 154 dX9_leastRate_153 ki_3 rfl ?_
            refine e_ild (M := mX9_leastRate) (w := 606) (j := 3) dX9_leastRate_154 (x_kk rfl) rfl kn_3 (by omega) (by omega) ?_
            refine f_i2l (M := mX9_leastRate) 156 dX9_leastRate_155 rfl ?_
            refine f_lmul (M := mX9_leastRate) 157 dX9_leastRate_156 rfl ?_
            refine f_lcmp (M := mX9_leastRate) 158 dX9_leastRate_157 rfl ?_
            refine e_if_ge (M := mX9_leastRate) (t := 167) dX9_leastRate_158 rfl (fun h9 => ?_) (fun h9 => ?_)
            · refine f_lload_n (M := mX9_leastRate) 168 dX9_leastRate_167 rfl rfl ?_
              refine e_rl (M := mX9_leastRate) dX9_leastRate_168 rfl (x_kk rfl) (x_kk rfl) ?_
              exact r_l (by have hlk : sp_lacks (I 226) q s Ns j = sp_val (I 226) j (-1) 100 Ns + 0 - sp_rest (I 226) q s Ns := (by unfold sp_lacks; rw [if_neg h1]); unfold sp_least; rw [hf]; dsimp only; rw [hlk, if_neg (fun z => h3 (lc_eq.mpr z.2)), if_pos (lc_le.mp h5)]; unfold sp_enough; rw [if_pos (lc_ge.mp h9)])
            · refine f_ldc2 (M := mX9_leastRate) 164 dX9_leastRate_161 (x_kk rfl) csl_9229 rfl ?_
              refine f_goto (M := mX9_leastRate) 168 dX9_leastRate_164 rfl ?_
              refine e_rl (M := mX9_leastRate) dX9_leastRate_168 rfl (x_kk rfl) (x_kk rfl) ?_
              exact r_l (by have hlk : sp_lacks (I 226) q s Ns j = sp_val (I 226) j (-1) 100 Ns + 0 - sp_rest (I 226) q s Ns := (by unfold sp_lacks; rw [if_neg h1]); unfold sp_least; rw [hf]; dsimp only; rw [hlk, if_neg (fun z => h3 (lc_eq.mpr z.2)), if_pos (lc_le.mp h5)]; unfold sp_enough; rw [if_neg (fun z => h9 (lc_ge.mpr z))])
          · refine f_lload (M := mX9_leastRate) 121 dX9_leastRate_119 rfl rfl ?_
            refine f_lload (M := mX9_leastRate) 123 dX9_leastRate_121 rfl rfl ?_
            refine f_ladd (M := mX9_leastRate) 124 dX9_leastRate_123 rfl ?_
            refine f_lconst (M := mX9_leastRate) 125 dX9_leastRate_124 kl_1 rfl ?_
            refine f_lsub (M := mX9_leastRate) 126 dX9_leastRate_125 rfl ?_
            refine f_lload (M := mX9_leastRate) 128 dX9_leastRate_126 rfl rfl ?_
            refine e_ldiv (M := mX9_leastRate) dX9_leastRate_128 (fun z => h3 (lc_eq.mpr z)) ?_
            refine f_lstore_n (M := mX9_leastRate) (ls' := [_, _, _, _, _, _, _, _, _, _, _, _]) 130 dX9_leastRate_129 rfl rfl rfl ?_
            refine f_aload_n (M := mX9_leastRate) 131 dX9_leastRate_130 rfl rfl ?_
            refine f_iload_n (M := mX9_leastRate) 132 dX9_leastRate_131 rfl rfl ?_
            refine f_bipush (M := mX9_leastRate) 134 dX9_leastRate_132 kb_6 rfl ?_
            refine e_cV (M := mX9_leastRate) [_] 0 0 dX9_leastRate_134 pa_9182 pb_9182 cc_9182 rfl rfl rfl rfl rfl (x_kk rfl) (x_kk rfl) rfl (c_X9_ofBid (j := 6) hR hq (by omega)) rfl ?_
            refine f_i2l (M := mX9_leastRate) 138 dX9_leastRate_137 rfl ?_
            refine f_ldc2 (M := mX9_leastRate) 141 dX9_leastRate_138 (x_kk rfl) csl_9205 rfl ?_
            refine f_lmul (M := mX9_leastRate) 142 dX9_leastRate_141 rfl ?_
            refine f_lload (M := mX9_leastRate) 144 dX9_leastRate_142 rfl rfl ?_
            refine f_lload_n (M := mX9_leastRate) 145 dX9_leastRate_144 rfl rfl ?_
            refine f_lload (M := mX9_leastRate) 147 dX9_leastRate_145 rfl rfl ?_
            refine f_lmul (M := mX9_leastRate) 148 dX9_leastRate_147 rfl ?_
            refine f_ladd (M := mX9_leastRate) 149 dX9_leastRate_148 rfl ?_
            refine f_aload_n (M := mX9_leastRate) 150 dX9_leastRate_149 rfl rfl ?_
            refine e_getR (M := mX9_leastRate) dX9_leastRate_150 fl_9007 (x_kk rfl) (x_kk rfl) rfl (wf_9_0 hR) ?_
            refine f_iconst (M := mX9_leastRate) 154 dX9_leastRate_153 ki_3 rfl ?_
            refine e_ild (M := mX9_leastRate) (w := 606) (j := 3) dX9_leastRate_154 (x_kk rfl) rfl kn_3 (by omega) (by omega) ?_
            refine f_i2l (M := mX9_leastRate) 156 dX9_leastRate_155 rfl ?_
            refine f_lmul (M := mX9_leastRate) 157 dX9_leastRate_156 rfl ?_
            refine f_lcmp (M := mX9_leastRate) 158 dX9_leastRate_157 rfl ?_
            refine e_if_ge (M := mX9_leastRate) (t := 167) dX9_leastRate_158 rfl (fun h9 => ?_) (fun h9 => ?_)
            · refine f_lload_n (M := mX9_leastRate) 168 dX9_leastRate_167 rfl rfl ?_
              refine e_rl (M := mX9_leastRate) dX9_leastRate_168 rfl (x_kk rfl) (x_kk rfl) ?_
              exact r_l (by have hlk : sp_lacks (I 226) q s Ns j = sp_val (I 226) j (-1) 100 Ns + 0 - sp_rest (I 226) q s Ns := (by unfold sp_lacks; rw [if_neg h1]); unfold sp_least; rw [hf]; dsimp only; rw [hlk, if_neg (fun z => h3 (lc_eq.mpr z.2)), if_neg (fun z => h5 (lc_le.mpr z))]; unfold sp_enough; rw [if_pos (lc_ge.mp h9)])
            · refine f_ldc2 (M := mX9_leastRate) 164 dX9_leastRate_161 (x_kk rfl) csl_9229 rfl ?_
              refine f_goto (M := mX9_leastRate) 168 dX9_leastRate_164 rfl ?_
              refine e_rl (M := mX9_leastRate) dX9_leastRate_168 rfl (x_kk rfl) (x_kk rfl) ?_
              exact r_l (by have hlk : sp_lacks (I 226) q s Ns j = sp_val (I 226) j (-1) 100 Ns + 0 - sp_rest (I 226) q s Ns := (by unfold sp_lacks; rw [if_neg h1]); unfold sp_least; rw [hf]; dsimp only; rw [hlk, if_neg (fun z => h3 (lc_eq.mpr z.2)), if_neg (fun z => h5 (lc_le.mpr z))]; unfold sp_enough; rw [if_neg (fun z => h9 (lc_ge.mpr z))])
        · refine f_ldc2 (M := mX9_leastRate) 108 dX9_leastRate_105 (x_kk rfl) csl_9229 rfl ?_
          refine e_rl (M := mX9_leastRate) dX9_leastRate_108 rfl (x_kk rfl) (x_kk rfl) ?_
          exact r_l (by have hlk : sp_lacks (I 226) q s Ns j = sp_val (I 226) j (-1) 100 Ns + 0 - sp_rest (I 226) q s Ns := (by unfold sp_lacks; rw [if_neg h1]); unfold sp_least; rw [hf]; dsimp only; rw [hlk, if_pos ⟨l_nle.mp (fun z => h2 (lc_le.mpr z)), lc_eq.mp (x_dn h3)⟩])
end

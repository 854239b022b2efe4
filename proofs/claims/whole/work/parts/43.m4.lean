/-! ===== the model: loads, rates, charges (laid by wip/whole/src/m4.py) ===== -/
section
variable {X : x_X} {I : Nat → Nat → Int32} {L : Nat → Nat → Int64} {R : Nat → Nat → Option Nat}
abbrev sp_cnt (a : Nat → Int32) (σ f t : Int32) (k : Nat) : Prop := (σ = -1 ∨ a (366 + 4 * k + 0) = σ) ∧ f ≤ a (366 + 4 * k + 1) ∧ a (366 + 4 * k + 1) ≤ t - 1
def sp_net (a : Nat → Int32) (σ f t : Int32) (k : Nat) : Int32 := if sp_cnt a σ f t k then a (366 + 4 * k + 2) else 0
def sp_nets (a : Nat → Int32) (σ f t : Int32) (n : Nat) : Int32 := x_sum32 (sp_net a σ f t) n
theorem sp_nets_1 {a : Nat → Int32} {σ f t : Int32} {k : Nat} (h : sp_cnt a σ f t k) : sp_nets a σ f t (k + 1) = sp_nets a σ f t k + a (366 + 4 * k + 2) := by
  show sp_nets a σ f t k + sp_net a σ f t k = _
  unfold sp_net
  rw [if_pos h]
theorem sp_nets_0 {a : Nat → Int32} {σ f t : Int32} {k : Nat} (h : ¬ sp_cnt a σ f t k) : sp_nets a σ f t (k + 1) = sp_nets a σ f t k + 0 := by
  show sp_nets a σ f t k + sp_net a σ f t k = _
  unfold sp_net
  rw [if_neg h]
theorem l_X9_netsOf (hR : x_wf R) {Nl : Nat} (hNl : Nl ≤ 60) (hl : I 226 14 = Int32.ofNat Nl) {σ f t : Int32} : ∀ d k, k + d = Nl → x_Ev X mX9_netsOf 6 [some (.ref 225), some (.int σ), some (.int f), some (.int t), some (.int (sp_nets (I 226) σ f t k)), some (.int (Int32.ofNat k))] [] ((I, L, R), 233, 0, 0) (.inl (some (.int (sp_nets (I 226) σ f t Nl))), (I, L, R), 233) := by
  intro d
  induction d with
  | zero =>
    intro k hd
    obtain rfl : Nl = k := by omega
    refine f_iload (M := mX9_netsOf) 8 dX9_netsOf_6 rfl rfl ?_
    refine f_aload_n (M := mX9_netsOf) 9 dX9_netsOf_8 rfl rfl ?_
    refine e_getR (M := mX9_netsOf) dX9_netsOf_9 fl_9007 (x_kk rfl) (x_kk rfl) rfl (wf_9_0 hR) ?_
    refine f_bipush (M := mX9_netsOf) 14 dX9_netsOf_12 kb_14 rfl ?_
    refine e_ild (M := mX9_netsOf) (w := 606) (j := 14) dX9_netsOf_14 (x_kk rfl) rfl kn_14 (by omega) (by omega) ?_
    refine e_icmp_geT (M := mX9_netsOf) 76 dX9_netsOf_15 rfl (by rw [hl]; exact Int32.le_refl _) ?_
    refine f_iload (M := mX9_netsOf) 78 dX9_netsOf_76 rfl rfl ?_
    refine e_ri (M := mX9_netsOf) dX9_netsOf_78 rfl (x_kk rfl) (x_kk rfl) ?_
    rfl
  | succ d ih =>
    intro k hd
    refine f_iload (M := mX9_netsOf) 8 dX9_netsOf_6 rfl rfl ?_
    refine f_aload_n (M := mX9_netsOf) 9 dX9_netsOf_8 rfl rfl ?_
    refine e_getR (M := mX9_netsOf) dX9_netsOf_9 fl_9007 (x_kk rfl) (x_kk rfl) rfl (wf_9_0 hR) ?_
    refine f_bipush (M := mX9_netsOf) 14 dX9_netsOf_12 kb_14 rfl ?_
    refine e_ild (M := mX9_netsOf) (w := 606) (j := 14) dX9_netsOf_14 (x_kk rfl) rfl kn_14 (by omega) (by omega) ?_
    refine e_icmp_geF (M := mX9_netsOf) 76 dX9_netsOf_15 rfl (by rw [hl, n_le (by omega) (by omega)]; omega) ?_
    refine f_iload (M := mX9_netsOf) 20 dX9_netsOf_18 rfl rfl ?_
    refine f_iload_n (M := mX9_netsOf) 21 dX9_netsOf_20 rfl rfl ?_
    refine f_iconst (M := mX9_netsOf) 22 dX9_netsOf_21 ki_m1 rfl ?_
    refine e_icmp_eq (M := mX9_netsOf) (t := 36) dX9_netsOf_22 rfl (fun h1 => ?_) (fun h1 => ?_)
    · refine f_aload_n (M := mX9_netsOf) 37 dX9_netsOf_36 rfl rfl ?_
      refine f_iload (M := mX9_netsOf) 39 dX9_netsOf_37 rfl rfl ?_
      refine f_iconst (M := mX9_netsOf) 40 dX9_netsOf_39 ki_1 rfl ?_
      refine e_cV (M := mX9_netsOf) [_, _] 0 0 dX9_netsOf_40 pa_9258 pb_9258 cc_9258 rfl rfl rfl rfl rfl (x_kk rfl) (x_kk rfl) rfl (c_X9_ofLoad (j := 1) hR (by omega) (by omega)) rfl ?_
      refine f_i2l (M := mX9_netsOf) 44 dX9_netsOf_43 rfl ?_
      refine f_iload_n (M := mX9_netsOf) 45 dX9_netsOf_44 rfl rfl ?_
      refine f_i2l (M := mX9_netsOf) 46 dX9_netsOf_45 rfl ?_
      refine f_iload_n (M := mX9_netsOf) 47 dX9_netsOf_46 rfl rfl ?_
      refine f_iconst (M := mX9_netsOf) 48 dX9_netsOf_47 ki_1 rfl ?_
      refine f_isub (M := mX9_netsOf) 49 dX9_netsOf_48 rfl ?_
      refine f_i2l (M := mX9_netsOf) 50 dX9_netsOf_49 rfl ?_
      refine e_cS (M := mX9_netsOf) [_, _] 0 0 dX9_netsOf_50 pa_9074 cc_9074 rfl rfl rfl rfl rfl (x_kk rfl) (x_kk rfl) rfl (c_X9_isInI) rfl ?_
      refine e_if_eq (M := mX9_netsOf) (t := 66) dX9_netsOf_53 rfl (fun h3 => ?_) (fun h3 => ?_)
      · refine f_iconst (M := mX9_netsOf) 67 dX9_netsOf_66 ki_0 rfl ?_
        refine f_iadd (M := mX9_netsOf) 68 dX9_netsOf_67 rfl ?_
        refine f_istore (M := mX9_netsOf) (ls' := [_, _, _, _, _, _]) 70 dX9_netsOf_68 rfl rfl rfl ?_
        refine f_iinc (M := mX9_netsOf) (ls' := [_, _, _, _, _, _]) 73 dX9_netsOf_70 ki_1 rfl rfl rfl rfl ?_
        refine f_goto (M := mX9_netsOf) 6 dX9_netsOf_73 rfl ?_
        rw [n_inc]; have ih1 := ih (k + 1) (by omega); rw [show sp_nets (I 226) σ f t (k + 1) = _ from sp_nets_0 (fun z => x_bF h3 z.2)] at ih1; exact ih1
      · refine f_aload_n (M := mX9_netsOf) 57 dX9_netsOf_56 rfl rfl ?_
        refine f_iload (M := mX9_netsOf) 59 dX9_netsOf_57 rfl rfl ?_
        refine f_iconst (M := mX9_netsOf) 60 dX9_netsOf_59 ki_2 rfl ?_
        refine e_cV (M := mX9_netsOf) [_, _] 0 0 dX9_netsOf_60 pa_9258 pb_9258 cc_9258 rfl rfl rfl rfl rfl (x_kk rfl) (x_kk rfl) rfl (c_X9_ofLoad (j := 2) hR (by omega) (by omega)) rfl ?_
        refine f_goto (M := mX9_netsOf) 67 dX9_netsOf_63 rfl ?_
        refine f_iadd (M := mX9_netsOf) 68 dX9_netsOf_67 rfl ?_
        refine f_istore (M := mX9_netsOf) (ls' := [_, _, _, _, _, _]) 70 dX9_netsOf_68 rfl rfl rfl ?_
        refine f_iinc (M := mX9_netsOf) (ls' := [_, _, _, _, _, _]) 73 dX9_netsOf_70 ki_1 rfl rfl rfl rfl ?_
        refine f_goto (M := mX9_netsOf) 6 dX9_netsOf_73 rfl ?_
        rw [n_inc]; have ih1 := ih (k + 1) (by omega); rw [show sp_nets (I 226) σ f t (k + 1) = _ from sp_nets_1 ⟨Or.inl h1, x_bT h3⟩] at ih1; exact ih1
    · refine f_aload_n (M := mX9_netsOf) 26 dX9_netsOf_25 rfl rfl ?_
      refine f_iload (M := mX9_netsOf) 28 dX9_netsOf_26 rfl rfl ?_
      refine f_iconst (M := mX9_netsOf) 29 dX9_netsOf_28 ki_0 rfl ?_
      refine e_cV (M := mX9_netsOf) [_, _] 0 0 dX9_netsOf_29 pa_9258 pb_9258 cc_9258 rfl rfl rfl rfl rfl (x_kk rfl) (x_kk rfl) rfl (c_X9_ofLoad (j := 0) hR (by omega) (by omega)) rfl ?_
      refine f_iload_n (M := mX9_netsOf) 33 dX9_netsOf_32 rfl rfl ?_
      refine e_icmp_ne (M := mX9_netsOf) (t := 66) dX9_netsOf_33 rfl (fun h2 => ?_) (fun h2 => ?_)
      · refine f_iconst (M := mX9_netsOf) 67 dX9_netsOf_66 ki_0 rfl ?_
        refine f_iadd (M := mX9_netsOf) 68 dX9_netsOf_67 rfl ?_
        refine f_istore (M := mX9_netsOf) (ls' := [_, _, _, _, _, _]) 70 dX9_netsOf_68 rfl rfl rfl ?_
        refine f_iinc (M := mX9_netsOf) (ls' := [_, _, _, _, _, _]) 73 dX9_netsOf_70 ki_1 rfl rfl rfl rfl ?_
        refine f_goto (M := mX9_netsOf) 6 dX9_netsOf_73 rfl ?_
        rw [n_inc]; have ih1 := ih (k + 1) (by omega); rw [show sp_nets (I 226) σ f t (k + 1) = _ from sp_nets_0 (fun z => z.1.elim h1 h2)] at ih1; exact ih1
      · refine f_aload_n (M := mX9_netsOf) 37 dX9_netsOf_36 rfl rfl ?_
        refine f_iload (M := mX9_netsOf) 39 dX9_netsOf_37 rfl rfl ?_
        refine f_iconst (M := mX9_netsOf) 40 dX9_netsOf_39 ki_1 rfl ?_
        refine e_cV (M := mX9_netsOf) [_, _] 0 0 dX9_netsOf_40 pa_9258 pb_9258 cc_9258 rfl rfl rfl rfl rfl (x_kk rfl) (x_kk rfl) rfl (c_X9_ofLoad (j := 1) hR (by omega) (by omega)) rfl ?_
        refine f_i2l (M := mX9_netsOf) 44 dX9_netsOf_43 rfl ?_
        refine f_iload_n (M := mX9_netsOf) 45 dX9_netsOf_44 rfl rfl ?_
        refine f_i2l (M := mX9_netsOf) 46 dX9_netsOf_45 rfl ?_
        refine f_iload_n (M := mX9_netsOf) 47 dX9_netsOf_46 rfl rfl ?_
        refine f_iconst (M := mX9_netsOf) 48 dX9_netsOf_47 ki_1 rfl ?_
        refine f_isub (M := mX9_netsOf) 49 dX9_netsOf_48 rfl ?_
        refine f_i2l (M := mX9_netsOf) 50 dX9_netsOf_49 rfl ?_
        refine e_cS (M := mX9_netsOf) [_, _] 0 0 dX9_netsOf_50 pa_9074 cc_9074 rfl rfl rfl rfl rfl (x_kk rfl) (x_kk rfl) rfl (c_X9_isInI) rfl ?_
        refine e_if_eq (M := mX9_netsOf) (t := 66) dX9_netsOf_53 rfl (fun h3 => ?_) (fun h3 => ?_)
        · refine f_iconst (M := mX9_netsOf) 67 dX9_netsOf_66 ki_0 rfl ?_
          refine f_iadd (M := mX9_netsOf) 68 dX9_netsOf_67 rfl ?_
          refine f_istore (M := mX9_netsOf) (ls' := [_, _, _, _, _, _]) 70 dX9_netsOf_68 rfl rfl rfl ?_
          refine f_iinc (M := mX9_netsOf) (ls' := [_, _, _, _, _, _]) 73 dX9_netsOf_70 ki_1 rfl rfl rfl rfl ?_
          refine f_goto (M := mX9_netsOf) 6 dX9_netsOf_73 rfl ?_
          rw [n_inc]; have ih1 := ih (k + 1) (by omega); rw [show sp_nets (I 226) σ f t (k + 1) = _ from sp_nets_0 (fun z => x_bF h3 z.2)] at ih1; exact ih1
        · refine f_aload_n (M := mX9_netsOf) 57 dX9_netsOf_56 rfl rfl ?_
          refine f_iload (M := mX9_netsOf) 59 dX9_netsOf_57 rfl rfl ?_
          refine f_iconst (M := mX9_netsOf) 60 dX9_netsOf_59 ki_2 rfl ?_
          refine e_cV (M := mX9_netsOf) [_, _] 0 0 dX9_netsOf_60 pa_9258 pb_9258 cc_9258 rfl rfl rfl rfl rfl (x_kk rfl) (x_kk rfl) rfl (c_X9_ofLoad (j := 2) hR (by omega) (by omega)) rfl ?_
          refine f_goto (M := mX9_netsOf) 67 dX9_netsOf_63 rfl ?_
          refine f_iadd (M := mX9_netsOf) 68 dX9_netsOf_67 rfl ?_
          refine f_istore (M := mX9_netsOf) (ls' := [_, _, _, _, _, _]) 70 dX9_netsOf_68 rfl rfl rfl ?_
          refine f_iinc (M := mX9_netsOf) (ls' := [_, _, _, _, _, _]) 73 dX9_netsOf_70 ki_1 rfl rfl rfl rfl ?_
          refine f_goto (M := mX9_netsOf) 6 dX9_netsOf_73 rfl ?_
          rw [n_inc]; have ih1 := ih (k + 1) (by omega); rw [show sp_nets (I 226) σ f t (k + 1) = _ from sp_nets_1 ⟨Or.inr (x_dn h2), x_bT h3⟩] at ih1; exact ih1
theorem c_X9_netsOf (hR : x_wf R) {Nl : Nat} (hNl : Nl ≤ 60) (hl : I 226 14 = Int32.ofNat Nl) {σ f t : Int32} : x_Cv X mX9_netsOf [.ref 225, .int σ, .int f, .int t] (I, L, R) 233 (.inl (some (.int (sp_nets (I 226) σ f t Nl))), (I, L, R), 233) := by
  show x_Ev X mX9_netsOf 0 [some (.ref 225), some (.int σ), some (.int f), some (.int t), none, none] [] ((I, L, R), 233, 0, 0) _
  refine f_iconst (M := mX9_netsOf) 1 dX9_netsOf_0 ki_0 rfl ?_
  refine f_istore (M := mX9_netsOf) (ls' := [_, _, _, _, _, _]) 3 dX9_netsOf_1 rfl rfl rfl ?_
  refine f_iconst (M := mX9_netsOf) 4 dX9_netsOf_3 ki_0 rfl ?_
  refine f_istore (M := mX9_netsOf) (ls' := [_, _, _, _, _, _]) 6 dX9_netsOf_4 rfl rfl rfl ?_
  exact l_X9_netsOf hR hNl hl Nl 0 (by omega)
def sp_by (a : Nat → Int32) (s : Nat) (i : Int32) : Int32 := if (i - a (26 + s)) * a 4 / 100 * 100 ≤ (i - a (26 + s)) * a 4 then (i - a (26 + s)) * a 4 / 100 else (i - a (26 + s)) * a 4 / 100 + -1
def sp_rateBy (a : Nat → Int32) (s : Nat) (i : Int32) : Int32 := if a (20 + s) ≤ a (288 + s) + sp_by a s i then a (288 + s) + sp_by a s i else a (20 + s)
theorem c_X9_rateBy (hR : x_wf R) {s : Nat} (hs : s < 6) {i : Int32} : x_Cv X mX9_rateBy [.ref 225, .int (Int32.ofNat s), .int i] (I, L, R) 233 (.inl (some (.int (sp_rateBy (I 226) s i))), (I, L, R), 233) := by
  show x_Ev X mX9_rateBy 0 [some (.ref 225), some (.int (Int32.ofNat s)), some (.int i), none, none, none] [] ((I, L, R), 233, 0, 0) _
  refine f_iload_n (M := mX9_rateBy) 1 dX9_rateBy_0 rfl rfl ?_
  refine f_aload_n (M := mX9_rateBy) 2 dX9_rateBy_1 rfl rfl ?_
  refine e_getR (M := mX9_rateBy) dX9_rateBy_2 fl_9007 (x_kk rfl) (x_kk rfl) rfl (wf_9_0 hR) ?_
  refine f_bipush (M := mX9_rateBy) 7 dX9_rateBy_5 kb_26 rfl ?_
  refine f_iload_n (M := mX9_rateBy) 8 dX9_rateBy_7 rfl rfl ?_
  refine f_iadd (M := mX9_rateBy) 9 dX9_rateBy_8 rfl ?_
  refine e_ild (M := mX9_rateBy) (w := 606) (j := (26) + (s)) dX9_rateBy_9 (x_kk rfl) rfl (ix_add kn_26 rfl) (by omega) (by omega) ?_
  refine f_isub (M := mX9_rateBy) 11 dX9_rateBy_10 rfl ?_
  refine f_aload_n (M := mX9_rateBy) 12 dX9_rateBy_11 rfl rfl ?_
  refine e_getR (M := mX9_rateBy) dX9_rateBy_12 fl_9007 (x_kk rfl) (x_kk rfl) rfl (wf_9_0 hR) ?_
  refine f_iconst (M := mX9_rateBy) 16 dX9_rateBy_15 ki_4 rfl ?_
  refine e_ild (M := mX9_rateBy) (w := 606) (j := 4) dX9_rateBy_16 (x_kk rfl) rfl kn_4 (by omega) (by omega) ?_
  refine f_imul (M := mX9_rateBy) 18 dX9_rateBy_17 rfl ?_
  refine f_istore_n (M := mX9_rateBy) (ls' := [_, _, _, _, _, _]) 19 dX9_rateBy_18 rfl rfl rfl ?_
  refine f_iload_n (M := mX9_rateBy) 20 dX9_rateBy_19 rfl rfl ?_
  refine f_bipush (M := mX9_rateBy) 22 dX9_rateBy_20 kb_100 rfl ?_
  refine e_idiv (M := mX9_rateBy) dX9_rateBy_22 (by decide) ?_
  refine f_istore (M := mX9_rateBy) (ls' := [_, _, _, _, _, _]) 25 dX9_rateBy_23 rfl rfl rfl ?_
  refine f_iload (M := mX9_rateBy) 27 dX9_rateBy_25 rfl rfl ?_
  refine f_bipush (M := mX9_rateBy) 29 dX9_rateBy_27 kb_100 rfl ?_
  refine f_imul (M := mX9_rateBy) 30 dX9_rateBy_29 rfl ?_
  refine f_iload_n (M := mX9_rateBy) 31 dX9_rateBy_30 rfl rfl ?_
  refine e_icmp_le (M := mX9_rateBy) (t := 37) dX9_rateBy_31 rfl (fun h1 => ?_) (fun h1 => ?_)
  · refine f_aload_n (M := mX9_rateBy) 38 dX9_rateBy_37 rfl rfl ?_
    refine e_getR (M := mX9_rateBy) dX9_rateBy_38 fl_9007 (x_kk rfl) (x_kk rfl) rfl (wf_9_0 hR) ?_
    refine f_sipush (M := mX9_rateBy) 44 dX9_rateBy_41 ks_288 rfl ?_
    refine f_iload_n (M := mX9_rateBy) 45 dX9_rateBy_44 rfl rfl ?_
    refine f_iadd (M := mX9_rateBy) 46 dX9_rateBy_45 rfl ?_
    refine e_ild (M := mX9_rateBy) (w := 606) (j := (288) + (s)) dX9_rateBy_46 (x_kk rfl) rfl (ix_add kn_288 rfl) (by omega) (by omega) ?_
    refine f_iload (M := mX9_rateBy) 49 dX9_rateBy_47 rfl rfl ?_
    refine f_iadd (M := mX9_rateBy) 50 dX9_rateBy_49 rfl ?_
    refine f_istore (M := mX9_rateBy) (ls' := [_, _, _, _, _, _]) 52 dX9_rateBy_50 rfl rfl rfl ?_
    refine f_iload (M := mX9_rateBy) 54 dX9_rateBy_52 rfl rfl ?_
    refine f_aload_n (M := mX9_rateBy) 55 dX9_rateBy_54 rfl rfl ?_
    refine e_getR (M := mX9_rateBy) dX9_rateBy_55 fl_9007 (x_kk rfl) (x_kk rfl) rfl (wf_9_0 hR) ?_
    refine f_bipush (M := mX9_rateBy) 60 dX9_rateBy_58 kb_20 rfl ?_
    refine f_iload_n (M := mX9_rateBy) 61 dX9_rateBy_60 rfl rfl ?_
    refine f_iadd (M := mX9_rateBy) 62 dX9_rateBy_61 rfl ?_
    refine e_ild (M := mX9_rateBy) (w := 606) (j := (20) + (s)) dX9_rateBy_62 (x_kk rfl) rfl (ix_add kn_20 rfl) (by omega) (by omega) ?_
    refine e_icmp_ge (M := mX9_rateBy) (t := 78) dX9_rateBy_63 rfl (fun h2 => ?_) (fun h2 => ?_)
    · refine f_iload (M := mX9_rateBy) 80 dX9_rateBy_78 rfl rfl ?_
      refine e_ri (M := mX9_rateBy) dX9_rateBy_80 rfl (x_kk rfl) (x_kk rfl) ?_
      exact r_i (by unfold sp_rateBy; rw [show sp_by (I 226) s i = _ from if_pos h1]; rw [if_pos h2])
    · refine f_aload_n (M := mX9_rateBy) 67 dX9_rateBy_66 rfl rfl ?_
      refine e_getR (M := mX9_rateBy) dX9_rateBy_67 fl_9007 (x_kk rfl) (x_kk rfl) rfl (wf_9_0 hR) ?_
      refine f_bipush (M := mX9_rateBy) 72 dX9_rateBy_70 kb_20 rfl ?_
      refine f_iload_n (M := mX9_rateBy) 73 dX9_rateBy_72 rfl rfl ?_
      refine f_iadd (M := mX9_rateBy) 74 dX9_rateBy_73 rfl ?_
      refine e_ild (M := mX9_rateBy) (w := 606) (j := (20) + (s)) dX9_rateBy_74 (x_kk rfl) rfl (ix_add kn_20 rfl) (by omega) (by omega) ?_
      refine f_goto (M := mX9_rateBy) 80 dX9_rateBy_75 rfl ?_
      refine e_ri (M := mX9_rateBy) dX9_rateBy_80 rfl (x_kk rfl) (x_kk rfl) ?_
      exact r_i (by unfold sp_rateBy; rw [show sp_by (I 226) s i = _ from if_pos h1]; rw [if_neg h2])
  · refine f_iinc (M := mX9_rateBy) (ls' := [_, _, _, _, _, _]) 37 dX9_rateBy_34 ki_m1 rfl rfl rfl rfl ?_
    refine f_aload_n (M := mX9_rateBy) 38 dX9_rateBy_37 rfl rfl ?_
    refine e_getR (M := mX9_rateBy) dX9_rateBy_38 fl_9007 (x_kk rfl) (x_kk rfl) rfl (wf_9_0 hR) ?_
    refine f_sipush (M := mX9_rateBy) 44 dX9_rateBy_41 ks_288 rfl ?_
    refine f_iload_n (M := mX9_rateBy) 45 dX9_rateBy_44 rfl rfl ?_
    refine f_iadd (M := mX9_rateBy) 46 dX9_rateBy_45 rfl ?_
    refine e_ild (M := mX9_rateBy) (w := 606) (j := (288) + (s)) dX9_rateBy_46 (x_kk rfl) rfl (ix_add kn_288 rfl) (by omega) (by omega) ?_
    refine f_iload (M := mX9_rateBy) 49 dX9_rateBy_47 rfl rfl ?_
    refine f_iadd (M := mX9_rateBy) 50 dX9_rateBy_49 rfl ?_
    refine f_istore (M := mX9_rateBy) (ls' := [_, _, _, _, _, _]) 52 dX9_rateBy_50 rfl rfl rfl ?_
    refine f_iload (M := mX9_rateBy) 54 dX9_rateBy_52 rfl rfl ?_
    refine f_aload_n (M := mX9_rateBy) 55 dX9_rateBy_54 rfl rfl ?_
    refine e_getR (M := mX9_rateBy) dX9_rateBy_55 fl_9007 (x_kk rfl) (x_kk rfl) rfl (wf_9_0 hR) ?_
    refine f_bipush (M := mX9_rateBy) 60 dX9_rateBy_58 kb_20 rfl ?_
    refine f_iload_n (M := mX9_rateBy) 61 dX9_rateBy_60 rfl rfl ?_
    refine f_iadd (M := mX9_rateBy) 62 dX9_rateBy_61 rfl ?_
    refine e_ild (M := mX9_rateBy) (w := 606) (j := (20) + (s)) dX9_rateBy_62 (x_kk rfl) rfl (ix_add kn_20 rfl) (by omega) (by omega) ?_
    refine e_icmp_ge (M := mX9_rateBy) (t := 78) dX9_rateBy_63 rfl (fun h2 => ?_) (fun h2 => ?_)
    · refine f_iload (M := mX9_rateBy) 80 dX9_rateBy_78 rfl rfl ?_
      refine e_ri (M := mX9_rateBy) dX9_rateBy_80 rfl (x_kk rfl) (x_kk rfl) ?_
      exact r_i (by unfold sp_rateBy; rw [show sp_by (I 226) s i = _ from if_neg h1]; rw [if_pos h2])
    · refine f_aload_n (M := mX9_rateBy) 67 dX9_rateBy_66 rfl rfl ?_
      refine e_getR (M := mX9_rateBy) dX9_rateBy_67 fl_9007 (x_kk rfl) (x_kk rfl) rfl (wf_9_0 hR) ?_
      refine f_bipush (M := mX9_rateBy) 72 dX9_rateBy_70 kb_20 rfl ?_
      refine f_iload_n (M := mX9_rateBy) 73 dX9_rateBy_72 rfl rfl ?_
      refine f_iadd (M := mX9_rateBy) 74 dX9_rateBy_73 rfl ?_
      refine e_ild (M := mX9_rateBy) (w := 606) (j := (20) + (s)) dX9_rateBy_74 (x_kk rfl) rfl (ix_add kn_20 rfl) (by omega) (by omega) ?_
      refine f_goto (M := mX9_rateBy) 80 dX9_rateBy_75 rfl ?_
      refine e_ri (M := mX9_rateBy) dX9_rateBy_80 rfl (x_kk rfl) (x_kk rfl) ?_
      exact r_i (by unfold sp_rateBy; rw [show sp_by (I 226) s i = _ from if_neg h1]; rw [if_neg h2])
def sp_idx (a : Nat → Int32) (s : Nat) : Nat → Int32
  | 0 => a (26 + s)
  | n + 1 => if a (294 + 6 * n + s) ≤ 0 then sp_idx a s n else a (294 + 6 * n + s)
theorem sp_idx_0 {a : Nat → Int32} {s n : Nat} (h : a (294 + 6 * n + s) ≤ 0) : sp_idx a s (n + 1) = sp_idx a s n := by rw [sp_idx, if_pos h]
theorem sp_idx_1 {a : Nat → Int32} {s n : Nat} (h : ¬ a (294 + 6 * n + s) ≤ 0) : sp_idx a s (n + 1) = a (294 + 6 * n + s) := by rw [sp_idx, if_neg h]
def sp_rateOf (a : Nat → Int32) (s q : Nat) : Int32 := sp_rateBy a s (sp_idx a s (q + 1))
theorem l_X9_rateOf (hR : x_wf R) {s Q : Nat} (hs : s < 6) (hQ : Q < 12) : ∀ d k, k + d = Q + 1 → x_Ev X mX9_rateOf 13 [some (.ref 225), some (.int (Int32.ofNat s)), some (.int (Int32.ofNat Q)), some (.int (sp_idx (I 226) s k)), some (.int (Int32.ofNat k))] [] ((I, L, R), 233, 0, 0) (.inl (some (.int (sp_rateOf (I 226) s Q))), (I, L, R), 233) := by
  intro d
  induction d with
  | zero =>
    intro k hd
    obtain rfl : Q + 1 = k := by omega
    refine f_iload (M := mX9_rateOf) 15 dX9_rateOf_13 rfl rfl ?_
    refine f_iload_n (M := mX9_rateOf) 16 dX9_rateOf_15 rfl rfl ?_
    refine e_icmp_gtT (M := mX9_rateOf) 61 dX9_rateOf_16 rfl ((n_lt (by omega) (by omega)).mpr (by omega)) ?_
    refine f_aload_n (M := mX9_rateOf) 62 dX9_rateOf_61 rfl rfl ?_
    refine f_iload_n (M := mX9_rateOf) 63 dX9_rateOf_62 rfl rfl ?_
    refine f_iload_n (M := mX9_rateOf) 64 dX9_rateOf_63 rfl rfl ?_
    refine e_cV (M := mX9_rateOf) [_] 0 0 dX9_rateOf_64 pa_9243 pb_9243 cc_9243 rfl rfl rfl rfl rfl (x_kk rfl) (x_kk rfl) rfl (c_X9_rateBy hR hs) rfl ?_
    refine e_ri (M := mX9_rateOf) dX9_rateOf_67 rfl (x_kk rfl) (x_kk rfl) ?_
    rfl
  | succ d ih =>
    intro k hd
    refine f_iload (M := mX9_rateOf) 15 dX9_rateOf_13 rfl rfl ?_
    refine f_iload_n (M := mX9_rateOf) 16 dX9_rateOf_15 rfl rfl ?_
    refine e_icmp_gtF (M := mX9_rateOf) 61 dX9_rateOf_16 rfl (fun z => absurd ((n_lt (by omega) (by omega)).mp z) (by omega)) ?_
    refine f_aload_n (M := mX9_rateOf) 20 dX9_rateOf_19 rfl rfl ?_
    refine e_getR (M := mX9_rateOf) dX9_rateOf_20 fl_9007 (x_kk rfl) (x_kk rfl) rfl (wf_9_0 hR) ?_
    refine f_sipush (M := mX9_rateOf) 26 dX9_rateOf_23 ks_294 rfl ?_
    refine f_bipush (M := mX9_rateOf) 28 dX9_rateOf_26 kb_6 rfl ?_
    refine f_iload (M := mX9_rateOf) 30 dX9_rateOf_28 rfl rfl ?_
    refine f_imul (M := mX9_rateOf) 31 dX9_rateOf_30 rfl ?_
    refine f_iadd (M := mX9_rateOf) 32 dX9_rateOf_31 rfl ?_
    refine f_iload_n (M := mX9_rateOf) 33 dX9_rateOf_32 rfl rfl ?_
    refine f_iadd (M := mX9_rateOf) 34 dX9_rateOf_33 rfl ?_
    refine e_ild (M := mX9_rateOf) (w := 606) (j := ((294) + ((6) * (k))) + (s)) dX9_rateOf_34 (x_kk rfl) rfl (ix_add (ix_add kn_294 (ix_mul kn_6 rfl)) rfl) (by omega) (by omega) ?_
    refine e_if_le (M := mX9_rateOf) (t := 55) dX9_rateOf_35 rfl (fun h1 => ?_) (fun h1 => ?_)
    · refine f_iinc (M := mX9_rateOf) (ls' := [_, _, _, _, _]) 58 dX9_rateOf_55 ki_1 rfl rfl rfl rfl ?_
      refine f_goto (M := mX9_rateOf) 13 dX9_rateOf_58 rfl ?_
      rw [n_inc]; have ih1 := ih (k + 1) (by omega); rw [show sp_idx (I 226) s (k + 1) = _ from sp_idx_0 h1] at ih1; exact ih1
    · refine f_aload_n (M := mX9_rateOf) 39 dX9_rateOf_38 rfl rfl ?_
      refine e_getR (M := mX9_rateOf) dX9_rateOf_39 fl_9007 (x_kk rfl) (x_kk rfl) rfl (wf_9_0 hR) ?_
      refine f_sipush (M := mX9_rateOf) 45 dX9_rateOf_42 ks_294 rfl ?_
      refine f_bipush (M := mX9_rateOf) 47 dX9_rateOf_45 kb_6 rfl ?_
      refine f_iload (M := mX9_rateOf) 49 dX9_rateOf_47 rfl rfl ?_
      refine f_imul (M := mX9_rateOf) 50 dX9_rateOf_49 rfl ?_
      refine f_iadd (M := mX9_rateOf) 51 dX9_rateOf_50 rfl ?_
      refine f_iload_n (M := mX9_rateOf) 52 dX9_rateOf_51 rfl rfl ?_
      refine f_iadd (M := mX9_rateOf) 53 dX9_rateOf_52 rfl ?_
      refine e_ild (M := mX9_rateOf) (w := 606) (j := ((294) + ((6) * (k))) + (s)) dX9_rateOf_53 (x_kk rfl) rfl (ix_add (ix_add kn_294 (ix_mul kn_6 rfl)) rfl) (by omega) (by omega) ?_
      refine f_istore_n (M := mX9_rateOf) (ls' := [_, _, _, _, _]) 55 dX9_rateOf_54 rfl rfl rfl ?_
      refine f_iinc (M := mX9_rateOf) (ls' := [_, _, _, _, _]) 58 dX9_rateOf_55 ki_1 rfl rfl rfl rfl ?_
      refine f_goto (M := mX9_rateOf) 13 dX9_rateOf_58 rfl ?_
      rw [n_inc]; have ih1 := ih (k + 1) (by omega); rw [show sp_idx (I 226) s (k + 1) = _ from sp_idx_1 h1] at ih1; exact ih1
theorem c_X9_rateOf (hR : x_wf R) {s Q : Nat} (hs : s < 6) (hQ : Q < 12) : x_Cv X mX9_rateOf [.ref 225, .int (Int32.ofNat s), .int (Int32.ofNat Q)] (I, L, R) 233 (.inl (some (.int (sp_rateOf (I 226) s Q))), (I, L, R), 233) := by
  show x_Ev X mX9_rateOf 0 [some (.ref 225), some (.int (Int32.ofNat s)), some (.int (Int32.ofNat Q)), none, none] [] ((I, L, R), 233, 0, 0) _
  refine f_aload_n (M := mX9_rateOf) 1 dX9_rateOf_0 rfl rfl ?_
  refine e_getR (M := mX9_rateOf) dX9_rateOf_1 fl_9007 (x_kk rfl) (x_kk rfl) rfl (wf_9_0 hR) ?_
  refine f_bipush (M := mX9_rateOf) 6 dX9_rateOf_4 kb_26 rfl ?_
  refine f_iload_n (M := mX9_rateOf) 7 dX9_rateOf_6 rfl rfl ?_
  refine f_iadd (M := mX9_rateOf) 8 dX9_rateOf_7 rfl ?_
  refine e_ild (M := mX9_rateOf) (w := 606) (j := (26) + (s)) dX9_rateOf_8 (x_kk rfl) rfl (ix_add kn_26 rfl) (by omega) (by omega) ?_
  refine f_istore_n (M := mX9_rateOf) (ls' := [_, _, _, _, _]) 10 dX9_rateOf_9 rfl rfl rfl ?_
  refine f_iconst (M := mX9_rateOf) 11 dX9_rateOf_10 ki_0 rfl ?_
  refine f_istore (M := mX9_rateOf) (ls' := [_, _, _, _, _]) 13 dX9_rateOf_11 rfl rfl rfl ?_
  exact l_X9_rateOf hR hs hQ (Q + 1) 0 (by omega)
def sp_rem (a : Nat → Int32) (s n : Nat) : Int32 := if 10 * a (32 + s) - sp_nets a (Int32.ofNat s) 0 36 n ≤ 0 then 0 else (10 * a (32 + s) - sp_nets a (Int32.ofNat s) 0 36 n) / 10
theorem c_X9_remains (hR : x_wf R) {Nl : Nat} (hNl : Nl ≤ 60) (hl : I 226 14 = Int32.ofNat Nl) {s : Nat} (hs : s < 6) : x_Cv X mX9_remains [.ref 225, .int (Int32.ofNat s)] (I, L, R) 233 (.inl (some (.int (sp_rem (I 226) s Nl))), (I, L, R), 233) := by
  show x_Ev X mX9_remains 0 [some (.ref 225), some (.int (Int32.ofNat s)), none] [] ((I, L, R), 233, 0, 0) _
  refine f_bipush (M := mX9_remains) 2 dX9_remains_0 kb_10 rfl ?_
  refine f_aload_n (M := mX9_remains) 3 dX9_remains_2 rfl rfl ?_
  refine e_getR (M := mX9_remains) dX9_remains_3 fl_9007 (x_kk rfl) (x_kk rfl) rfl (wf_9_0 hR) ?_
  refine f_bipush (M := mX9_remains) 8 dX9_remains_6 kb_32 rfl ?_
  refine f_iload_n (M := mX9_remains) 9 dX9_remains_8 rfl rfl ?_
  refine f_iadd (M := mX9_remains) 10 dX9_remains_9 rfl ?_
  refine e_ild (M := mX9_remains) (w := 606) (j := (32) + (s)) dX9_remains_10 (x_kk rfl) rfl (ix_add kn_32 rfl) (by omega) (by omega) ?_
  refine f_imul (M := mX9_remains) 12 dX9_remains_11 rfl ?_
  refine f_aload_n (M := mX9_remains) 13 dX9_remains_12 rfl rfl ?_
  refine f_iload_n (M := mX9_remains) 14 dX9_remains_13 rfl rfl ?_
  refine f_iconst (M := mX9_remains) 15 dX9_remains_14 ki_0 rfl ?_
  refine f_bipush (M := mX9_remains) 17 dX9_remains_15 kb_36 rfl ?_
  refine e_cV (M := mX9_remains) [_, _] 0 0 dX9_remains_17 pa_9266 pb_9266 cc_9266 rfl rfl rfl rfl rfl (x_kk rfl) (x_kk rfl) rfl (c_X9_netsOf (f := 0) (t := 36) hR hNl hl) rfl ?_
  refine f_isub (M := mX9_remains) 21 dX9_remains_20 rfl ?_
  refine f_istore_n (M := mX9_remains) (ls' := [_, _, _]) 22 dX9_remains_21 rfl rfl rfl ?_
  refine f_iload_n (M := mX9_remains) 23 dX9_remains_22 rfl rfl ?_
  refine e_if_le (M := mX9_remains) (t := 33) dX9_remains_23 rfl (fun h1 => ?_) (fun h1 => ?_)
  · refine f_iconst (M := mX9_remains) 34 dX9_remains_33 ki_0 rfl ?_
    refine e_ri (M := mX9_remains) dX9_remains_34 rfl (x_kk rfl) (x_kk rfl) ?_
    exact r_i (by unfold sp_rem; rw [if_pos h1])
  · refine f_iload_n (M := mX9_remains) 27 dX9_remains_26 rfl rfl ?_
    refine f_bipush (M := mX9_remains) 29 dX9_remains_27 kb_10 rfl ?_
    refine e_idiv (M := mX9_remains) dX9_remains_29 (by decide) ?_
    refine f_goto (M := mX9_remains) 34 dX9_remains_30 rfl ?_
    refine e_ri (M := mX9_remains) dX9_remains_34 rfl (x_kk rfl) (x_kk rfl) ?_
    exact r_i (by unfold sp_rem; rw [if_neg h1])
def sp_rems (a : Nat → Int32) (n m : Nat) : Int32 := x_sum32 (fun s => sp_rem a s n) m
theorem l_X9_remainsInAll (hR : x_wf R) {Nl : Nat} (hNl : Nl ≤ 60) (hl : I 226 14 = Int32.ofNat Nl) {Ns : Nat} (hNs : Ns ≤ 6) (hn : I 226 8 = Int32.ofNat Ns) : ∀ d k, k + d = Ns → x_Ev X mX9_remainsInAll 4 [some (.ref 225), some (.int (sp_rems (I 226) Nl k)), some (.int (Int32.ofNat k))] [] ((I, L, R), 233, 0, 0) (.inl (some (.int (sp_rems (I 226) Nl Ns))), (I, L, R), 233) := by
  intro d
  induction d with
  | zero =>
    intro k hd
    obtain rfl : Ns = k := by omega
    refine f_iload_n (M := mX9_remainsInAll) 5 dX9_remainsInAll_4 rfl rfl ?_
    refine f_aload_n (M := mX9_remainsInAll) 6 dX9_remainsInAll_5 rfl rfl ?_
    refine e_getR (M := mX9_remainsInAll) dX9_remainsInAll_6 fl_9007 (x_kk rfl) (x_kk rfl) rfl (wf_9_0 hR) ?_
    refine f_bipush (M := mX9_remainsInAll) 11 dX9_remainsInAll_9 kb_8 rfl ?_
    refine e_ild (M := mX9_remainsInAll) (w := 606) (j := 8) dX9_remainsInAll_11 (x_kk rfl) rfl kn_8 (by omega) (by omega) ?_
    refine e_icmp_geT (M := mX9_remainsInAll) 29 dX9_remainsInAll_12 rfl (by rw [hn]; exact Int32.le_refl _) ?_
    refine f_iload_n (M := mX9_remainsInAll) 30 dX9_remainsInAll_29 rfl rfl ?_
    refine e_ri (M := mX9_remainsInAll) dX9_remainsInAll_30 rfl (x_kk rfl) (x_kk rfl) ?_
    rfl
  | succ d ih =>
    intro k hd
    refine f_iload_n (M := mX9_remainsInAll) 5 dX9_remainsInAll_4 rfl rfl ?_
    refine f_aload_n (M := mX9_remainsInAll) 6 dX9_remainsInAll_5 rfl rfl ?_
    refine e_getR (M := mX9_remainsInAll) dX9_remainsInAll_6 fl_9007 (x_kk rfl) (x_kk rfl) rfl (wf_9_0 hR) ?_
    refine f_bipush (M := mX9_remainsInAll) 11 dX9_remainsInAll_9 kb_8 rfl ?_
    refine e_ild (M := mX9_remainsInAll) (w := 606) (j := 8) dX9_remainsInAll_11 (x_kk rfl) rfl kn_8 (by omega) (by omega) ?_
    refine e_icmp_geF (M := mX9_remainsInAll) 29 dX9_remainsInAll_12 rfl (by rw [hn, n_le (by omega) (by omega)]; omega) ?_
    refine f_iload_n (M := mX9_remainsInAll) 16 dX9_remainsInAll_15 rfl rfl ?_
    refine f_aload_n (M := mX9_remainsInAll) 17 dX9_remainsInAll_16 rfl rfl ?_
    refine f_iload_n (M := mX9_remainsInAll) 18 dX9_remainsInAll_17 rfl rfl ?_
    refine e_cV (M := mX9_remainsInAll) [_, _] 0 0 dX9_remainsInAll_18 pa_9174 pb_9174 cc_9174 rfl rfl rfl rfl rfl (x_kk rfl) (x_kk rfl) rfl (c_X9_remains hR hNl hl (by omega)) rfl ?_
    refine f_iadd (M := mX9_remainsInAll) 22 dX9_remainsInAll_21 rfl ?_
    refine f_istore_n (M := mX9_remainsInAll) (ls' := [_, _, _]) 23 dX9_remainsInAll_22 rfl rfl rfl ?_
    refine f_iinc (M := mX9_remainsInAll) (ls' := [_, _, _]) 26 dX9_remainsInAll_23 ki_1 rfl rfl rfl rfl ?_
    refine f_goto (M := mX9_remainsInAll) 4 dX9_remainsInAll_26 rfl ?_
    rw [n_inc]; exact ih (k + 1) (by omega)
theorem c_X9_remainsInAll (hR : x_wf R) {Nl : Nat} (hNl : Nl ≤ 60) (hl : I 226 14 = Int32.ofNat Nl) {Ns : Nat} (hNs : Ns ≤ 6) (hn : I 226 8 = Int32.ofNat Ns) : x_Cv X mX9_remainsInAll [.ref 225] (I, L, R) 233 (.inl (some (.int (sp_rems (I 226) Nl Ns))), (I, L, R), 233) := by
  show x_Ev X mX9_remainsInAll 0 [some (.ref 225), none, none] [] ((I, L, R), 233, 0, 0) _
  refine f_iconst (M := mX9_remainsInAll) 1 dX9_remainsInAll_0 ki_0 rfl ?_
  refine f_istore_n (M := mX9_remainsInAll) (ls' := [_, _, _]) 2 dX9_remainsInAll_1 rfl rfl rfl ?_
  refine f_iconst (M := mX9_remainsInAll) 3 dX9_remainsInAll_2 ki_0 rfl ?_
  refine f_istore_n (M := mX9_remainsInAll) (ls' := [_, _, _]) 4 dX9_remainsInAll_3 rfl rfl rfl ?_
  exact l_X9_remainsInAll hR hNl hl hNs hn Ns 0 (by omega)
/-- the model's two places of the factor -/
def x_fac (L : Nat → Nat → Int64) (B C : Int64) : Nat → Nat → Int64 := va_up L 225 (va_up (va_up (L 225) 17 B) 18 C)
theorem fac_b {B C v : Int64} : va_up (x_fac L B C) 225 (va_up ((x_fac L B C) 225) 17 v) = x_fac L v C := by
  funext q j
  unfold x_fac va_up
  by_cases h : q = 225
  · subst h
    by_cases h1 : j = 17
    · subst h1; rfl
    · by_cases h2 : j = 18
      · subst h2; rfl
      · simp [h1, h2]
  · simp [h]
theorem fac_c {B C v : Int64} : va_up (x_fac L B C) 225 (va_up ((x_fac L B C) 225) 18 v) = x_fac L B v := by
  funext q j
  unfold x_fac va_up
  by_cases h : q = 225
  · subst h
    by_cases h1 : j = 17
    · subst h1; rfl
    · by_cases h2 : j = 18
      · subst h2; rfl
      · simp [h2]
  · simp [h]
theorem fac_0 {B C : Int64} : va_up (va_up L 225 (va_up (L 225) 17 B)) 225 (va_up ((va_up L 225 (va_up (L 225) 17 B)) 225) 18 C) = x_fac L B C := by
  funext q j
  unfold x_fac va_up
  by_cases h : q = 225
  · subst h; simp
  · simp [h]
theorem fac_17 {B C : Int64} : x_fac L B C 225 17 = B := rfl
theorem fac_18 {B C : Int64} : x_fac L B C 225 18 = C := rfl
theorem fac_o {B C : Int64} {q : Nat} (h : ¬ q = 225) : x_fac L B C q = L q := by
  unfold x_fac va_up
  rw [if_neg h]
theorem fac_f {B C D E : Int64} : x_fac (x_fac L B C) D E = x_fac L D E := by
  funext q j
  unfold x_fac va_up
  by_cases h : q = 225
  · subst h
    by_cases h1 : j = 17
    · subst h1; rfl
    · by_cases h2 : j = 18
      · subst h2; rfl
      · simp [h1, h2]
  · simp [h]
/-- sums over the checked loads: place w -/
def sp_chk (a : Nat → Int32) (w k : Nat) : Int64 := if a (366 + 4 * k + 3) = -1 then 0 else (a (366 + 4 * k + w)).toInt64
def sp_cs (a : Nat → Int32) (w n : Nat) : Int64 := x_sum64 (sp_chk a w) n
theorem sp_cs_0 {a : Nat → Int32} {w k : Nat} (h : a (366 + 4 * k + 3) = -1) : sp_cs a w (k + 1) = sp_cs a w k := by
  show sp_cs a w k + sp_chk a w k = _
  unfold sp_chk
  rw [if_pos h, Int64.add_zero]
theorem sp_cs_1 {a : Nat → Int32} {w k : Nat} (h : ¬ a (366 + 4 * k + 3) = -1) : sp_cs a w (k + 1) = sp_cs a w k + (a (366 + 4 * k + w)).toInt64 := by
  show sp_cs a w k + sp_chk a w k = _
  unfold sp_chk
  rw [if_neg h]
def sp_apart (B C : Int64) : Int64 := if B ≤ C then C - B else B - C
abbrev sp_keeps (a : Nat → Int32) (n : Nat) : Prop := 0 < sp_cs a 2 n ∧ 0 < sp_cs a 3 n ∧ sp_cs a 2 n * (a 5).toInt64 < sp_apart (sp_cs a 2 n) (sp_cs a 3 n) * 100
def sp_fB (a : Nat → Int32) (n : Nat) : Int64 := if sp_keeps a n then sp_cs a 2 n else 1
def sp_fC (a : Nat → Int32) (n : Nat) : Int64 := if sp_keeps a n then sp_cs a 3 n else 1
def x_facF (L : Nat → Nat → Int64) (a : Nat → Int32) (n : Nat) : Nat → Nat → Int64 := x_fac L (sp_fB a n) (sp_fC a n)
theorem facF_17 {a : Nat → Int32} {n : Nat} : x_facF L a n 225 17 = sp_fB a n := rfl
theorem facF_18 {a : Nat → Int32} {n : Nat} : x_facF L a n 225 18 = sp_fC a n := rfl
theorem facF_t {a : Nat → Int32} {n : Nat} (h : sp_keeps a n) : x_facF L a n = x_fac L (sp_cs a 2 n) (sp_cs a 3 n) := by unfold x_facF sp_fB sp_fC; rw [if_pos h, if_pos h]
theorem facF_f {a : Nat → Int32} {n : Nat} (h : ¬ sp_keeps a n) : x_facF L a n = x_fac L 1 1 := by unfold x_facF sp_fB sp_fC; rw [if_neg h, if_neg h]
theorem l_X9_laysFactor (hR : x_wf R) {Nl : Nat} (hNl : Nl ≤ 60) (hl : I 226 14 = Int32.ofNat Nl) : ∀ d k, k + d = Nl → x_Ev X mX9_laysFactor 12 [some (.ref 225), some (.int (Int32.ofNat k)), none] [] ((I, x_fac L (sp_cs (I 226) 2 k) (sp_cs (I 226) 3 k), R), 233, 0, 0) (.inl none, (I, x_facF L (I 226) Nl, R), 233) := by
  intro d
  induction d with
  | zero =>
    intro k hd
    obtain rfl : Nl = k := by omega
    refine f_iload_n (M := mX9_laysFactor) 13 dX9_laysFactor_12 rfl rfl ?_
    refine f_aload_n (M := mX9_laysFactor) 14 dX9_laysFactor_13 rfl rfl ?_
    refine e_getR (M := mX9_laysFactor) dX9_laysFactor_14 fl_9007 (x_kk rfl) (x_kk rfl) rfl (wf_9_0 hR) ?_
    refine f_bipush (M := mX9_laysFactor) 19 dX9_laysFactor_17 kb_14 rfl ?_
    refine e_ild (M := mX9_laysFactor) (w := 606) (j := 14) dX9_laysFactor_19 (x_kk rfl) rfl kn_14 (by omega) (by omega) ?_
    refine e_icmp_geT (M := mX9_laysFactor) 74 dX9_laysFactor_20 rfl (by rw [hl]; exact Int32.le_refl _) ?_
    refine f_aload_n (M := mX9_laysFactor) 75 dX9_laysFactor_74 rfl rfl ?_
    refine e_getL (M := mX9_laysFactor) dX9_laysFactor_75 fl_9269 (x_kk rfl) (x_kk rfl) rfl ?_
    refine f_aload_n (M := mX9_laysFactor) 79 dX9_laysFactor_78 rfl rfl ?_
    refine e_getL (M := mX9_laysFactor) dX9_laysFactor_79 fl_9272 (x_kk rfl) (x_kk rfl) rfl ?_
    refine f_lcmp (M := mX9_laysFactor) 83 dX9_laysFactor_82 rfl ?_
    refine e_if_le (M := mX9_laysFactor) (t := 98) dX9_laysFactor_83 rfl (fun h1 => ?_) (fun h1 => ?_)
    · refine f_aload_n (M := mX9_laysFactor) 99 dX9_laysFactor_98 rfl rfl ?_
      refine e_getL (M := mX9_laysFactor) dX9_laysFactor_99 fl_9272 (x_kk rfl) (x_kk rfl) rfl ?_
      refine f_aload_n (M := mX9_laysFactor) 103 dX9_laysFactor_102 rfl rfl ?_
      refine e_getL (M := mX9_laysFactor) dX9_laysFactor_103 fl_9269 (x_kk rfl) (x_kk rfl) rfl ?_
      refine f_lsub (M := mX9_laysFactor) 107 dX9_laysFactor_106 rfl ?_
      refine f_lstore_n (M := mX9_laysFactor) (ls' := [_, _, _]) 108 dX9_laysFactor_107 rfl rfl rfl ?_
      refine f_aload_n (M := mX9_laysFactor) 109 dX9_laysFactor_108 rfl rfl ?_
      refine e_getL (M := mX9_laysFactor) dX9_laysFactor_109 fl_9269 (x_kk rfl) (x_kk rfl) rfl ?_
      refine f_lconst (M := mX9_laysFactor) 113 dX9_laysFactor_112 kl_0 rfl ?_
      refine f_lcmp (M := mX9_laysFactor) 114 dX9_laysFactor_113 rfl ?_
      refine e_if_le (M := mX9_laysFactor) (t := 148) dX9_laysFactor_114 rfl (fun h2 => ?_) (fun h2 => ?_)
      · refine f_aload_n (M := mX9_laysFactor) 149 dX9_laysFactor_148 rfl rfl ?_
        refine f_lconst (M := mX9_laysFactor) 150 dX9_laysFactor_149 kl_1 rfl ?_
        refine e_putL (M := mX9_laysFactor) dX9_laysFactor_150 fl_9269 (x_kk rfl) (x_kk rfl) rfl (fun q9 => Bool.noConfusion q9) ?_
        refine f_aload_n (M := mX9_laysFactor) 154 dX9_laysFactor_153 rfl rfl ?_
        refine f_lconst (M := mX9_laysFactor) 155 dX9_laysFactor_154 kl_1 rfl ?_
        refine e_putL (M := mX9_laysFactor) dX9_laysFactor_155 fl_9272 (x_kk rfl) (x_kk rfl) rfl (fun q9 => Bool.noConfusion q9) ?_
        refine e_rv (M := mX9_laysFactor) dX9_laysFactor_158 rfl (x_kk rfl) (x_kk rfl) ?_
        rw [fac_b, fac_c]; exact congrArg (fun q9 => ((.inl none, (I, q9, R), 233) : x_O × x_Mem × Nat)) (facF_f (fun z => absurd z.1 (l_nlt.mpr (lc_le.mp h2)))).symm
      · refine f_aload_n (M := mX9_laysFactor) 118 dX9_laysFactor_117 rfl rfl ?_
        refine e_getL (M := mX9_laysFactor) dX9_laysFactor_118 fl_9272 (x_kk rfl) (x_kk rfl) rfl ?_
        refine f_lconst (M := mX9_laysFactor) 122 dX9_laysFactor_121 kl_0 rfl ?_
        refine f_lcmp (M := mX9_laysFactor) 123 dX9_laysFactor_122 rfl ?_
        refine e_if_le (M := mX9_laysFactor) (t := 148) dX9_laysFactor_123 rfl (fun h3 => ?_) (fun h3 => ?_)
        · refine f_aload_n (M := mX9_laysFactor) 149 dX9_laysFactor_148 rfl rfl ?_
          refine f_lconst (M := mX9_laysFactor) 150 dX9_laysFactor_149 kl_1 rfl ?_
          refine e_putL (M := mX9_laysFactor) dX9_laysFactor_150 fl_9269 (x_kk rfl) (x_kk rfl) rfl (fun q9 => Bool.noConfusion q9) ?_
          refine f_aload_n (M := mX9_laysFactor) 154 dX9_laysFactor_153 rfl rfl ?_
          refine f_lconst (M := mX9_laysFactor) 155 dX9_laysFactor_154 kl_1 rfl ?_
          refine e_putL (M := mX9_laysFactor) dX9_laysFactor_155 fl_9272 (x_kk rfl) (x_kk rfl) rfl (fun q9 => Bool.noConfusion q9) ?_
          refine e_rv (M := mX9_laysFactor) dX9_laysFactor_158 rfl (x_kk rfl) (x_kk rfl) ?_
          rw [fac_b, fac_c]; exact congrArg (fun q9 => ((.inl none, (I, q9, R), 233) : x_O × x_Mem × Nat)) (facF_f (fun z => absurd z.2.1 (l_nlt.mpr (lc_le.mp h3)))).symm
        · refine f_lload_n (M := mX9_laysFactor) 127 dX9_laysFactor_126 rfl rfl ?_
          refine f_ldc2 (M := mX9_laysFactor) 130 dX9_laysFactor_127 (x_kk rfl) csl_9205 rfl ?_
          refine f_lmul (M := mX9_laysFactor) 131 dX9_laysFactor_130 rfl ?_
          refine f_aload_n (M := mX9_laysFactor) 132 dX9_laysFactor_131 rfl rfl ?_
          refine e_getL (M := mX9_laysFactor) dX9_laysFactor_132 fl_9269 (x_kk rfl) (x_kk rfl) rfl ?_
          refine f_aload_n (M := mX9_laysFactor) 136 dX9_laysFactor_135 rfl rfl ?_
          refine e_getR (M := mX9_laysFactor) dX9_laysFactor_136 fl_9007 (x_kk rfl) (x_kk rfl) rfl (wf_9_0 hR) ?_
          refine f_iconst (M := mX9_laysFactor) 140 dX9_laysFactor_139 ki_5 rfl ?_
          refine e_ild (M := mX9_laysFactor) (w := 606) (j := 5) dX9_laysFactor_140 (x_kk rfl) rfl kn_5 (by omega) (by omega) ?_
          refine f_i2l (M := mX9_laysFactor) 142 dX9_laysFactor_141 rfl ?_
          refine f_lmul (M := mX9_laysFactor) 143 dX9_laysFactor_142 rfl ?_
          refine f_lcmp (M := mX9_laysFactor) 144 dX9_laysFactor_143 rfl ?_
          refine e_if_le (M := mX9_laysFactor) (t := 148) dX9_laysFactor_144 rfl (fun h4 => ?_) (fun h4 => ?_)
          · refine f_aload_n (M := mX9_laysFactor) 149 dX9_laysFactor_148 rfl rfl ?_
            refine f_lconst (M := mX9_laysFactor) 150 dX9_laysFactor_149 kl_1 rfl ?_
            refine e_putL (M := mX9_laysFactor) dX9_laysFactor_150 fl_9269 (x_kk rfl) (x_kk rfl) rfl (fun q9 => Bool.noConfusion q9) ?_
            refine f_aload_n (M := mX9_laysFactor) 154 dX9_laysFactor_153 rfl rfl ?_
            refine f_lconst (M := mX9_laysFactor) 155 dX9_laysFactor_154 kl_1 rfl ?_
            refine e_putL (M := mX9_laysFactor) dX9_laysFactor_155 fl_9272 (x_kk rfl) (x_kk rfl) rfl (fun q9 => Bool.noConfusion q9) ?_
            refine e_rv (M := mX9_laysFactor) dX9_laysFactor_158 rfl (x_kk rfl) (x_kk rfl) ?_
            rw [fac_b, fac_c]; exact congrArg (fun q9 => ((.inl none, (I, q9, R), 233) : x_O × x_Mem × Nat)) (facF_f (fun z => (by have z3 := z.2.2; unfold sp_apart at z3; rw [if_pos (show sp_cs (I 226) 2 Nl ≤ sp_cs (I 226) 3 Nl from lc_le.mp h1)] at z3; exact absurd (lc_le.mp h4) (l_nle.mpr z3)))).symm
          · refine e_rv (M := mX9_laysFactor) dX9_laysFactor_147 rfl (x_kk rfl) (x_kk rfl) ?_
            exact congrArg (fun q9 => ((.inl none, (I, q9, R), 233) : x_O × x_Mem × Nat)) (facF_t ⟨l_nle.mp (fun z => h2 (lc_le.mpr z)), l_nle.mp (fun z => h3 (lc_le.mpr z)), (by unfold sp_apart; rw [if_pos (show sp_cs (I 226) 2 Nl ≤ sp_cs (I 226) 3 Nl from lc_le.mp h1)]; exact l_nle.mp (fun z => h4 (lc_le.mpr z)))⟩).symm
    · refine f_aload_n (M := mX9_laysFactor) 87 dX9_laysFactor_86 rfl rfl ?_
      refine e_getL (M := mX9_laysFactor) dX9_laysFactor_87 fl_9269 (x_kk rfl) (x_kk rfl) rfl ?_
      refine f_aload_n (M := mX9_laysFactor) 91 dX9_laysFactor_90 rfl rfl ?_
      refine e_getL (M := mX9_laysFactor) dX9_laysFactor_91 fl_9272 (x_kk rfl) (x_kk rfl) rfl ?_
      refine f_lsub (M := mX9_laysFactor) 95 dX9_laysFactor_94 rfl ?_
      refine f_goto (M := mX9_laysFactor) 107 dX9_laysFactor_95 rfl ?_
      refine f_lstore_n (M := mX9_laysFactor) (ls' := [_, _, _]) 108 dX9_laysFactor_107 rfl rfl rfl ?_
      refine f_aload_n (M := mX9_laysFactor) 109 dX9_laysFactor_108 rfl rfl ?_
      refine e_getL (M := mX9_laysFactor) dX9_laysFactor_109 fl_9269 (x_kk rfl) (x_kk rfl) rfl ?_
      refine f_lconst (M := mX9_laysFactor) 113 dX9_laysFactor_112 kl_0 rfl ?_
      refine f_lcmp (M := mX9_laysFactor) 114 dX9_laysFactor_113 rfl ?_
      refine e_if_le (M := mX9_laysFactor) (t := 148) dX9_laysFactor_114 rfl (fun h2 => ?_) (fun h2 => ?_)
      · refine f_aload_n (M := mX9_laysFactor) 149 dX9_laysFactor_148 rfl rfl ?_
        refine f_lconst (M := mX9_laysFactor) 150 dX9_laysFactor_149 kl_1 rfl ?_
        refine e_putL (M := mX9_laysFactor) dX9_laysFactor_150 fl_9269 (x_kk rfl) (x_kk rfl) rfl (fun q9 => Bool.noConfusion q9) ?_
        refine f_aload_n (M := mX9_laysFactor) 154 dX9_laysFactor_153 rfl rfl ?_
        refine f_lconst (M := mX9_laysFactor) 155 dX9_laysFactor_154 kl_1 rfl ?_
        refine e_putL (M := mX9_laysFactor) dX9_laysFactor_155 fl_9272 (x_kk rfl) (x_kk rfl) rfl (fun q9 => Bool.noConfusion q9) ?_
        refine e_rv (M := mX9_laysFactor) dX9_laysFactor_158 rfl (x_kk rfl) (x_kk rfl) ?_
        rw [fac_b, fac_c]; exact congrArg (fun q9 => ((.inl none, (I, q9, R), 233) : x_O × x_Mem × Nat)) (facF_f (fun z => absurd z.1 (l_nlt.mpr (lc_le.mp h2)))).symm
      · refine f_aload_n (M := mX9_laysFactor) 118 dX9_laysFactor_117 rfl rfl ?_
        refine e_getL (M := mX9_laysFactor) dX9_laysFactor_118 fl_9272 (x_kk rfl) (x_kk rfl) rfl ?_
        refine f_lconst (M := mX9_laysFactor) 122 dX9_laysFactor_121 kl_0 rfl ?_
        refine f_lcmp (M := mX9_laysFactor) 123 dX9_laysFactor_122 rfl ?_
        refine e_if_le (M := mX9_laysFactor) (t := 148) dX9_laysFactor_123 rfl (fun h3 => ?_) (fun h3 => ?_)
        · refine f_aload_n (M := mX9_laysFactor) 149 dX9_laysFactor_148 rfl rfl ?_
          refine f_lconst (M := mX9_laysFactor) 150 dX9_laysFactor_149 kl_1 rfl ?_
          refine e_putL (M := mX9_laysFactor) dX9_laysFactor_150 fl_9269 (x_kk rfl) (x_kk rfl) rfl (fun q9 => Bool.noConfusion q9) ?_
          refine f_aload_n (M := mX9_laysFactor) 154 dX9_laysFactor_153 rfl rfl ?_
          refine f_lconst (M := mX9_laysFactor) 155 dX9_laysFactor_154 kl_1 rfl ?_
          refine e_putL (M := mX9_laysFactor) dX9_laysFactor_155 fl_9272 (x_kk rfl) (x_kk rfl) rfl (fun q9 => Bool.noConfusion q9) ?_
          refine e_rv (M := mX9_laysFactor) dX9_laysFactor_158 rfl (x_kk rfl) (x_kk rfl) ?_
          rw [fac_b, fac_c]; exact congrArg (fun q9 => ((.inl none, (I, q9, R), 233) : x_O × x_Mem × Nat)) (facF_f (fun z => absurd z.2.1 (l_nlt.mpr (lc_le.mp h3)))).symm
        · refine f_lload_n (M := mX9_laysFactor) 127 dX9_laysFactor_126 rfl rfl ?_
          refine f_ldc2 (M := mX9_laysFactor) 130 dX9_laysFactor_127 (x_kk rfl) csl_9205 rfl ?_
          refine f_lmul (M := mX9_laysFactor) 131 dX9_laysFactor_130 rfl ?_
          refine f_aload_n (M := mX9_laysFactor) 132 dX9_laysFactor_131 rfl rfl ?_
          refine e_getL (M := mX9_laysFactor) dX9_laysFactor_132 fl_9269 (x_kk rfl) (x_kk rfl) rfl ?_
          refine f_aload_n (M := mX9_laysFactor) 136 dX9_laysFactor_135 rfl rfl ?_
          refine e_getR (M := mX9_laysFactor) dX9_laysFactor_136 fl_9007 (x_kk rfl) (x_kk rfl) rfl (wf_9_0 hR) ?_
          refine f_iconst (M := mX9_laysFactor) 140 dX9_laysFactor_139 ki_5 rfl ?_
          refine e_ild (M := mX9_laysFactor) (w := 606) (j := 5) dX9_laysFactor_140 (x_kk rfl) rfl kn_5 (by omega) (by omega) ?_
          refine f_i2l (M := mX9_laysFactor) 142 dX9_laysFactor_141 rfl ?_
          refine f_lmul (M := mX9_laysFactor) 143 dX9_laysFactor_142 rfl ?_
          refine f_lcmp (M := mX9_laysFactor) 144 dX9_laysFactor_143 rfl ?_
          refine e_if_le (M := mX9_laysFactor) (t := 148) dX9_laysFactor_144 rfl (fun h4 => ?_) (fun h4 => ?_)
          · refine f_aload_n (M := mX9_laysFactor) 149 dX9_laysFactor_148 rfl rfl ?_
            refine f_lconst (M := mX9_laysFactor) 150 dX9_laysFactor_149 kl_1 rfl ?_
            refine e_putL (M := mX9_laysFactor) dX9_laysFactor_150 fl_9269 (x_kk rfl) (x_kk rfl) rfl (fun q9 => Bool.noConfusion q9) ?_
            refine f_aload_n (M := mX9_laysFactor) 154 dX9_laysFactor_153 rfl rfl ?_
            refine f_lconst (M := mX9_laysFactor) 155 dX9_laysFactor_154 kl_1 rfl ?_
            refine e_putL (M := mX9_laysFactor) dX9_laysFactor_155 fl_9272 (x_kk rfl) (x_kk rfl) rfl (fun q9 => Bool.noConfusion q9) ?_
            refine e_rv (M := mX9_laysFactor) dX9_laysFactor_158 rfl (x_kk rfl) (x_kk rfl) ?_
            rw [fac_b, fac_c]; exact congrArg (fun q9 => ((.inl none, (I, q9, R), 233) : x_O × x_Mem × Nat)) (facF_f (fun z => (by have z3 := z.2.2; unfold sp_apart at z3; rw [if_neg (show ¬ sp_cs (I 226) 2 Nl ≤ sp_cs (I 226) 3 Nl from fun z => h1 (lc_le.mpr z))] at z3; exact absurd (lc_le.mp h4) (l_nle.mpr z3)))).symm
          · refine e_rv (M := mX9_laysFactor) dX9_laysFactor_147 rfl (x_kk rfl) (x_kk rfl) ?_
            exact congrArg (fun q9 => ((.inl none, (I, q9, R), 233) : x_O × x_Mem × Nat)) (facF_t ⟨l_nle.mp (fun z => h2 (lc_le.mpr z)), l_nle.mp (fun z => h3 (lc_le.mpr z)), (by unfold sp_apart; rw [if_neg (show ¬ sp_cs (I 226) 2 Nl ≤ sp_cs (I 226) 3 Nl from fun z => h1 (lc_le.mpr z))]; exact l_nle.mp (fun z => h4 (lc_le.mpr z)))⟩).symm
  | succ d ih =>
    intro k hd
    refine f_iload_n (M := mX9_laysFactor) 13 dX9_laysFactor_12 rfl rfl ?_
    refine f_aload_n (M := mX9_laysFactor) 14 dX9_laysFactor_13 rfl rfl ?_
    refine e_getR (M := mX9_laysFactor) dX9_laysFactor_14 fl_9007 (x_kk rfl) (x_kk rfl) rfl (wf_9_0 hR) ?_
    refine f_bipush (M := mX9_laysFactor) 19 dX9_laysFactor_17 kb_14 rfl ?_
    refine e_ild (M := mX9_laysFactor) (w := 606) (j := 14) dX9_laysFactor_19 (x_kk rfl) rfl kn_14 (by omega) (by omega) ?_
    refine e_icmp_geF (M := mX9_laysFactor) 74 dX9_laysFactor_20 rfl (by rw [hl, n_le (by omega) (by omega)]; omega) ?_
    refine f_aload_n (M := mX9_laysFactor) 24 dX9_laysFactor_23 rfl rfl ?_
    refine f_iload_n (M := mX9_laysFactor) 25 dX9_laysFactor_24 rfl rfl ?_
    refine f_iconst (M := mX9_laysFactor) 26 dX9_laysFactor_25 ki_3 rfl ?_
    refine e_cV (M := mX9_laysFactor) [_] 0 0 dX9_laysFactor_26 pa_9258 pb_9258 cc_9258 rfl rfl rfl rfl rfl (x_kk rfl) (x_kk rfl) rfl (c_X9_ofLoad (j := 3) hR (by omega) (by omega)) rfl ?_
    refine f_iconst (M := mX9_laysFactor) 30 dX9_laysFactor_29 ki_m1 rfl ?_
    refine e_icmp_ne (M := mX9_laysFactor) (t := 36) dX9_laysFactor_30 rfl (fun h1 => ?_) (fun h1 => ?_)
    · refine f_aload_n (M := mX9_laysFactor) 37 dX9_laysFactor_36 rfl rfl ?_
      refine f_dup (M := mX9_laysFactor) 38 dX9_laysFactor_37 rfl rfl ?_
      refine e_getL (M := mX9_laysFactor) dX9_laysFactor_38 fl_9269 (x_kk rfl) (x_kk rfl) rfl ?_
      refine f_aload_n (M := mX9_laysFactor) 42 dX9_laysFactor_41 rfl rfl ?_
      refine f_iload_n (M := mX9_laysFactor) 43 dX9_laysFactor_42 rfl rfl ?_
      refine f_iconst (M := mX9_laysFactor) 44 dX9_laysFactor_43 ki_2 rfl ?_
      refine e_cV (M := mX9_laysFactor) [_, _, _] 0 0 dX9_laysFactor_44 pa_9258 pb_9258 cc_9258 rfl rfl rfl rfl rfl (x_kk rfl) (x_kk rfl) rfl (c_X9_ofLoad (j := 2) hR (by omega) (by omega)) rfl ?_
      refine f_i2l (M := mX9_laysFactor) 48 dX9_laysFactor_47 rfl ?_
      refine f_ladd (M := mX9_laysFactor) 49 dX9_laysFactor_48 rfl ?_
      refine e_putL (M := mX9_laysFactor) dX9_laysFactor_49 fl_9269 (x_kk rfl) (x_kk rfl) rfl (fun q9 => Bool.noConfusion q9) ?_
      rw [fac_b]
      refine f_aload_n (M := mX9_laysFactor) 53 dX9_laysFactor_52 rfl rfl ?_
      refine f_dup (M := mX9_laysFactor) 54 dX9_laysFactor_53 rfl rfl ?_
      refine e_getL (M := mX9_laysFactor) dX9_laysFactor_54 fl_9272 (x_kk rfl) (x_kk rfl) rfl ?_
      refine f_aload_n (M := mX9_laysFactor) 58 dX9_laysFactor_57 rfl rfl ?_
      refine f_iload_n (M := mX9_laysFactor) 59 dX9_laysFactor_58 rfl rfl ?_
      refine f_iconst (M := mX9_laysFactor) 60 dX9_laysFactor_59 ki_3 rfl ?_
      refine e_cV (M := mX9_laysFactor) [_, _, _] 0 0 dX9_laysFactor_60 pa_9258 pb_9258 cc_9258 rfl rfl rfl rfl rfl (x_kk rfl) (x_kk rfl) rfl (c_X9_ofLoad (j := 3) hR (by omega) (by omega)) rfl ?_
      refine f_i2l (M := mX9_laysFactor) 64 dX9_laysFactor_63 rfl ?_
      refine f_ladd (M := mX9_laysFactor) 65 dX9_laysFactor_64 rfl ?_
      refine e_putL (M := mX9_laysFactor) dX9_laysFactor_65 fl_9272 (x_kk rfl) (x_kk rfl) rfl (fun q9 => Bool.noConfusion q9) ?_
      try rw [fac_c]
      refine f_iinc (M := mX9_laysFactor) (ls' := [_, _, _]) 71 dX9_laysFactor_68 ki_1 rfl rfl rfl rfl ?_
      refine f_goto (M := mX9_laysFactor) 12 dX9_laysFactor_71 rfl ?_
      rw [n_inc]; have ih1 := ih (k + 1) (by omega); rw [sp_cs_1 h1, sp_cs_1 h1] at ih1; exact ih1
    · refine f_goto (M := mX9_laysFactor) 68 dX9_laysFactor_33 rfl ?_
      try rw [fac_c]
      refine f_iinc (M := mX9_laysFactor) (ls' := [_, _, _]) 71 dX9_laysFactor_68 ki_1 rfl rfl rfl rfl ?_
      refine f_goto (M := mX9_laysFactor) 12 dX9_laysFactor_71 rfl ?_
      rw [n_inc]; have ih1 := ih (k + 1) (by omega); rw [sp_cs_0 (x_dn h1), sp_cs_0 (x_dn h1)] at ih1; exact ih1
theorem c_X9_laysFactor (hR : x_wf R) {Nl : Nat} (hNl : Nl ≤ 60) (hl : I 226 14 = Int32.ofNat Nl) : x_Cv X mX9_laysFactor [.ref 225] (I, L, R) 233 (.inl none, (I, x_facF L (I 226) Nl, R), 233) := by
  show x_Ev X mX9_laysFactor 0 [some (.ref 225), none, none] [] ((I, L, R), 233, 0, 0) _
  refine f_aload_n (M := mX9_laysFactor) 1 dX9_laysFactor_0 rfl rfl ?_
  refine f_lconst (M := mX9_laysFactor) 2 dX9_laysFactor_1 kl_0 rfl ?_
  refine e_putL (M := mX9_laysFactor) dX9_laysFactor_2 fl_9269 (x_kk rfl) (x_kk rfl) rfl (fun q9 => Bool.noConfusion q9) ?_
  refine f_aload_n (M := mX9_laysFactor) 6 dX9_laysFactor_5 rfl rfl ?_
  refine f_lconst (M := mX9_laysFactor) 7 dX9_laysFactor_6 kl_0 rfl ?_
  refine e_putL (M := mX9_laysFactor) dX9_laysFactor_7 fl_9272 (x_kk rfl) (x_kk rfl) rfl (fun q9 => Bool.noConfusion q9) ?_
  rw [fac_0]
  refine f_iconst (M := mX9_laysFactor) 11 dX9_laysFactor_10 ki_0 rfl ?_
  refine f_istore_n (M := mX9_laysFactor) (ls' := [_, _, _]) 12 dX9_laysFactor_11 rfl rfl rfl ?_
  exact l_X9_laysFactor hR hNl hl Nl 0 (by omega)
def sp_chgAt (a : Nat → Int32) (m n s : Nat) : Int64 := (sp_nets a (Int32.ofNat s) (Int32.ofNat m) (Int32.ofNat m + 1) n).toInt64 * (sp_rateOf a s (m / 3)).toInt64 * sp_fC a n / (10 * sp_fB a n)
def sp_chg (a : Nat → Int32) (m n : Nat) (w : Nat) : Int64 := x_sum64 (sp_chgAt a m n) w
theorem l_X9_chargeOf (hR : x_wf R) {Nl : Nat} (hNl : Nl ≤ 60) (hl : I 226 14 = Int32.ofNat Nl) {Ns : Nat} (hNs : Ns ≤ 6) (hn : I 226 8 = Int32.ofNat Ns) (hB : ¬ 10 * sp_fB (I 226) Nl = 0) {m : Nat} (hm : m < 36) {w : Option Value} : ∀ d k, k + d = Ns → x_Ev X mX9_chargeOf 9 [some (.ref 225), some (.int (Int32.ofNat m)), some (.long (sp_chg (I 226) m Nl k)), none, some (.int (Int32.ofNat k)), w, none] [] ((I, x_facF L (I 226) Nl, R), 233, 0, 0) (.inl (some (.long (sp_chg (I 226) m Nl Ns))), (I, x_facF L (I 226) Nl, R), 233) := by
  intro d
  induction d generalizing w with
  | zero =>
    intro k hd
    obtain rfl : Ns = k := by omega
    refine f_iload (M := mX9_chargeOf) 11 dX9_chargeOf_9 rfl rfl ?_
    refine f_aload_n (M := mX9_chargeOf) 12 dX9_chargeOf_11 rfl rfl ?_
    refine e_getR (M := mX9_chargeOf) dX9_chargeOf_12 fl_9007 (x_kk rfl) (x_kk rfl) rfl (wf_9_0 hR) ?_
    refine f_bipush (M := mX9_chargeOf) 17 dX9_chargeOf_15 kb_8 rfl ?_
    refine e_ild (M := mX9_chargeOf) (w := 606) (j := 8) dX9_chargeOf_17 (x_kk rfl) rfl kn_8 (by omega) (by omega) ?_
    refine e_icmp_geT (M := mX9_chargeOf) 70 dX9_chargeOf_18 rfl (by rw [hn]; exact Int32.le_refl _) ?_
    refine f_lload_n (M := mX9_chargeOf) 71 dX9_chargeOf_70 rfl rfl ?_
    refine e_rl (M := mX9_chargeOf) dX9_chargeOf_71 rfl (x_kk rfl) (x_kk rfl) ?_
    rfl
  | succ d ih =>
    intro k hd
    refine f_iload (M := mX9_chargeOf) 11 dX9_chargeOf_9 rfl rfl ?_
    refine f_aload_n (M := mX9_chargeOf) 12 dX9_chargeOf_11 rfl rfl ?_
    refine e_getR (M := mX9_chargeOf) dX9_chargeOf_12 fl_9007 (x_kk rfl) (x_kk rfl) rfl (wf_9_0 hR) ?_
    refine f_bipush (M := mX9_chargeOf) 17 dX9_chargeOf_15 kb_8 rfl ?_
    refine e_ild (M := mX9_chargeOf) (w := 606) (j := 8) dX9_chargeOf_17 (x_kk rfl) rfl kn_8 (by omega) (by omega) ?_
    refine e_icmp_geF (M := mX9_chargeOf) 70 dX9_chargeOf_18 rfl (by rw [hn, n_le (by omega) (by omega)]; omega) ?_
    refine f_aload_n (M := mX9_chargeOf) 22 dX9_chargeOf_21 rfl rfl ?_
    refine f_iload (M := mX9_chargeOf) 24 dX9_chargeOf_22 rfl rfl ?_
    refine f_iload_n (M := mX9_chargeOf) 25 dX9_chargeOf_24 rfl rfl ?_
    refine f_iload_n (M := mX9_chargeOf) 26 dX9_chargeOf_25 rfl rfl ?_
    refine f_iconst (M := mX9_chargeOf) 27 dX9_chargeOf_26 ki_1 rfl ?_
    refine f_iadd (M := mX9_chargeOf) 28 dX9_chargeOf_27 rfl ?_
    refine e_cV (M := mX9_chargeOf) [_] 0 0 dX9_chargeOf_28 pa_9266 pb_9266 cc_9266 rfl rfl rfl rfl rfl (x_kk rfl) (x_kk rfl) rfl (c_X9_netsOf hR hNl hl) rfl ?_
    refine f_i2l (M := mX9_chargeOf) 32 dX9_chargeOf_31 rfl ?_
    refine f_lstore (M := mX9_chargeOf) (ls' := [_, _, _, _, _, _, _]) 34 dX9_chargeOf_32 rfl rfl rfl ?_
    refine f_lload_n (M := mX9_chargeOf) 35 dX9_chargeOf_34 rfl rfl ?_
    refine f_lload (M := mX9_chargeOf) 37 dX9_chargeOf_35 rfl rfl ?_
    refine f_aload_n (M := mX9_chargeOf) 38 dX9_chargeOf_37 rfl rfl ?_
    refine f_iload (M := mX9_chargeOf) 40 dX9_chargeOf_38 rfl rfl ?_
    refine f_iload_n (M := mX9_chargeOf) 41 dX9_chargeOf_40 rfl rfl ?_
    refine f_iconst (M := mX9_chargeOf) 42 dX9_chargeOf_41 ki_3 rfl ?_
    refine e_idiv (M := mX9_chargeOf) dX9_chargeOf_42 (by decide) ?_
    rw [show Int32.ofNat m / 3 = Int32.ofNat (m / 3) from ix_div (m := m) (k := 3) (by omega) (by omega) rfl kn_3]
    refine e_cV (M := mX9_chargeOf) [_, _, _] 0 0 dX9_chargeOf_43 pa_9246 pb_9246 cc_9246 rfl rfl rfl rfl rfl (x_kk rfl) (x_kk rfl) rfl (c_X9_rateOf hR (by omega) (by omega)) rfl ?_
    refine f_i2l (M := mX9_chargeOf) 47 dX9_chargeOf_46 rfl ?_
    refine f_lmul (M := mX9_chargeOf) 48 dX9_chargeOf_47 rfl ?_
    refine f_aload_n (M := mX9_chargeOf) 49 dX9_chargeOf_48 rfl rfl ?_
    refine e_getL (M := mX9_chargeOf) dX9_chargeOf_49 fl_9272 (x_kk rfl) (x_kk rfl) rfl ?_
    refine f_lmul (M := mX9_chargeOf) 53 dX9_chargeOf_52 rfl ?_
    refine f_ldc2 (M := mX9_chargeOf) 56 dX9_chargeOf_53 (x_kk rfl) csl_9091 rfl ?_
    refine f_aload_n (M := mX9_chargeOf) 57 dX9_chargeOf_56 rfl rfl ?_
    refine e_getL (M := mX9_chargeOf) dX9_chargeOf_57 fl_9269 (x_kk rfl) (x_kk rfl) rfl ?_
    refine f_lmul (M := mX9_chargeOf) 61 dX9_chargeOf_60 rfl ?_
    refine e_ldiv (M := mX9_chargeOf) dX9_chargeOf_61 hB ?_
    refine f_ladd (M := mX9_chargeOf) 63 dX9_chargeOf_62 rfl ?_
    refine f_lstore_n (M := mX9_chargeOf) (ls' := [_, _, _, _, _, _, _]) 64 dX9_chargeOf_63 rfl rfl rfl ?_
    refine f_iinc (M := mX9_chargeOf) (ls' := [_, _, _, _, _, _, _]) 67 dX9_chargeOf_64 ki_1 rfl rfl rfl rfl ?_
    refine f_goto (M := mX9_chargeOf) 9 dX9_chargeOf_67 rfl ?_
    rw [n_inc (s := k), facF_17, facF_18]; exact ih (k + 1) (by omega)
theorem c_X9_chargeOf (hR : x_wf R) {Nl : Nat} (hNl : Nl ≤ 60) (hl : I 226 14 = Int32.ofNat Nl) {Ns : Nat} (hNs : Ns ≤ 6) (hn : I 226 8 = Int32.ofNat Ns) (hB : ¬ 10 * sp_fB (I 226) Nl = 0) {m : Nat} (hm : m < 36) : x_Cv X mX9_chargeOf [.ref 225, .int (Int32.ofNat m)] (I, L, R) 233 (.inl (some (.long (sp_chg (I 226) m Nl Ns))), (I, x_facF L (I 226) Nl, R), 233) := by
  show x_Ev X mX9_chargeOf 0 [some (.ref 225), some (.int (Int32.ofNat m)), none, none, none, none, none] [] ((I, L, R), 233, 0, 0) _
  refine f_aload_n (M := mX9_chargeOf) 1 dX9_chargeOf_0 rfl rfl ?_
  refine e_cV (M := mX9_chargeOf) [] 0 0 dX9_chargeOf_1 pa_9275 pb_9275 cc_9275 rfl rfl rfl rfl rfl (x_kk rfl) (x_kk rfl) rfl (c_X9_laysFactor hR hNl hl) rfl ?_
  refine f_lconst (M := mX9_chargeOf) 5 dX9_chargeOf_4 kl_0 rfl ?_
  refine f_lstore_n (M := mX9_chargeOf) (ls' := [_, _, _, _, _, _, _]) 6 dX9_chargeOf_5 rfl rfl rfl ?_
  refine f_iconst (M := mX9_chargeOf) 7 dX9_chargeOf_6 ki_0 rfl ?_
  refine f_istore (M := mX9_chargeOf) (ls' := [_, _, _, _, _, _, _]) 9 dX9_chargeOf_7 rfl rfl rfl ?_
  exact l_X9_chargeOf hR hNl hl hNs hn hB hm Ns 0 (by omega)
end

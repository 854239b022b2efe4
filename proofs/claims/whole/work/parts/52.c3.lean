/-! ===== the class: loads, contract, charges (laid by wip/whole/src/c3.py) ===== -/
section
variable {X : x_X} {I : Nat → Nat → Int32} {L : Nat → Nat → Int64} {R : Nat → Nat → Option Nat}
abbrev cv_cnt (I : Nat → Nat → Int32) (β : Nat) (σ f t : Int32) (k : Nat) : Prop := (σ = -1 ∨ I (β + 18) k = σ) ∧ f ≤ I (β + 19) k ∧ I (β + 19) k < t
def cv_net (I : Nat → Nat → Int32) (β : Nat) (σ f t : Int32) (k : Nat) : Int32 := if cv_cnt I β σ f t k then I (β + 20) k else 0
def cv_nets (I : Nat → Nat → Int32) (β : Nat) (σ f t : Int32) (n : Nat) : Int32 := x_sum32 (cv_net I β σ f t) n
theorem cv_nets_1 {β : Nat} {σ f t : Int32} {k : Nat} (h : cv_cnt I β σ f t k) : cv_nets I β σ f t (k + 1) = cv_nets I β σ f t k + I (β + 20) k := by
  show cv_nets I β σ f t k + cv_net I β σ f t k = _
  unfold cv_net
  rw [if_pos h]
theorem cv_nets_0 {β : Nat} {σ f t : Int32} {k : Nat} (h : ¬ cv_cnt I β σ f t k) : cv_nets I β σ f t (k + 1) = cv_nets I β σ f t k := by
  show cv_nets I β σ f t k + cv_net I β σ f t k = _
  unfold cv_net
  rw [if_neg h, Int32.add_zero]
theorem l_X4_netSum (hR : x_wf R) {β : Nat} (hβ : x_sl β) {Nl : Nat} (hNl : Nl ≤ 60) (hl : I (β + 17) 0 = Int32.ofNat Nl) {σ f t : Int32} {w : Option Value} : ∀ d k, k + d = Nl → x_Ev X mX4_netSum 6 [some (.ref (β + 17)), some (.int σ), some (.int f), some (.int t), some (.int (cv_nets I β σ f t k)), some (.int (Int32.ofNat k)), w] [] ((I, L, R), 233, 0, 0) (.inl (some (.int (cv_nets I β σ f t Nl))), (I, L, R), 233) := by
  intro d
  induction d generalizing w with
  | zero =>
    intro k hd
    obtain rfl : Nl = k := by omega
    refine f_iload (M := mX4_netSum) 8 dX4_netSum_6 rfl rfl ?_
    refine f_aload_n (M := mX4_netSum) 9 dX4_netSum_8 rfl rfl ?_
    refine e_getI (M := mX4_netSum) dX4_netSum_9 fl_4024 (x_kk rfl) (sl_lt hβ 17 rfl) (sl_s hβ 17 rfl rfl) ?_
    refine e_icmp_geT (M := mX4_netSum) 83 dX4_netSum_12 rfl (by rw [hl]; exact Int32.le_refl _) ?_
    refine f_iload (M := mX4_netSum) 85 dX4_netSum_83 rfl rfl ?_
    refine e_ri (M := mX4_netSum) dX4_netSum_85 rfl (x_kk rfl) (x_kk rfl) ?_
    rfl
  | succ d ih =>
    intro k hd
    refine f_iload (M := mX4_netSum) 8 dX4_netSum_6 rfl rfl ?_
    refine f_aload_n (M := mX4_netSum) 9 dX4_netSum_8 rfl rfl ?_
    refine e_getI (M := mX4_netSum) dX4_netSum_9 fl_4024 (x_kk rfl) (sl_lt hβ 17 rfl) (sl_s hβ 17 rfl rfl) ?_
    refine e_icmp_geF (M := mX4_netSum) 83 dX4_netSum_12 rfl (by rw [hl, n_le (by omega) (by omega)]; omega) ?_
    refine f_iload_n (M := mX4_netSum) 16 dX4_netSum_15 rfl rfl ?_
    refine f_iconst (M := mX4_netSum) 17 dX4_netSum_16 ki_m1 rfl ?_
    refine e_icmp_eq (M := mX4_netSum) (t := 31) dX4_netSum_17 rfl (fun h1 => ?_) (fun h1 => ?_)
    · refine f_iconst (M := mX4_netSum) 32 dX4_netSum_31 ki_1 rfl ?_
      refine f_goto (M := mX4_netSum) 36 dX4_netSum_32 rfl ?_
      refine f_istore (M := mX4_netSum) (ls' := [_, _, _, _, _, _, _]) 38 dX4_netSum_36 rfl rfl rfl ?_
      refine f_iload (M := mX4_netSum) 40 dX4_netSum_38 rfl rfl ?_
      refine e_if_eqF (M := mX4_netSum) 77 dX4_netSum_40 rfl (by decide) ?_
      refine f_aload_n (M := mX4_netSum) 44 dX4_netSum_43 rfl rfl ?_
      refine e_getR (M := mX4_netSum) dX4_netSum_44 fl_4015 (x_kk rfl) (sl_lt hβ 17 rfl) (sl_s hβ 17 rfl rfl) (wf_4_4 hR hβ) ?_
      refine f_iload (M := mX4_netSum) 49 dX4_netSum_47 rfl rfl ?_
      refine e_ild (M := mX4_netSum) (w := 60) (j := k) dX4_netSum_49 (sl_lt hβ 19 rfl) (sl_shp hβ 19 rfl) rfl (by omega) (by omega) ?_
      refine f_iload_n (M := mX4_netSum) 51 dX4_netSum_50 rfl rfl ?_
      refine e_icmp_lt (M := mX4_netSum) (t := 77) dX4_netSum_51 rfl (fun h3 => ?_) (fun h3 => ?_)
      · refine f_iinc (M := mX4_netSum) (ls' := [_, _, _, _, _, _, _]) 80 dX4_netSum_77 ki_1 rfl rfl rfl rfl ?_
        refine f_goto (M := mX4_netSum) 6 dX4_netSum_80 rfl ?_
        rw [n_inc (s := k)]; have ih1 := fun w => ih (w := w) (k + 1) (by omega); rw [show cv_nets I β σ f t (k + 1) = _ from cv_nets_0 (fun z => absurd z.2.1 (i_nle.mpr h3))] at ih1; exact ih1 _
      · refine f_aload_n (M := mX4_netSum) 55 dX4_netSum_54 rfl rfl ?_
        refine e_getR (M := mX4_netSum) dX4_netSum_55 fl_4015 (x_kk rfl) (sl_lt hβ 17 rfl) (sl_s hβ 17 rfl rfl) (wf_4_4 hR hβ) ?_
        refine f_iload (M := mX4_netSum) 60 dX4_netSum_58 rfl rfl ?_
        refine e_ild (M := mX4_netSum) (w := 60) (j := k) dX4_netSum_60 (sl_lt hβ 19 rfl) (sl_shp hβ 19 rfl) rfl (by omega) (by omega) ?_
        refine f_iload_n (M := mX4_netSum) 62 dX4_netSum_61 rfl rfl ?_
        refine e_icmp_ge (M := mX4_netSum) (t := 77) dX4_netSum_62 rfl (fun h4 => ?_) (fun h4 => ?_)
        · refine f_iinc (M := mX4_netSum) (ls' := [_, _, _, _, _, _, _]) 80 dX4_netSum_77 ki_1 rfl rfl rfl rfl ?_
          refine f_goto (M := mX4_netSum) 6 dX4_netSum_80 rfl ?_
          rw [n_inc (s := k)]; have ih1 := fun w => ih (w := w) (k + 1) (by omega); rw [show cv_nets I β σ f t (k + 1) = _ from cv_nets_0 (fun z => absurd z.2.2 (i_nlt.mpr h4))] at ih1; exact ih1 _
        · refine f_iload (M := mX4_netSum) 67 dX4_netSum_65 rfl rfl ?_
          refine f_aload_n (M := mX4_netSum) 68 dX4_netSum_67 rfl rfl ?_
          refine e_getR (M := mX4_netSum) dX4_netSum_68 fl_4018 (x_kk rfl) (sl_lt hβ 17 rfl) (sl_s hβ 17 rfl rfl) (wf_4_5 hR hβ) ?_
          refine f_iload (M := mX4_netSum) 73 dX4_netSum_71 rfl rfl ?_
          refine e_ild (M := mX4_netSum) (w := 60) (j := k) dX4_netSum_73 (sl_lt hβ 20 rfl) (sl_shp hβ 20 rfl) rfl (by omega) (by omega) ?_
          refine f_iadd (M := mX4_netSum) 75 dX4_netSum_74 rfl ?_
          refine f_istore (M := mX4_netSum) (ls' := [_, _, _, _, _, _, _]) 77 dX4_netSum_75 rfl rfl rfl ?_
          refine f_iinc (M := mX4_netSum) (ls' := [_, _, _, _, _, _, _]) 80 dX4_netSum_77 ki_1 rfl rfl rfl rfl ?_
          refine f_goto (M := mX4_netSum) 6 dX4_netSum_80 rfl ?_
          rw [n_inc (s := k)]; have ih1 := fun w => ih (w := w) (k + 1) (by omega); rw [show cv_nets I β σ f t (k + 1) = _ from cv_nets_1 ⟨Or.inl h1, i_nlt.mp h3, i_nle.mp h4⟩] at ih1; exact ih1 _
    · refine f_aload_n (M := mX4_netSum) 21 dX4_netSum_20 rfl rfl ?_
      refine e_getR (M := mX4_netSum) dX4_netSum_21 fl_4009 (x_kk rfl) (sl_lt hβ 17 rfl) (sl_s hβ 17 rfl rfl) (wf_4_3 hR hβ) ?_
      refine f_iload (M := mX4_netSum) 26 dX4_netSum_24 rfl rfl ?_
      refine e_ild (M := mX4_netSum) (w := 60) (j := k) dX4_netSum_26 (sl_lt hβ 18 rfl) (sl_shp hβ 18 rfl) rfl (by omega) (by omega) ?_
      refine f_iload_n (M := mX4_netSum) 28 dX4_netSum_27 rfl rfl ?_
      refine e_icmp_ne (M := mX4_netSum) (t := 35) dX4_netSum_28 rfl (fun h2 => ?_) (fun h2 => ?_)
      · refine f_iconst (M := mX4_netSum) 36 dX4_netSum_35 ki_0 rfl ?_
        refine f_istore (M := mX4_netSum) (ls' := [_, _, _, _, _, _, _]) 38 dX4_netSum_36 rfl rfl rfl ?_
        refine f_iload (M := mX4_netSum) 40 dX4_netSum_38 rfl rfl ?_
        refine e_if_eqT (M := mX4_netSum) 77 dX4_netSum_40 rfl rfl ?_
        refine f_iinc (M := mX4_netSum) (ls' := [_, _, _, _, _, _, _]) 80 dX4_netSum_77 ki_1 rfl rfl rfl rfl ?_
        refine f_goto (M := mX4_netSum) 6 dX4_netSum_80 rfl ?_
        rw [n_inc (s := k)]; have ih1 := fun w => ih (w := w) (k + 1) (by omega); rw [show cv_nets I β σ f t (k + 1) = _ from cv_nets_0 (fun z => z.1.elim h1 h2)] at ih1; exact ih1 _
      · refine f_iconst (M := mX4_netSum) 32 dX4_netSum_31 ki_1 rfl ?_
        refine f_goto (M := mX4_netSum) 36 dX4_netSum_32 rfl ?_
        refine f_istore (M := mX4_netSum) (ls' := [_, _, _, _, _, _, _]) 38 dX4_netSum_36 rfl rfl rfl ?_
        refine f_iload (M := mX4_netSum) 40 dX4_netSum_38 rfl rfl ?_
        refine e_if_eqF (M := mX4_netSum) 77 dX4_netSum_40 rfl (by decide) ?_
        refine f_aload_n (M := mX4_netSum) 44 dX4_netSum_43 rfl rfl ?_
        refine e_getR (M := mX4_netSum) dX4_netSum_44 fl_4015 (x_kk rfl) (sl_lt hβ 17 rfl) (sl_s hβ 17 rfl rfl) (wf_4_4 hR hβ) ?_
        refine f_iload (M := mX4_netSum) 49 dX4_netSum_47 rfl rfl ?_
        refine e_ild (M := mX4_netSum) (w := 60) (j := k) dX4_netSum_49 (sl_lt hβ 19 rfl) (sl_shp hβ 19 rfl) rfl (by omega) (by omega) ?_
        refine f_iload_n (M := mX4_netSum) 51 dX4_netSum_50 rfl rfl ?_
        refine e_icmp_lt (M := mX4_netSum) (t := 77) dX4_netSum_51 rfl (fun h3 => ?_) (fun h3 => ?_)
        · refine f_iinc (M := mX4_netSum) (ls' := [_, _, _, _, _, _, _]) 80 dX4_netSum_77 ki_1 rfl rfl rfl rfl ?_
          refine f_goto (M := mX4_netSum) 6 dX4_netSum_80 rfl ?_
          rw [n_inc (s := k)]; have ih1 := fun w => ih (w := w) (k + 1) (by omega); rw [show cv_nets I β σ f t (k + 1) = _ from cv_nets_0 (fun z => absurd z.2.1 (i_nle.mpr h3))] at ih1; exact ih1 _
        · refine f_aload_n (M := mX4_netSum) 55 dX4_netSum_54 rfl rfl ?_
          refine e_getR (M := mX4_netSum) dX4_netSum_55 fl_4015 (x_kk rfl) (sl_lt hβ 17 rfl) (sl_s hβ 17 rfl rfl) (wf_4_4 hR hβ) ?_
          refine f_iload (M := mX4_netSum) 60 dX4_netSum_58 rfl rfl ?_
          refine e_ild (M := mX4_netSum) (w := 60) (j := k) dX4_netSum_60 (sl_lt hβ 19 rfl) (sl_shp hβ 19 rfl) rfl (by omega) (by omega) ?_
          refine f_iload_n (M := mX4_netSum) 62 dX4_netSum_61 rfl rfl ?_
          refine e_icmp_ge (M := mX4_netSum) (t := 77) dX4_netSum_62 rfl (fun h4 => ?_) (fun h4 => ?_)
          · refine f_iinc (M := mX4_netSum) (ls' := [_, _, _, _, _, _, _]) 80 dX4_netSum_77 ki_1 rfl rfl rfl rfl ?_
            refine f_goto (M := mX4_netSum) 6 dX4_netSum_80 rfl ?_
            rw [n_inc (s := k)]; have ih1 := fun w => ih (w := w) (k + 1) (by omega); rw [show cv_nets I β σ f t (k + 1) = _ from cv_nets_0 (fun z => absurd z.2.2 (i_nlt.mpr h4))] at ih1; exact ih1 _
          · refine f_iload (M := mX4_netSum) 67 dX4_netSum_65 rfl rfl ?_
            refine f_aload_n (M := mX4_netSum) 68 dX4_netSum_67 rfl rfl ?_
            refine e_getR (M := mX4_netSum) dX4_netSum_68 fl_4018 (x_kk rfl) (sl_lt hβ 17 rfl) (sl_s hβ 17 rfl rfl) (wf_4_5 hR hβ) ?_
            refine f_iload (M := mX4_netSum) 73 dX4_netSum_71 rfl rfl ?_
            refine e_ild (M := mX4_netSum) (w := 60) (j := k) dX4_netSum_73 (sl_lt hβ 20 rfl) (sl_shp hβ 20 rfl) rfl (by omega) (by omega) ?_
            refine f_iadd (M := mX4_netSum) 75 dX4_netSum_74 rfl ?_
            refine f_istore (M := mX4_netSum) (ls' := [_, _, _, _, _, _, _]) 77 dX4_netSum_75 rfl rfl rfl ?_
            refine f_iinc (M := mX4_netSum) (ls' := [_, _, _, _, _, _, _]) 80 dX4_netSum_77 ki_1 rfl rfl rfl rfl ?_
            refine f_goto (M := mX4_netSum) 6 dX4_netSum_80 rfl ?_
            rw [n_inc (s := k)]; have ih1 := fun w => ih (w := w) (k + 1) (by omega); rw [show cv_nets I β σ f t (k + 1) = _ from cv_nets_1 ⟨Or.inr (x_dn h2), i_nlt.mp h3, i_nle.mp h4⟩] at ih1; exact ih1 _
theorem c_X4_netSum (hR : x_wf R) {β : Nat} (hβ : x_sl β) {Nl : Nat} (hNl : Nl ≤ 60) (hl : I (β + 17) 0 = Int32.ofNat Nl) {σ f t : Int32} : x_Cv X mX4_netSum [.ref (β + 17), .int σ, .int f, .int t] (I, L, R) 233 (.inl (some (.int (cv_nets I β σ f t Nl))), (I, L, R), 233) := by
  show x_Ev X mX4_netSum 0 [some (.ref (β + 17)), some (.int σ), some (.int f), some (.int t), none, none, none] [] ((I, L, R), 233, 0, 0) _
  refine f_iconst (M := mX4_netSum) 1 dX4_netSum_0 ki_0 rfl ?_
  refine f_istore (M := mX4_netSum) (ls' := [_, _, _, _, _, _, _]) 3 dX4_netSum_1 rfl rfl rfl ?_
  refine f_iconst (M := mX4_netSum) 4 dX4_netSum_3 ki_0 rfl ?_
  refine f_istore (M := mX4_netSum) (ls' := [_, _, _, _, _, _, _]) 6 dX4_netSum_4 rfl rfl rfl ?_
  exact l_X4_netSum hR hβ hNl hl Nl 0 (by omega)
def x_pr : Nat → Int32
  | 0 => -1
  | m + 1 => Int32.ofNat m
theorem n_dec {m : Nat} : Int32.ofNat m + -1 = x_pr m := by
  cases m with
  | zero => decide
  | succ j =>
    show Int32.ofNat (j + 1) + -1 = Int32.ofNat j
    rw [Int32.ofNat_add]
    rw [Int32.add_assoc, show (Int32.ofNat 1 + -1 : Int32) = 0 from by decide, Int32.add_zero]
theorem n_nneg {m : Nat} (h : m < 1000000000) : ¬ Int32.ofNat m < 0 := by
  rw [kn_0, n_lt h (by omega)]; omega
def cv_idx (x b : Nat → Int32) (s : Nat) : Nat → Int32
  | 0 => b s
  | n + 1 => if x (s * 12 + n) ≤ 0 then cv_idx x b s n else x (s * 12 + n)
theorem l_X1_indexIn (hR : x_wf R) {β : Nat} (hβ : x_sl β) {s : Nat} (hs : s < 6) {Q : Int32} : ∀ (n : Nat) (w : Option Value), n ≤ 12 → x_Ev X mX1_indexIn 3 [some (.ref (β + 12)), some (.int (Int32.ofNat s)), some (.int Q), some (.ref (β + 1)), some (.int (x_pr n)), w] [] ((I, L, R), 233, 0, 0) (.inl (some (.int (cv_idx (I (β + 15)) (I (β + 4)) s n))), (I, L, R), 233) := by
  intro n
  induction n with
  | zero =>
    intro w hq
    refine f_iload (M := mX1_indexIn) 5 dX1_indexIn_3 rfl rfl ?_
    refine e_if_ltT (M := mX1_indexIn) 36 dX1_indexIn_5 rfl (by decide) ?_
    refine f_aload_n (M := mX1_indexIn) 37 dX1_indexIn_36 rfl rfl ?_
    refine e_getR (M := mX1_indexIn) dX1_indexIn_37 fl_1058 (x_kk rfl) (sl_lt hβ 1 rfl) (sl_s hβ 1 rfl rfl) (wf_7_3 hR hβ) ?_
    refine f_iload_n (M := mX1_indexIn) 41 dX1_indexIn_40 rfl rfl ?_
    refine e_ild (M := mX1_indexIn) (w := 6) (j := s) dX1_indexIn_41 (sl_lt hβ 4 rfl) (sl_shp hβ 4 rfl) rfl (by omega) (by omega) ?_
    refine e_ri (M := mX1_indexIn) dX1_indexIn_42 rfl (x_kk rfl) (x_kk rfl) ?_
    rfl
  | succ m ih =>
    intro w hq
    refine f_iload (M := mX1_indexIn) 5 dX1_indexIn_3 rfl rfl ?_
    refine e_if_ltF (M := mX1_indexIn) 36 dX1_indexIn_5 rfl (n_nneg (by omega)) ?_
    refine f_aload_n (M := mX1_indexIn) 9 dX1_indexIn_8 rfl rfl ?_
    refine e_getR (M := mX1_indexIn) dX1_indexIn_9 fl_1018 (x_kk rfl) (sl_lt hβ 12 rfl) (sl_s hβ 12 rfl rfl) (wf_1_2 hR hβ) ?_
    refine f_iload_n (M := mX1_indexIn) 13 dX1_indexIn_12 rfl rfl ?_
    refine f_bipush (M := mX1_indexIn) 15 dX1_indexIn_13 kb_12 rfl ?_
    refine f_imul (M := mX1_indexIn) 16 dX1_indexIn_15 rfl ?_
    refine f_iload (M := mX1_indexIn) 18 dX1_indexIn_16 rfl rfl ?_
    refine f_iadd (M := mX1_indexIn) 19 dX1_indexIn_18 rfl ?_
    refine e_ild (M := mX1_indexIn) (w := 72) (j := ((s) * (12)) + (m)) dX1_indexIn_19 (sl_lt hβ 15 rfl) (sl_shp hβ 15 rfl) (ix_add (ix_mul rfl kn_12) rfl) (by omega) (by omega) ?_
    refine f_istore (M := mX1_indexIn) (ls' := [_, _, _, _, _, _]) 22 dX1_indexIn_20 rfl rfl rfl ?_
    refine f_iload (M := mX1_indexIn) 24 dX1_indexIn_22 rfl rfl ?_
    refine e_if_le (M := mX1_indexIn) (t := 30) dX1_indexIn_24 rfl (fun h1 => ?_) (fun h1 => ?_)
    · refine f_iinc (M := mX1_indexIn) (ls' := [_, _, _, _, _, _]) 33 dX1_indexIn_30 ki_m1 rfl rfl rfl rfl ?_
      refine f_goto (M := mX1_indexIn) 3 dX1_indexIn_33 rfl ?_
      show x_Ev X mX1_indexIn 3 [_, _, _, _, some (.int (Int32.ofNat m + -1)), _] _ _ _; rw [n_dec]; rw [show cv_idx (I (β + 15)) (I (β + 4)) s (m + 1) = _ from if_pos h1]; exact ih _ (by omega)
    · refine f_iload (M := mX1_indexIn) 29 dX1_indexIn_27 rfl rfl ?_
      refine e_ri (M := mX1_indexIn) dX1_indexIn_29 rfl (x_kk rfl) (x_kk rfl) ?_
      exact r_i (if_neg h1).symm
theorem c_X1_indexIn (hR : x_wf R) {β : Nat} (hβ : x_sl β) {s : Nat} (hs : s < 6) {Q : Nat} (hQ : Q < 12) : x_Cv X mX1_indexIn [.ref (β + 12), .int (Int32.ofNat s), .int (Int32.ofNat Q), .ref (β + 1)] (I, L, R) 233 (.inl (some (.int (cv_idx (I (β + 15)) (I (β + 4)) s (Q + 1)))), (I, L, R), 233) := by
  show x_Ev X mX1_indexIn 0 [some (.ref (β + 12)), some (.int (Int32.ofNat s)), some (.int (Int32.ofNat Q)), some (.ref (β + 1)), none, none] [] ((I, L, R), 233, 0, 0) _
  refine f_iload_n (M := mX1_indexIn) 1 dX1_indexIn_0 rfl rfl ?_
  refine f_istore (M := mX1_indexIn) (ls' := [_, _, _, _, _, _]) 3 dX1_indexIn_1 rfl rfl rfl ?_
  exact l_X1_indexIn hR hβ hs (Q + 1) none (by omega)
def cv_adj (I : Nat → Nat → Int32) (β s : Nat) (i : Int32) : Int32 := I (β + 14) s + x_fdiv ((i - I (β + 4) s) * I (β + 2) 3) 100
def cv_rate (I : Nat → Nat → Int32) (β s q : Nat) : Int32 := if cv_adj I β s (cv_idx (I (β + 15)) (I (β + 4)) s (q + 1)) < I (β + 3) s then I (β + 3) s else cv_adj I β s (cv_idx (I (β + 15)) (I (β + 4)) s (q + 1))
theorem c_X1_adjustedRate (hR : x_wf R) {β : Nat} (hβ : x_sl β) {s : Nat} (hs : s < 6) {Q : Nat} (hQ : Q < 12) : x_Cv X mX1_adjustedRate [.ref (β + 12), .int (Int32.ofNat s), .int (Int32.ofNat Q), .ref (β + 1)] (I, L, R) 233 (.inl (some (.int (cv_rate I β s Q))), (I, L, R), 233) := by
  show x_Ev X mX1_adjustedRate 0 [some (.ref (β + 12)), some (.int (Int32.ofNat s)), some (.int (Int32.ofNat Q)), some (.ref (β + 1)), none, none] [] ((I, L, R), 233, 0, 0) _
  refine f_aload_n (M := mX1_adjustedRate) 1 dX1_adjustedRate_0 rfl rfl ?_
  refine f_iload_n (M := mX1_adjustedRate) 2 dX1_adjustedRate_1 rfl rfl ?_
  refine f_iload_n (M := mX1_adjustedRate) 3 dX1_adjustedRate_2 rfl rfl ?_
  refine f_aload_n (M := mX1_adjustedRate) 4 dX1_adjustedRate_3 rfl rfl ?_
  refine e_cV (M := mX1_adjustedRate) [_] 0 0 dX1_adjustedRate_4 pa_1063 pb_1063 cc_1063 rfl rfl rfl rfl rfl (x_kk rfl) (x_kk rfl) (x_rcvOK (sl_lt hβ 12 rfl) (sl_s hβ 12 rfl rfl) rfl) (c_X1_indexIn hR hβ hs hQ) rfl ?_
  refine f_aload_n (M := mX1_adjustedRate) 8 dX1_adjustedRate_7 rfl rfl ?_
  refine e_getR (M := mX1_adjustedRate) dX1_adjustedRate_8 fl_1058 (x_kk rfl) (sl_lt hβ 1 rfl) (sl_s hβ 1 rfl rfl) (wf_7_3 hR hβ) ?_
  refine f_iload_n (M := mX1_adjustedRate) 12 dX1_adjustedRate_11 rfl rfl ?_
  refine e_ild (M := mX1_adjustedRate) (w := 6) (j := s) dX1_adjustedRate_12 (sl_lt hβ 4 rfl) (sl_shp hβ 4 rfl) rfl (by omega) (by omega) ?_
  refine f_isub (M := mX1_adjustedRate) 14 dX1_adjustedRate_13 rfl ?_
  refine f_istore (M := mX1_adjustedRate) (ls' := [_, _, _, _, _, _]) 16 dX1_adjustedRate_14 rfl rfl rfl ?_
  refine f_iload (M := mX1_adjustedRate) 18 dX1_adjustedRate_16 rfl rfl ?_
  refine f_aload_n (M := mX1_adjustedRate) 19 dX1_adjustedRate_18 rfl rfl ?_
  refine e_getR (M := mX1_adjustedRate) dX1_adjustedRate_19 fl_1067 (x_kk rfl) (sl_lt hβ 1 rfl) (sl_s hβ 1 rfl rfl) (wf_7_1 hR hβ) ?_
  refine f_iconst (M := mX1_adjustedRate) 23 dX1_adjustedRate_22 ki_3 rfl ?_
  refine e_ild (M := mX1_adjustedRate) (w := 7) (j := 3) dX1_adjustedRate_23 (sl_lt hβ 2 rfl) (sl_shp hβ 2 rfl) kn_3 (by omega) (by omega) ?_
  refine f_imul (M := mX1_adjustedRate) 25 dX1_adjustedRate_24 rfl ?_
  refine f_bipush (M := mX1_adjustedRate) 27 dX1_adjustedRate_25 kb_100 rfl ?_
  refine e_cS (M := mX1_adjustedRate) [_] 0 0 dX1_adjustedRate_27 pa_1070 cc_1070 rfl rfl rfl rfl rfl (x_kk rfl) (x_kk rfl) rfl (c_J9_floorDiv_7cf53 (by decide)) rfl ?_
  refine f_istore (M := mX1_adjustedRate) (ls' := [_, _, _, _, _, _]) 32 dX1_adjustedRate_30 rfl rfl rfl ?_
  refine f_aload_n (M := mX1_adjustedRate) 33 dX1_adjustedRate_32 rfl rfl ?_
  refine e_getR (M := mX1_adjustedRate) dX1_adjustedRate_33 fl_1015 (x_kk rfl) (sl_lt hβ 12 rfl) (sl_s hβ 12 rfl rfl) (wf_1_1 hR hβ) ?_
  refine f_iload_n (M := mX1_adjustedRate) 37 dX1_adjustedRate_36 rfl rfl ?_
  refine e_ild (M := mX1_adjustedRate) (w := 6) (j := s) dX1_adjustedRate_37 (sl_lt hβ 14 rfl) (sl_shp hβ 14 rfl) rfl (by omega) (by omega) ?_
  refine f_iload (M := mX1_adjustedRate) 40 dX1_adjustedRate_38 rfl rfl ?_
  refine f_iadd (M := mX1_adjustedRate) 41 dX1_adjustedRate_40 rfl ?_
  refine f_aload_n (M := mX1_adjustedRate) 42 dX1_adjustedRate_41 rfl rfl ?_
  refine e_getR (M := mX1_adjustedRate) dX1_adjustedRate_42 fl_1076 (x_kk rfl) (sl_lt hβ 1 rfl) (sl_s hβ 1 rfl rfl) (wf_7_2 hR hβ) ?_
  refine f_iload_n (M := mX1_adjustedRate) 46 dX1_adjustedRate_45 rfl rfl ?_
  refine e_ild (M := mX1_adjustedRate) (w := 6) (j := s) dX1_adjustedRate_46 (sl_lt hβ 3 rfl) (sl_shp hβ 3 rfl) rfl (by omega) (by omega) ?_
  refine e_cS (M := mX1_adjustedRate) [_] 0 0 dX1_adjustedRate_47 pa_1079 cc_1079 rfl rfl rfl rfl rfl (x_kk rfl) (x_kk rfl) rfl (c_J9_max_7cf53) rfl ?_
  refine e_ri (M := mX1_adjustedRate) dX1_adjustedRate_50 rfl (x_kk rfl) (x_kk rfl) ?_
  rfl
abbrev cv_needs (I : Nat → Nat → Int32) (β : Nat) (t : Int32) : Prop := ¬ I (β + 17) 1 = 0 ∧ ¬ I (β + 17) 2 = 0 ∧ I (β + 17) 1 * t < (if 0 ≤ I (β + 17) 1 - I (β + 17) 2 then I (β + 17) 1 - I (β + 17) 2 else -(I (β + 17) 1 - I (β + 17) 2)) * 100
def cv_fC (I : Nat → Nat → Int32) (β : Nat) (t : Int32) : Int64 := if cv_needs I β t then (I (β + 17) 2).toInt64 else 1
def cv_fB (I : Nat → Nat → Int32) (β : Nat) (t : Int32) : Int64 := if cv_needs I β t then (I (β + 17) 1).toInt64 else 1
theorem c_X4_needsFactor (hR : x_wf R) {β : Nat} (hβ : x_sl β) {t : Int32} : x_Cv X mX4_needsFactor [.ref (β + 17), .int t] (I, L, R) 233 (.inl (some (.int (x_b (cv_needs I β t)))), (I, L, R), 233) := by
  show x_Ev X mX4_needsFactor 0 [some (.ref (β + 17)), some (.int t)] [] ((I, L, R), 233, 0, 0) _
  refine f_aload_n (M := mX4_needsFactor) 1 dX4_needsFactor_0 rfl rfl ?_
  refine e_getI (M := mX4_needsFactor) dX4_needsFactor_1 fl_4028 (x_kk rfl) (sl_lt hβ 17 rfl) (sl_s hβ 17 rfl rfl) ?_
  refine e_if_eq (M := mX4_needsFactor) (t := 42) dX4_needsFactor_4 rfl (fun h1 => ?_) (fun h1 => ?_)
  · refine f_iconst (M := mX4_needsFactor) 43 dX4_needsFactor_42 ki_0 rfl ?_
    refine e_rb (M := mX4_needsFactor) dX4_needsFactor_43 rfl (x_kk rfl) (x_kk rfl) (by decide) ?_
    exact r_b0 (fun z => z.1 h1)
  · refine f_aload_n (M := mX4_needsFactor) 8 dX4_needsFactor_7 rfl rfl ?_
    refine e_getI (M := mX4_needsFactor) dX4_needsFactor_8 fl_4031 (x_kk rfl) (sl_lt hβ 17 rfl) (sl_s hβ 17 rfl rfl) ?_
    refine e_if_eq (M := mX4_needsFactor) (t := 42) dX4_needsFactor_11 rfl (fun h2 => ?_) (fun h2 => ?_)
    · refine f_iconst (M := mX4_needsFactor) 43 dX4_needsFactor_42 ki_0 rfl ?_
      refine e_rb (M := mX4_needsFactor) dX4_needsFactor_43 rfl (x_kk rfl) (x_kk rfl) (by decide) ?_
      exact r_b0 (fun z => z.2.1 h2)
    · refine f_aload_n (M := mX4_needsFactor) 15 dX4_needsFactor_14 rfl rfl ?_
      refine e_getI (M := mX4_needsFactor) dX4_needsFactor_15 fl_4028 (x_kk rfl) (sl_lt hβ 17 rfl) (sl_s hβ 17 rfl rfl) ?_
      refine f_aload_n (M := mX4_needsFactor) 19 dX4_needsFactor_18 rfl rfl ?_
      refine e_getI (M := mX4_needsFactor) dX4_needsFactor_19 fl_4031 (x_kk rfl) (sl_lt hβ 17 rfl) (sl_s hβ 17 rfl rfl) ?_
      refine f_isub (M := mX4_needsFactor) 23 dX4_needsFactor_22 rfl ?_
      refine e_cS (M := mX4_needsFactor) [_] 0 0 dX4_needsFactor_23 pa_4056 cc_4056 rfl rfl rfl rfl rfl (x_kk rfl) (x_kk rfl) rfl (c_J9_abs_0f7a4) rfl ?_
      refine f_bipush (M := mX4_needsFactor) 28 dX4_needsFactor_26 kb_100 rfl ?_
      refine f_imul (M := mX4_needsFactor) 29 dX4_needsFactor_28 rfl ?_
      refine f_aload_n (M := mX4_needsFactor) 30 dX4_needsFactor_29 rfl rfl ?_
      refine e_getI (M := mX4_needsFactor) dX4_needsFactor_30 fl_4028 (x_kk rfl) (sl_lt hβ 17 rfl) (sl_s hβ 17 rfl rfl) ?_
      refine f_iload_n (M := mX4_needsFactor) 34 dX4_needsFactor_33 rfl rfl ?_
      refine f_imul (M := mX4_needsFactor) 35 dX4_needsFactor_34 rfl ?_
      refine e_icmp_le (M := mX4_needsFactor) (t := 42) dX4_needsFactor_35 rfl (fun h3 => ?_) (fun h3 => ?_)
      · refine f_iconst (M := mX4_needsFactor) 43 dX4_needsFactor_42 ki_0 rfl ?_
        refine e_rb (M := mX4_needsFactor) dX4_needsFactor_43 rfl (x_kk rfl) (x_kk rfl) (by decide) ?_
        exact r_b0 (fun z => absurd z.2.2 (i_nlt.mpr h3))
      · refine f_iconst (M := mX4_needsFactor) 39 dX4_needsFactor_38 ki_1 rfl ?_
        refine f_goto (M := mX4_needsFactor) 43 dX4_needsFactor_39 rfl ?_
        refine e_rb (M := mX4_needsFactor) dX4_needsFactor_43 rfl (x_kk rfl) (x_kk rfl) (by decide) ?_
        exact r_b1 ⟨h1, h2, i_nle.mp h3⟩
theorem c_X4_factorDividend (hR : x_wf R) {β : Nat} (hβ : x_sl β) {t : Int32} : x_Cv X mX4_factorDividend [.ref (β + 17), .int t] (I, L, R) 233 (.inl (some (.long (cv_fC I β t))), (I, L, R), 233) := by
  show x_Ev X mX4_factorDividend 0 [some (.ref (β + 17)), some (.int t)] [] ((I, L, R), 233, 0, 0) _
  refine f_aload_n (M := mX4_factorDividend) 1 dX4_factorDividend_0 rfl rfl ?_
  refine f_iload_n (M := mX4_factorDividend) 2 dX4_factorDividend_1 rfl rfl ?_
  refine e_cV (M := mX4_factorDividend) [_] 0 0 dX4_factorDividend_2 pa_4062 pb_4062 cc_4062 rfl rfl rfl rfl rfl (x_kk rfl) (x_kk rfl) (x_rcvOK (sl_lt hβ 17 rfl) (sl_s hβ 17 rfl rfl) rfl) (c_X4_needsFactor hR hβ) rfl ?_
  refine e_if_eq (M := mX4_factorDividend) (t := 16) dX4_factorDividend_5 rfl (fun h1 => ?_) (fun h1 => ?_)
  · refine f_lconst (M := mX4_factorDividend) 17 dX4_factorDividend_16 kl_1 rfl ?_
    refine e_rl (M := mX4_factorDividend) dX4_factorDividend_17 rfl (x_kk rfl) (x_kk rfl) ?_
    exact r_l (if_neg (x_bF h1)).symm
  · refine f_aload_n (M := mX4_factorDividend) 9 dX4_factorDividend_8 rfl rfl ?_
    refine e_getI (M := mX4_factorDividend) dX4_factorDividend_9 fl_4031 (x_kk rfl) (sl_lt hβ 17 rfl) (sl_s hβ 17 rfl rfl) ?_
    refine f_i2l (M := mX4_factorDividend) 13 dX4_factorDividend_12 rfl ?_
    refine f_goto (M := mX4_factorDividend) 17 dX4_factorDividend_13 rfl ?_
    refine e_rl (M := mX4_factorDividend) dX4_factorDividend_17 rfl (x_kk rfl) (x_kk rfl) ?_
    exact r_l (if_pos (x_bT h1)).symm
theorem c_X4_factorDivisor (hR : x_wf R) {β : Nat} (hβ : x_sl β) {t : Int32} : x_Cv X mX4_factorDivisor [.ref (β + 17), .int t] (I, L, R) 233 (.inl (some (.long (cv_fB I β t))), (I, L, R), 233) := by
  show x_Ev X mX4_factorDivisor 0 [some (.ref (β + 17)), some (.int t)] [] ((I, L, R), 233, 0, 0) _
  refine f_aload_n (M := mX4_factorDivisor) 1 dX4_factorDivisor_0 rfl rfl ?_
  refine f_iload_n (M := mX4_factorDivisor) 2 dX4_factorDivisor_1 rfl rfl ?_
  refine e_cV (M := mX4_factorDivisor) [_] 0 0 dX4_factorDivisor_2 pa_4062 pb_4062 cc_4062 rfl rfl rfl rfl rfl (x_kk rfl) (x_kk rfl) (x_rcvOK (sl_lt hβ 17 rfl) (sl_s hβ 17 rfl rfl) rfl) (c_X4_needsFactor hR hβ) rfl ?_
  refine e_if_eq (M := mX4_factorDivisor) (t := 16) dX4_factorDivisor_5 rfl (fun h1 => ?_) (fun h1 => ?_)
  · refine f_lconst (M := mX4_factorDivisor) 17 dX4_factorDivisor_16 kl_1 rfl ?_
    refine e_rl (M := mX4_factorDivisor) dX4_factorDivisor_17 rfl (x_kk rfl) (x_kk rfl) ?_
    exact r_l (if_neg (x_bF h1)).symm
  · refine f_aload_n (M := mX4_factorDivisor) 9 dX4_factorDivisor_8 rfl rfl ?_
    refine e_getI (M := mX4_factorDivisor) dX4_factorDivisor_9 fl_4028 (x_kk rfl) (sl_lt hβ 17 rfl) (sl_s hβ 17 rfl rfl) ?_
    refine f_i2l (M := mX4_factorDivisor) 13 dX4_factorDivisor_12 rfl ?_
    refine f_goto (M := mX4_factorDivisor) 17 dX4_factorDivisor_13 rfl ?_
    refine e_rl (M := mX4_factorDivisor) dX4_factorDivisor_17 rfl (x_kk rfl) (x_kk rfl) ?_
    exact r_l (if_pos (x_bT h1)).symm
def cv_rem (I : Nat → Nat → Int32) (β s n : Nat) : Int32 := if I (β + 13) s * 10 - cv_nets I β (Int32.ofNat s) 0 36 n ≤ 0 then 0 else (I (β + 13) s * 10 - cv_nets I β (Int32.ofNat s) 0 36 n) / 10
def cv_rems (I : Nat → Nat → Int32) (β n m : Nat) : Int32 := x_sum32 (fun s => cv_rem I β s n) m
theorem c_X6_remainingOf (hR : x_wf R) {β : Nat} (hβ : x_sl β) {Nl : Nat} (hNl : Nl ≤ 60) (hl : I (β + 17) 0 = Int32.ofNat Nl) {s : Nat} (hs : s < 6) : x_Cv X mX6_remainingOf [.ref β, .int (Int32.ofNat s)] (I, L, R) 233 (.inl (some (.int (cv_rem I β s Nl))), (I, L, R), 233) := by
  show x_Ev X mX6_remainingOf 0 [some (.ref β), some (.int (Int32.ofNat s)), none] [] ((I, L, R), 233, 0, 0) _
  refine f_aload_n (M := mX6_remainingOf) 1 dX6_remainingOf_0 rfl rfl ?_
  refine e_getR (M := mX6_remainingOf) dX6_remainingOf_1 fl_6035 (x_kk rfl) (sl_lt hβ 0 rfl) (sl_s hβ 0 rfl rfl) (wf_6_4 hR hβ) ?_
  refine e_getR (M := mX6_remainingOf) dX6_remainingOf_4 fl_6101 (x_kk rfl) (sl_lt hβ 12 rfl) (sl_s hβ 12 rfl rfl) (wf_1_0 hR hβ) ?_
  refine f_iload_n (M := mX6_remainingOf) 8 dX6_remainingOf_7 rfl rfl ?_
  refine e_ild (M := mX6_remainingOf) (w := 6) (j := s) dX6_remainingOf_8 (sl_lt hβ 13 rfl) (sl_shp hβ 13 rfl) rfl (by omega) (by omega) ?_
  refine f_bipush (M := mX6_remainingOf) 11 dX6_remainingOf_9 kb_10 rfl ?_
  refine f_imul (M := mX6_remainingOf) 12 dX6_remainingOf_11 rfl ?_
  refine f_aload_n (M := mX6_remainingOf) 13 dX6_remainingOf_12 rfl rfl ?_
  refine e_getR (M := mX6_remainingOf) dX6_remainingOf_13 fl_6042 (x_kk rfl) (sl_lt hβ 0 rfl) (sl_s hβ 0 rfl rfl) (wf_6_5 hR hβ) ?_
  refine f_iload_n (M := mX6_remainingOf) 17 dX6_remainingOf_16 rfl rfl ?_
  refine f_iconst (M := mX6_remainingOf) 18 dX6_remainingOf_17 ki_0 rfl ?_
  refine f_bipush (M := mX6_remainingOf) 20 dX6_remainingOf_18 kb_36 rfl ?_
  refine e_cV (M := mX6_remainingOf) [_, _] 0 0 dX6_remainingOf_20 pa_6123 pb_6123 cc_6123 rfl rfl rfl rfl rfl (x_kk rfl) (x_kk rfl) (x_rcvOK (sl_lt hβ 17 rfl) (sl_s hβ 17 rfl rfl) rfl) (c_X4_netSum (f := 0) (t := 36) hR hβ hNl hl) rfl ?_
  refine f_isub (M := mX6_remainingOf) 24 dX6_remainingOf_23 rfl ?_
  refine f_istore_n (M := mX6_remainingOf) (ls' := [_, _, _]) 25 dX6_remainingOf_24 rfl rfl rfl ?_
  refine f_iload_n (M := mX6_remainingOf) 26 dX6_remainingOf_25 rfl rfl ?_
  refine e_if_le (M := mX6_remainingOf) (t := 36) dX6_remainingOf_26 rfl (fun h1 => ?_) (fun h1 => ?_)
  · refine f_iconst (M := mX6_remainingOf) 37 dX6_remainingOf_36 ki_0 rfl ?_
    refine e_ri (M := mX6_remainingOf) dX6_remainingOf_37 rfl (x_kk rfl) (x_kk rfl) ?_
    exact r_i (by unfold cv_rem; rw [if_pos h1])
  · refine f_iload_n (M := mX6_remainingOf) 30 dX6_remainingOf_29 rfl rfl ?_
    refine f_bipush (M := mX6_remainingOf) 32 dX6_remainingOf_30 kb_10 rfl ?_
    refine e_idiv (M := mX6_remainingOf) dX6_remainingOf_32 (by decide) ?_
    refine f_goto (M := mX6_remainingOf) 37 dX6_remainingOf_33 rfl ?_
    refine e_ri (M := mX6_remainingOf) dX6_remainingOf_37 rfl (x_kk rfl) (x_kk rfl) ?_
    exact r_i (by unfold cv_rem; rw [if_neg h1])
theorem l_X6_remainingSum (hR : x_wf R) {β : Nat} (hβ : x_sl β) {Nl : Nat} (hNl : Nl ≤ 60) (hl : I (β + 17) 0 = Int32.ofNat Nl) {Ns : Nat} (hNs : Ns ≤ 6) (hn : I (β + 1) 0 = Int32.ofNat Ns) : ∀ d k, k + d = Ns → x_Ev X mX6_remainingSum 4 [some (.ref β), some (.int (cv_rems I β Nl k)), some (.int (Int32.ofNat k))] [] ((I, L, R), 233, 0, 0) (.inl (some (.int (cv_rems I β Nl Ns))), (I, L, R), 233) := by
  intro d
  induction d with
  | zero =>
    intro k hd
    obtain rfl : Ns = k := by omega
    refine f_iload_n (M := mX6_remainingSum) 5 dX6_remainingSum_4 rfl rfl ?_
    refine f_aload_n (M := mX6_remainingSum) 6 dX6_remainingSum_5 rfl rfl ?_
    refine e_getR (M := mX6_remainingSum) dX6_remainingSum_6 fl_6012 (x_kk rfl) (sl_lt hβ 0 rfl) (sl_s hβ 0 rfl rfl) (wf_6_1 hR hβ) ?_
    refine e_getI (M := mX6_remainingSum) dX6_remainingSum_9 fl_6077 (x_kk rfl) (sl_lt hβ 1 rfl) (sl_s hβ 1 rfl rfl) ?_
    refine e_icmp_geT (M := mX6_remainingSum) 29 dX6_remainingSum_12 rfl (by rw [hn]; exact Int32.le_refl _) ?_
    refine f_iload_n (M := mX6_remainingSum) 30 dX6_remainingSum_29 rfl rfl ?_
    refine e_ri (M := mX6_remainingSum) dX6_remainingSum_30 rfl (x_kk rfl) (x_kk rfl) ?_
    rfl
  | succ d ih =>
    intro k hd
    refine f_iload_n (M := mX6_remainingSum) 5 dX6_remainingSum_4 rfl rfl ?_
    refine f_aload_n (M := mX6_remainingSum) 6 dX6_remainingSum_5 rfl rfl ?_
    refine e_getR (M := mX6_remainingSum) dX6_remainingSum_6 fl_6012 (x_kk rfl) (sl_lt hβ 0 rfl) (sl_s hβ 0 rfl rfl) (wf_6_1 hR hβ) ?_
    refine e_getI (M := mX6_remainingSum) dX6_remainingSum_9 fl_6077 (x_kk rfl) (sl_lt hβ 1 rfl) (sl_s hβ 1 rfl rfl) ?_
    refine e_icmp_geF (M := mX6_remainingSum) 29 dX6_remainingSum_12 rfl (by rw [hn, n_le (by omega) (by omega)]; omega) ?_
    refine f_iload_n (M := mX6_remainingSum) 16 dX6_remainingSum_15 rfl rfl ?_
    refine f_aload_n (M := mX6_remainingSum) 17 dX6_remainingSum_16 rfl rfl ?_
    refine f_iload_n (M := mX6_remainingSum) 18 dX6_remainingSum_17 rfl rfl ?_
    refine e_cV (M := mX6_remainingSum) [_, _] 0 0 dX6_remainingSum_18 pa_6091 pb_6091 cc_6091 rfl rfl rfl rfl rfl (x_kk rfl) (x_kk rfl) (x_rcvOK (sl_lt hβ 0 rfl) (sl_s hβ 0 rfl rfl) rfl) (c_X6_remainingOf hR hβ hNl hl (by omega)) rfl ?_
    refine f_iadd (M := mX6_remainingSum) 22 dX6_remainingSum_21 rfl ?_
    refine f_istore_n (M := mX6_remainingSum) (ls' := [_, _, _]) 23 dX6_remainingSum_22 rfl rfl rfl ?_
    refine f_iinc (M := mX6_remainingSum) (ls' := [_, _, _]) 26 dX6_remainingSum_23 ki_1 rfl rfl rfl rfl ?_
    refine f_goto (M := mX6_remainingSum) 4 dX6_remainingSum_26 rfl ?_
    rw [n_inc (s := k)]; exact ih (k + 1) (by omega)
theorem c_X6_remainingSum (hR : x_wf R) {β : Nat} (hβ : x_sl β) {Nl : Nat} (hNl : Nl ≤ 60) (hl : I (β + 17) 0 = Int32.ofNat Nl) {Ns : Nat} (hNs : Ns ≤ 6) (hn : I (β + 1) 0 = Int32.ofNat Ns) : x_Cv X mX6_remainingSum [.ref β] (I, L, R) 233 (.inl (some (.int (cv_rems I β Nl Ns))), (I, L, R), 233) := by
  show x_Ev X mX6_remainingSum 0 [some (.ref β), none, none] [] ((I, L, R), 233, 0, 0) _
  refine f_iconst (M := mX6_remainingSum) 1 dX6_remainingSum_0 ki_0 rfl ?_
  refine f_istore_n (M := mX6_remainingSum) (ls' := [_, _, _]) 2 dX6_remainingSum_1 rfl rfl rfl ?_
  refine f_iconst (M := mX6_remainingSum) 3 dX6_remainingSum_2 ki_0 rfl ?_
  refine f_istore_n (M := mX6_remainingSum) (ls' := [_, _, _]) 4 dX6_remainingSum_3 rfl rfl rfl ?_
  exact l_X6_remainingSum hR hβ hNl hl hNs hn Ns 0 (by omega)
theorem c_X6_withInterest (hR : x_wf R) {β : Nat} (hβ : x_sl β) {v : Int64} : x_Cv X mX6_withInterest [.ref β, .long v] (I, L, R) 233 (.inl (some (.long (if v ≤ 0 then v else v + v * (I (β + 2) 5).toInt64 / 1000))), (I, L, R), 233) := by
  show x_Ev X mX6_withInterest 0 [some (.ref β), some (.long v), none] [] ((I, L, R), 233, 0, 0) _
  refine f_lload_n (M := mX6_withInterest) 1 dX6_withInterest_0 rfl rfl ?_
  refine f_lconst (M := mX6_withInterest) 2 dX6_withInterest_1 kl_0 rfl ?_
  refine f_lcmp (M := mX6_withInterest) 3 dX6_withInterest_2 rfl ?_
  refine e_if_le (M := mX6_withInterest) (t := 27) dX6_withInterest_3 rfl (fun h1 => ?_) (fun h1 => ?_)
  · refine f_lload_n (M := mX6_withInterest) 28 dX6_withInterest_27 rfl rfl ?_
    refine e_rl (M := mX6_withInterest) dX6_withInterest_28 rfl (x_kk rfl) (x_kk rfl) ?_
    exact r_l (if_pos (lc_le.mp h1)).symm
  · refine f_lload_n (M := mX6_withInterest) 7 dX6_withInterest_6 rfl rfl ?_
    refine f_lload_n (M := mX6_withInterest) 8 dX6_withInterest_7 rfl rfl ?_
    refine f_aload_n (M := mX6_withInterest) 9 dX6_withInterest_8 rfl rfl ?_
    refine e_getR (M := mX6_withInterest) dX6_withInterest_9 fl_6012 (x_kk rfl) (sl_lt hβ 0 rfl) (sl_s hβ 0 rfl rfl) (wf_6_1 hR hβ) ?_
    refine e_getR (M := mX6_withInterest) dX6_withInterest_12 fl_6084 (x_kk rfl) (sl_lt hβ 1 rfl) (sl_s hβ 1 rfl rfl) (wf_7_1 hR hβ) ?_
    refine f_iconst (M := mX6_withInterest) 16 dX6_withInterest_15 ki_5 rfl ?_
    refine e_ild (M := mX6_withInterest) (w := 7) (j := 5) dX6_withInterest_16 (sl_lt hβ 2 rfl) (sl_shp hβ 2 rfl) kn_5 (by omega) (by omega) ?_
    refine f_i2l (M := mX6_withInterest) 18 dX6_withInterest_17 rfl ?_
    refine f_lmul (M := mX6_withInterest) 19 dX6_withInterest_18 rfl ?_
    refine f_ldc2 (M := mX6_withInterest) 22 dX6_withInterest_19 (x_kk rfl) csl_6131 rfl ?_
    refine e_ldiv (M := mX6_withInterest) dX6_withInterest_22 (by decide) ?_
    refine f_ladd (M := mX6_withInterest) 24 dX6_withInterest_23 rfl ?_
    refine f_goto (M := mX6_withInterest) 28 dX6_withInterest_24 rfl ?_
    refine e_rl (M := mX6_withInterest) dX6_withInterest_28 rfl (x_kk rfl) (x_kk rfl) ?_
    exact r_l (if_neg (fun z => h1 (lc_le.mpr z))).symm
theorem c_X8_netVolume {g d : Int32} : x_Cv X mX8_netVolume [.int g, .int d] (I, L, R) 233 (.inl (some (.int ((g * (100 - d) + 50) / 100))), (I, L, R), 233) := by
  show x_Ev X mX8_netVolume 0 [some (.int g), some (.int d)] [] ((I, L, R), 233, 0, 0) _
  refine f_iload_n (M := mX8_netVolume) 1 dX8_netVolume_0 rfl rfl ?_
  refine f_bipush (M := mX8_netVolume) 3 dX8_netVolume_1 kb_100 rfl ?_
  refine f_iload_n (M := mX8_netVolume) 4 dX8_netVolume_3 rfl rfl ?_
  refine f_isub (M := mX8_netVolume) 5 dX8_netVolume_4 rfl ?_
  refine f_imul (M := mX8_netVolume) 6 dX8_netVolume_5 rfl ?_
  refine f_bipush (M := mX8_netVolume) 8 dX8_netVolume_6 kb_50 rfl ?_
  refine f_iadd (M := mX8_netVolume) 9 dX8_netVolume_8 rfl ?_
  refine f_bipush (M := mX8_netVolume) 11 dX8_netVolume_9 kb_100 rfl ?_
  refine e_idiv (M := mX8_netVolume) dX8_netVolume_11 (by decide) ?_
  refine e_ri (M := mX8_netVolume) dX8_netVolume_12 rfl (x_kk rfl) (x_kk rfl) ?_
  rfl
theorem c_X9_netOf {g d : Int32} : x_Cv X mX9_netOf [.int g, .int d] (I, L, R) 233 (.inl (some (.int ((g * (100 - d) + 50) / 100))), (I, L, R), 233) := by
  show x_Ev X mX9_netOf 0 [some (.int g), some (.int d)] [] ((I, L, R), 233, 0, 0) _
  refine f_iload_n (M := mX9_netOf) 1 dX9_netOf_0 rfl rfl ?_
  refine f_bipush (M := mX9_netOf) 3 dX9_netOf_1 kb_100 rfl ?_
  refine f_iload_n (M := mX9_netOf) 4 dX9_netOf_3 rfl rfl ?_
  refine f_isub (M := mX9_netOf) 5 dX9_netOf_4 rfl ?_
  refine f_imul (M := mX9_netOf) 6 dX9_netOf_5 rfl ?_
  refine f_bipush (M := mX9_netOf) 8 dX9_netOf_6 kb_50 rfl ?_
  refine f_iadd (M := mX9_netOf) 9 dX9_netOf_8 rfl ?_
  refine f_bipush (M := mX9_netOf) 11 dX9_netOf_9 kb_100 rfl ?_
  refine e_idiv (M := mX9_netOf) dX9_netOf_11 (by decide) ?_
  refine e_ri (M := mX9_netOf) dX9_netOf_12 rfl (x_kk rfl) (x_kk rfl) ?_
  rfl
def cv_chgAt (I : Nat → Nat → Int32) (β m n s : Nat) : Int64 := if (cv_nets I β (Int32.ofNat s) (Int32.ofNat m) (Int32.ofNat m + 1) n).toInt64 ≤ 0 then 0 else (cv_nets I β (Int32.ofNat s) (Int32.ofNat m) (Int32.ofNat m + 1) n).toInt64 * (cv_rate I β s (m / 3)).toInt64 * cv_fC I β (I (β + 2) 4) / (cv_fB I β (I (β + 2) 4) * 10)
def cv_chg (I : Nat → Nat → Int32) (β m n w : Nat) : Int64 := x_sum64 (cv_chgAt I β m n) w
theorem cv_chg_0 {β m n k : Nat} (h : (cv_nets I β (Int32.ofNat k) (Int32.ofNat m) (Int32.ofNat m + 1) n).toInt64 ≤ 0) : cv_chg I β m n (k + 1) = cv_chg I β m n k := by
  show cv_chg I β m n k + cv_chgAt I β m n k = _
  unfold cv_chgAt
  rw [if_pos h, Int64.add_zero]
theorem cv_chg_1 {β m n k : Nat} (h : ¬ (cv_nets I β (Int32.ofNat k) (Int32.ofNat m) (Int32.ofNat m + 1) n).toInt64 ≤ 0) : cv_chg I β m n (k + 1) = cv_chg I β m n k + (cv_nets I β (Int32.ofNat k) (Int32.ofNat m) (Int32.ofNat m + 1) n).toInt64 * (cv_rate I β k (m / 3)).toInt64 * cv_fC I β (I (β + 2) 4) / (cv_fB I β (I (β + 2) 4) * 10) := by
  show cv_chg I β m n k + cv_chgAt I β m n k = _
  unfold cv_chgAt
  rw [if_neg h]
theorem l_X6_chargeOf (hR : x_wf R) {β : Nat} (hβ : x_sl β) {Nl : Nat} (hNl : Nl ≤ 60) (hl : I (β + 17) 0 = Int32.ofNat Nl) {Ns : Nat} (hNs : Ns ≤ 6) (hn : I (β + 1) 0 = Int32.ofNat Ns) (hB : ¬ cv_fB I β (I (β + 2) 4) * 10 = 0) {m : Nat} (hm : m < 36) {w w2 : Option Value} : ∀ d k, k + d = Ns → x_Ev X mX6_chargeOf 53 [some (.ref β), some (.int (Int32.ofNat m)), some (.int (I (β + 2) 4)), some (.long (cv_fC I β (I (β + 2) 4))), none, some (.long (cv_fB I β (I (β + 2) 4) * 10)), none, some (.int (Int32.ofNat (m / 3))), some (.long (cv_chg I β m Nl k)), none, some (.int (Int32.ofNat k)), w, none, w2, none] [] ((I, L, R), 233, 0, 0) (.inl (some (.long (cv_chg I β m Nl Ns))), (I, L, R), 233) := by
  intro d
  induction d generalizing w w2 with
  | zero =>
    intro k hd
    obtain rfl : Ns = k := by omega
    refine f_iload (M := mX6_chargeOf) 55 dX6_chargeOf_53 rfl rfl ?_
    refine f_aload_n (M := mX6_chargeOf) 56 dX6_chargeOf_55 rfl rfl ?_
    refine e_getR (M := mX6_chargeOf) dX6_chargeOf_56 fl_6012 (x_kk rfl) (sl_lt hβ 0 rfl) (sl_s hβ 0 rfl rfl) (wf_6_1 hR hβ) ?_
    refine e_getI (M := mX6_chargeOf) dX6_chargeOf_59 fl_6077 (x_kk rfl) (sl_lt hβ 1 rfl) (sl_s hβ 1 rfl rfl) ?_
    refine e_icmp_geT (M := mX6_chargeOf) 127 dX6_chargeOf_62 rfl (by rw [hn]; exact Int32.le_refl _) ?_
    refine f_lload (M := mX6_chargeOf) 129 dX6_chargeOf_127 rfl rfl ?_
    refine e_rl (M := mX6_chargeOf) dX6_chargeOf_129 rfl (x_kk rfl) (x_kk rfl) ?_
    rfl
  | succ d ih =>
    intro k hd
    refine f_iload (M := mX6_chargeOf) 55 dX6_chargeOf_53 rfl rfl ?_
    refine f_aload_n (M := mX6_chargeOf) 56 dX6_chargeOf_55 rfl rfl ?_
    refine e_getR (M := mX6_chargeOf) dX6_chargeOf_56 fl_6012 (x_kk rfl) (sl_lt hβ 0 rfl) (sl_s hβ 0 rfl rfl) (wf_6_1 hR hβ) ?_
    refine e_getI (M := mX6_chargeOf) dX6_chargeOf_59 fl_6077 (x_kk rfl) (sl_lt hβ 1 rfl) (sl_s hβ 1 rfl rfl) ?_
    refine e_icmp_geF (M := mX6_chargeOf) 127 dX6_chargeOf_62 rfl (by rw [hn, n_le (by omega) (by omega)]; omega) ?_
    refine f_aload_n (M := mX6_chargeOf) 66 dX6_chargeOf_65 rfl rfl ?_
    refine e_getR (M := mX6_chargeOf) dX6_chargeOf_66 fl_6042 (x_kk rfl) (sl_lt hβ 0 rfl) (sl_s hβ 0 rfl rfl) (wf_6_5 hR hβ) ?_
    refine f_iload (M := mX6_chargeOf) 71 dX6_chargeOf_69 rfl rfl ?_
    refine f_iload_n (M := mX6_chargeOf) 72 dX6_chargeOf_71 rfl rfl ?_
    refine f_iload_n (M := mX6_chargeOf) 73 dX6_chargeOf_72 rfl rfl ?_
    refine f_iconst (M := mX6_chargeOf) 74 dX6_chargeOf_73 ki_1 rfl ?_
    refine f_iadd (M := mX6_chargeOf) 75 dX6_chargeOf_74 rfl ?_
    refine e_cV (M := mX6_chargeOf) [_] 0 0 dX6_chargeOf_75 pa_6123 pb_6123 cc_6123 rfl rfl rfl rfl rfl (x_kk rfl) (x_kk rfl) (x_rcvOK (sl_lt hβ 17 rfl) (sl_s hβ 17 rfl rfl) rfl) (c_X4_netSum hR hβ hNl hl) rfl ?_
    refine f_i2l (M := mX6_chargeOf) 79 dX6_chargeOf_78 rfl ?_
    refine f_lstore (M := mX6_chargeOf) (ls' := [_, _, _, _, _, _, _, _, _, _, _, _, _, _, _]) 81 dX6_chargeOf_79 rfl rfl rfl ?_
    refine f_lload (M := mX6_chargeOf) 83 dX6_chargeOf_81 rfl rfl ?_
    refine f_lconst (M := mX6_chargeOf) 84 dX6_chargeOf_83 kl_0 rfl ?_
    refine f_lcmp (M := mX6_chargeOf) 85 dX6_chargeOf_84 rfl ?_
    refine e_if_le (M := mX6_chargeOf) (t := 121) dX6_chargeOf_85 rfl (fun h1 => ?_) (fun h1 => ?_)
    · refine f_iinc (M := mX6_chargeOf) (ls' := [_, _, _, _, _, _, _, _, _, _, _, _, _, _, _]) 124 dX6_chargeOf_121 ki_1 rfl rfl rfl rfl ?_
      refine f_goto (M := mX6_chargeOf) 53 dX6_chargeOf_124 rfl ?_
      rw [n_inc (s := k)]; have ih1 := fun w w2 => ih (w := w) (w2 := w2) (k + 1) (by omega); rw [cv_chg_0 (lc_le.mp h1)] at ih1; exact ih1 _ _
    · refine f_aload_n (M := mX6_chargeOf) 89 dX6_chargeOf_88 rfl rfl ?_
      refine e_getR (M := mX6_chargeOf) dX6_chargeOf_89 fl_6035 (x_kk rfl) (sl_lt hβ 0 rfl) (sl_s hβ 0 rfl rfl) (wf_6_4 hR hβ) ?_
      refine f_iload (M := mX6_chargeOf) 94 dX6_chargeOf_92 rfl rfl ?_
      refine f_iload (M := mX6_chargeOf) 96 dX6_chargeOf_94 rfl rfl ?_
      refine f_aload_n (M := mX6_chargeOf) 97 dX6_chargeOf_96 rfl rfl ?_
      refine e_getR (M := mX6_chargeOf) dX6_chargeOf_97 fl_6012 (x_kk rfl) (sl_lt hβ 0 rfl) (sl_s hβ 0 rfl rfl) (wf_6_1 hR hβ) ?_
      refine e_cV (M := mX6_chargeOf) [_] 0 0 dX6_chargeOf_100 pa_6127 pb_6127 cc_6127 rfl rfl rfl rfl rfl (x_kk rfl) (x_kk rfl) (x_rcvOK (sl_lt hβ 12 rfl) (sl_s hβ 12 rfl rfl) rfl) (c_X1_adjustedRate hR hβ (by omega) (by omega)) rfl ?_
      refine f_i2l (M := mX6_chargeOf) 104 dX6_chargeOf_103 rfl ?_
      refine f_lstore (M := mX6_chargeOf) (ls' := [_, _, _, _, _, _, _, _, _, _, _, _, _, _, _]) 106 dX6_chargeOf_104 rfl rfl rfl ?_
      refine f_lload (M := mX6_chargeOf) 108 dX6_chargeOf_106 rfl rfl ?_
      refine f_lload (M := mX6_chargeOf) 110 dX6_chargeOf_108 rfl rfl ?_
      refine f_lload (M := mX6_chargeOf) 112 dX6_chargeOf_110 rfl rfl ?_
      refine f_lmul (M := mX6_chargeOf) 113 dX6_chargeOf_112 rfl ?_
      refine f_lload_n (M := mX6_chargeOf) 114 dX6_chargeOf_113 rfl rfl ?_
      refine f_lmul (M := mX6_chargeOf) 115 dX6_chargeOf_114 rfl ?_
      refine f_lload (M := mX6_chargeOf) 117 dX6_chargeOf_115 rfl rfl ?_
      refine e_ldiv (M := mX6_chargeOf) dX6_chargeOf_117 hB ?_
      refine f_ladd (M := mX6_chargeOf) 119 dX6_chargeOf_118 rfl ?_
      refine f_lstore (M := mX6_chargeOf) (ls' := [_, _, _, _, _, _, _, _, _, _, _, _, _, _, _]) 121 dX6_chargeOf_119 rfl rfl rfl ?_
      refine f_iinc (M := mX6_chargeOf) (ls' := [_, _, _, _, _, _, _, _, _, _, _, _, _, _, _]) 124 dX6_chargeOf_121 ki_1 rfl rfl rfl rfl ?_
      refine f_goto (M := mX6_chargeOf) 53 dX6_chargeOf_124 rfl ?_
      rw [n_inc (s := k)]; have ih1 := fun w w2 => ih (w := w) (w2 := w2) (k + 1) (by omega); rw [cv_chg_1 (fun z => h1 (lc_le.mpr z))] at ih1; exact ih1 _ _
theorem c_X6_chargeOf (hR : x_wf R) {β : Nat} (hβ : x_sl β) {Nl : Nat} (hNl : Nl ≤ 60) (hl : I (β + 17) 0 = Int32.ofNat Nl) {Ns : Nat} (hNs : Ns ≤ 6) (hn : I (β + 1) 0 = Int32.ofNat Ns) (hB : ¬ cv_fB I β (I (β + 2) 4) * 10 = 0) {m : Nat} (hm : m < 36) : x_Cv X mX6_chargeOf [.ref β, .int (Int32.ofNat m)] (I, L, R) 233 (.inl (some (.long (cv_chg I β m Nl Ns))), (I, L, R), 233) := by
  show x_Ev X mX6_chargeOf 0 [some (.ref β), some (.int (Int32.ofNat m)), none, none, none, none, none, none, none, none, none, none, none, none, none] [] ((I, L, R), 233, 0, 0) _
  refine f_aload_n (M := mX6_chargeOf) 1 dX6_chargeOf_0 rfl rfl ?_
  refine e_getR (M := mX6_chargeOf) dX6_chargeOf_1 fl_6012 (x_kk rfl) (sl_lt hβ 0 rfl) (sl_s hβ 0 rfl rfl) (wf_6_1 hR hβ) ?_
  refine e_getR (M := mX6_chargeOf) dX6_chargeOf_4 fl_6084 (x_kk rfl) (sl_lt hβ 1 rfl) (sl_s hβ 1 rfl rfl) (wf_7_1 hR hβ) ?_
  refine f_iconst (M := mX6_chargeOf) 8 dX6_chargeOf_7 ki_4 rfl ?_
  refine e_ild (M := mX6_chargeOf) (w := 7) (j := 4) dX6_chargeOf_8 (sl_lt hβ 2 rfl) (sl_shp hβ 2 rfl) kn_4 (by omega) (by omega) ?_
  refine f_istore_n (M := mX6_chargeOf) (ls' := [_, _, _, _, _, _, _, _, _, _, _, _, _, _, _]) 10 dX6_chargeOf_9 rfl rfl rfl ?_
  refine f_aload_n (M := mX6_chargeOf) 11 dX6_chargeOf_10 rfl rfl ?_
  refine e_getR (M := mX6_chargeOf) dX6_chargeOf_11 fl_6042 (x_kk rfl) (sl_lt hβ 0 rfl) (sl_s hβ 0 rfl rfl) (wf_6_5 hR hβ) ?_
  refine f_iload_n (M := mX6_chargeOf) 15 dX6_chargeOf_14 rfl rfl ?_
  refine e_cV (M := mX6_chargeOf) [_] 0 0 dX6_chargeOf_15 pa_6114 pb_6114 cc_6114 rfl rfl rfl rfl rfl (x_kk rfl) (x_kk rfl) (x_rcvOK (sl_lt hβ 17 rfl) (sl_s hβ 17 rfl rfl) rfl) (c_X4_factorDividend hR hβ) rfl ?_
  refine f_lstore_n (M := mX6_chargeOf) (ls' := [_, _, _, _, _, _, _, _, _, _, _, _, _, _, _]) 19 dX6_chargeOf_18 rfl rfl rfl ?_
  refine f_aload_n (M := mX6_chargeOf) 20 dX6_chargeOf_19 rfl rfl ?_
  refine e_getR (M := mX6_chargeOf) dX6_chargeOf_20 fl_6042 (x_kk rfl) (sl_lt hβ 0 rfl) (sl_s hβ 0 rfl rfl) (wf_6_5 hR hβ) ?_
  refine f_iload_n (M := mX6_chargeOf) 24 dX6_chargeOf_23 rfl rfl ?_
  refine e_cV (M := mX6_chargeOf) [_] 0 0 dX6_chargeOf_24 pa_6118 pb_6118 cc_6118 rfl rfl rfl rfl rfl (x_kk rfl) (x_kk rfl) (x_rcvOK (sl_lt hβ 17 rfl) (sl_s hβ 17 rfl rfl) rfl) (c_X4_factorDivisor hR hβ) rfl ?_
  refine f_ldc2 (M := mX6_chargeOf) 30 dX6_chargeOf_27 (x_kk rfl) csl_6121 rfl ?_
  refine f_lmul (M := mX6_chargeOf) 31 dX6_chargeOf_30 rfl ?_
  refine f_lstore (M := mX6_chargeOf) (ls' := [_, _, _, _, _, _, _, _, _, _, _, _, _, _, _]) 33 dX6_chargeOf_31 rfl rfl rfl ?_
  refine f_lload (M := mX6_chargeOf) 35 dX6_chargeOf_33 rfl rfl ?_
  refine f_lconst (M := mX6_chargeOf) 36 dX6_chargeOf_35 kl_0 rfl ?_
  refine f_lcmp (M := mX6_chargeOf) 37 dX6_chargeOf_36 rfl ?_
  refine e_if_neT (M := mX6_chargeOf) 42 dX6_chargeOf_37 rfl (fun z => hB (lc_eq.mp z)) ?_
  refine f_iload_n (M := mX6_chargeOf) 43 dX6_chargeOf_42 rfl rfl ?_
  refine f_iconst (M := mX6_chargeOf) 44 dX6_chargeOf_43 ki_3 rfl ?_
  refine e_idiv (M := mX6_chargeOf) dX6_chargeOf_44 (by decide) ?_
  rw [show Int32.ofNat m / 3 = Int32.ofNat (m / 3) from ix_div (m := m) (k := 3) (by omega) (by omega) rfl kn_3]
  refine f_istore (M := mX6_chargeOf) (ls' := [_, _, _, _, _, _, _, _, _, _, _, _, _, _, _]) 47 dX6_chargeOf_45 rfl rfl rfl ?_
  refine f_lconst (M := mX6_chargeOf) 48 dX6_chargeOf_47 kl_0 rfl ?_
  refine f_lstore (M := mX6_chargeOf) (ls' := [_, _, _, _, _, _, _, _, _, _, _, _, _, _, _]) 50 dX6_chargeOf_48 rfl rfl rfl ?_
  refine f_iconst (M := mX6_chargeOf) 51 dX6_chargeOf_50 ki_0 rfl ?_
  refine f_istore (M := mX6_chargeOf) (ls' := [_, _, _, _, _, _, _, _, _, _, _, _, _, _, _]) 53 dX6_chargeOf_51 rfl rfl rfl ?_
  exact l_X6_chargeOf hR hβ hNl hl hNs hn hB hm Ns 0 (by omega)
end

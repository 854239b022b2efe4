/-! ===== the model: sums, values, problems (laid by wip/whole/src/m2.py) ===== -/
section
variable {X : x_X} {I : Nat → Nat → Int32} {L : Nat → Nat → Int64} {R : Nat → Nat → Option Nat}
/-- a species or none -/
def x_spec (σ : Int32) : Prop := σ = -1 ∨ ∃ s, s < 6 ∧ σ = Int32.ofNat s
def sp_in (a : Nat → Int32) (σ : Int32) (p : Nat) : Int32 := if σ = -1 then sp_all a p 6 else a (44 + 6 * p + σ.toNatClampNeg)
theorem n_cl {s : Nat} (h : s < 1000000000) : (Int32.ofNat s).toNatClampNeg = s := Int32.toNatClampNeg_ofNat_of_lt (by omega)
theorem c_X9_inPlotA (hR : x_wf R) {p : Nat} (hp : p < 30) {σ : Int32} (hσ : x_spec σ) : x_Cv X mX9_inPlot [.ref 225, .int (Int32.ofNat p), .int σ] (I, L, R) 233 (.inl (some (.int (sp_in (I 226) σ p))), (I, L, R), 233) := by
  rcases hσ with rfl | ⟨s, hs, rfl⟩
  · exact c_X9_inPlotN hR hp
  · have h := c_X9_inPlot (X := X) (I := I) (L := L) hR hp hs
    unfold sp_in
    rw [if_neg (n_ne1 (by omega)), n_cl (by omega)]
    exact h
def sp_sum (a : Nat → Int32) (σ : Int32) (n : Nat) : Int64 := x_sum64 (fun p => (sp_in a σ p).toInt64) n
def sp_sq (a : Nat → Int32) (σ : Int32) (n : Nat) : Int64 := x_sum64 (fun p => (sp_in a σ p).toInt64 * (sp_in a σ p).toInt64) n
def sp_spread (a : Nat → Int32) (σ : Int32) (n : Nat) : Int64 := (a 9).toInt64 * sp_sq a σ n - sp_sum a σ n * sp_sum a σ n
theorem l_X9_sumOf (hR : x_wf R) {Np : Nat} (hNp : Np ≤ 30) (hn : I 226 9 = Int32.ofNat Np) {σ : Int32} (hσ : x_spec σ) : ∀ d k, k + d = Np → x_Ev X mX9_sumOf 5 [some (.ref 225), some (.int σ), some (.long (sp_sum (I 226) σ k)), none, some (.int (Int32.ofNat k))] [] ((I, L, R), 233, 0, 0) (.inl (some (.long (sp_sum (I 226) σ Np))), (I, L, R), 233) := by
  intro d
  induction d with
  | zero =>
    intro k hd
    obtain rfl : Np = k := by omega
    refine f_iload (M := mX9_sumOf) 7 dX9_sumOf_5 rfl rfl ?_
    refine f_aload_n (M := mX9_sumOf) 8 dX9_sumOf_7 rfl rfl ?_
    refine e_getR (M := mX9_sumOf) dX9_sumOf_8 fl_9007 (x_kk rfl) (x_kk rfl) rfl (wf_9_0 hR) ?_
    refine f_bipush (M := mX9_sumOf) 13 dX9_sumOf_11 kb_9 rfl ?_
    refine e_ild (M := mX9_sumOf) (w := 606) (j := 9) dX9_sumOf_13 (x_kk rfl) rfl kn_9 (by omega) (by omega) ?_
    refine e_icmp_geT (M := mX9_sumOf) 34 dX9_sumOf_14 rfl (by rw [hn]; exact Int32.le_refl _) ?_
    refine f_lload_n (M := mX9_sumOf) 35 dX9_sumOf_34 rfl rfl ?_
    refine e_rl (M := mX9_sumOf) dX9_sumOf_35 rfl (x_kk rfl) (x_kk rfl) ?_
    rfl
  | succ d ih =>
    intro k hd
    refine f_iload (M := mX9_sumOf) 7 dX9_sumOf_5 rfl rfl ?_
    refine f_aload_n (M := mX9_sumOf) 8 dX9_sumOf_7 rfl rfl ?_
    refine e_getR (M := mX9_sumOf) dX9_sumOf_8 fl_9007 (x_kk rfl) (x_kk rfl) rfl (wf_9_0 hR) ?_
    refine f_bipush (M := mX9_sumOf) 13 dX9_sumOf_11 kb_9 rfl ?_
    refine e_ild (M := mX9_sumOf) (w := 606) (j := 9) dX9_sumOf_13 (x_kk rfl) rfl kn_9 (by omega) (by omega) ?_
    refine e_icmp_geF (M := mX9_sumOf) 34 dX9_sumOf_14 rfl (by rw [hn, n_le (by omega) (by omega)]; omega) ?_
    refine f_lload_n (M := mX9_sumOf) 18 dX9_sumOf_17 rfl rfl ?_
    refine f_aload_n (M := mX9_sumOf) 19 dX9_sumOf_18 rfl rfl ?_
    refine f_iload (M := mX9_sumOf) 21 dX9_sumOf_19 rfl rfl ?_
    refine f_iload_n (M := mX9_sumOf) 22 dX9_sumOf_21 rfl rfl ?_
    refine e_cV (M := mX9_sumOf) [_, _] 0 0 dX9_sumOf_22 pa_9140 pb_9140 cc_9140 rfl rfl rfl rfl rfl (x_kk rfl) (x_kk rfl) rfl (c_X9_inPlotA hR (by omega) hσ) rfl ?_
    refine f_i2l (M := mX9_sumOf) 26 dX9_sumOf_25 rfl ?_
    refine f_ladd (M := mX9_sumOf) 27 dX9_sumOf_26 rfl ?_
    refine f_lstore_n (M := mX9_sumOf) (ls' := [_, _, _, _, _]) 28 dX9_sumOf_27 rfl rfl rfl ?_
    refine f_iinc (M := mX9_sumOf) (ls' := [_, _, _, _, _]) 31 dX9_sumOf_28 ki_1 rfl rfl rfl rfl ?_
    refine f_goto (M := mX9_sumOf) 5 dX9_sumOf_31 rfl ?_
    rw [n_inc]; exact ih (k + 1) (by omega)
theorem c_X9_sumOf (hR : x_wf R) {Np : Nat} (hNp : Np ≤ 30) (hn : I 226 9 = Int32.ofNat Np) {σ : Int32} (hσ : x_spec σ) : x_Cv X mX9_sumOf [.ref 225, .int σ] (I, L, R) 233 (.inl (some (.long (sp_sum (I 226) σ Np))), (I, L, R), 233) := by
  show x_Ev X mX9_sumOf 0 [some (.ref 225), some (.int σ), none, none, none] [] ((I, L, R), 233, 0, 0) _
  refine f_lconst (M := mX9_sumOf) 1 dX9_sumOf_0 kl_0 rfl ?_
  refine f_lstore_n (M := mX9_sumOf) (ls' := [_, _, _, _, _]) 2 dX9_sumOf_1 rfl rfl rfl ?_
  refine f_iconst (M := mX9_sumOf) 3 dX9_sumOf_2 ki_0 rfl ?_
  refine f_istore (M := mX9_sumOf) (ls' := [_, _, _, _, _]) 5 dX9_sumOf_3 rfl rfl rfl ?_
  exact l_X9_sumOf hR hNp hn hσ Np 0 (by omega)
theorem l_X9_spreadOf (hR : x_wf R) {Np : Nat} (hNp : Np ≤ 30) (hn : I 226 9 = Int32.ofNat Np) {σ : Int32} (hσ : x_spec σ) : ∀ d k, k + d = Np → x_Ev X mX9_spreadOf 5 [some (.ref 225), some (.int σ), some (.long (sp_sq (I 226) σ k)), none, some (.int (Int32.ofNat k))] [] ((I, L, R), 233, 0, 0) (.inl (some (.long (sp_spread (I 226) σ Np))), (I, L, R), 233) := by
  intro d
  induction d with
  | zero =>
    intro k hd
    obtain rfl : Np = k := by omega
    refine f_iload (M := mX9_spreadOf) 7 dX9_spreadOf_5 rfl rfl ?_
    refine f_aload_n (M := mX9_spreadOf) 8 dX9_spreadOf_7 rfl rfl ?_
    refine e_getR (M := mX9_spreadOf) dX9_spreadOf_8 fl_9007 (x_kk rfl) (x_kk rfl) rfl (wf_9_0 hR) ?_
    refine f_bipush (M := mX9_spreadOf) 13 dX9_spreadOf_11 kb_9 rfl ?_
    refine e_ild (M := mX9_spreadOf) (w := 606) (j := 9) dX9_spreadOf_13 (x_kk rfl) rfl kn_9 (by omega) (by omega) ?_
    refine e_icmp_geT (M := mX9_spreadOf) 43 dX9_spreadOf_14 rfl (by rw [hn]; exact Int32.le_refl _) ?_
    refine f_aload_n (M := mX9_spreadOf) 44 dX9_spreadOf_43 rfl rfl ?_
    refine e_getR (M := mX9_spreadOf) dX9_spreadOf_44 fl_9007 (x_kk rfl) (x_kk rfl) rfl (wf_9_0 hR) ?_
    refine f_bipush (M := mX9_spreadOf) 49 dX9_spreadOf_47 kb_9 rfl ?_
    refine e_ild (M := mX9_spreadOf) (w := 606) (j := 9) dX9_spreadOf_49 (x_kk rfl) rfl kn_9 (by omega) (by omega) ?_
    refine f_i2l (M := mX9_spreadOf) 51 dX9_spreadOf_50 rfl ?_
    refine f_lload_n (M := mX9_spreadOf) 52 dX9_spreadOf_51 rfl rfl ?_
    refine f_lmul (M := mX9_spreadOf) 53 dX9_spreadOf_52 rfl ?_
    refine f_aload_n (M := mX9_spreadOf) 54 dX9_spreadOf_53 rfl rfl ?_
    refine f_iload_n (M := mX9_spreadOf) 55 dX9_spreadOf_54 rfl rfl ?_
    refine e_cV (M := mX9_spreadOf) [_, _] 0 0 dX9_spreadOf_55 pa_9143 pb_9143 cc_9143 rfl rfl rfl rfl rfl (x_kk rfl) (x_kk rfl) rfl (c_X9_sumOf hR hNp hn hσ) rfl ?_
    refine f_aload_n (M := mX9_spreadOf) 59 dX9_spreadOf_58 rfl rfl ?_
    refine f_iload_n (M := mX9_spreadOf) 60 dX9_spreadOf_59 rfl rfl ?_
    refine e_cV (M := mX9_spreadOf) [_, _, _] 0 0 dX9_spreadOf_60 pa_9143 pb_9143 cc_9143 rfl rfl rfl rfl rfl (x_kk rfl) (x_kk rfl) rfl (c_X9_sumOf hR hNp hn hσ) rfl ?_
    refine f_lmul (M := mX9_spreadOf) 64 dX9_spreadOf_63 rfl ?_
    refine f_lsub (M := mX9_spreadOf) 65 dX9_spreadOf_64 rfl ?_
    refine e_rl (M := mX9_spreadOf) dX9_spreadOf_65 rfl (x_kk rfl) (x_kk rfl) ?_
    rfl
  | succ d ih =>
    intro k hd
    refine f_iload (M := mX9_spreadOf) 7 dX9_spreadOf_5 rfl rfl ?_
    refine f_aload_n (M := mX9_spreadOf) 8 dX9_spreadOf_7 rfl rfl ?_
    refine e_getR (M := mX9_spreadOf) dX9_spreadOf_8 fl_9007 (x_kk rfl) (x_kk rfl) rfl (wf_9_0 hR) ?_
    refine f_bipush (M := mX9_spreadOf) 13 dX9_spreadOf_11 kb_9 rfl ?_
    refine e_ild (M := mX9_spreadOf) (w := 606) (j := 9) dX9_spreadOf_13 (x_kk rfl) rfl kn_9 (by omega) (by omega) ?_
    refine e_icmp_geF (M := mX9_spreadOf) 43 dX9_spreadOf_14 rfl (by rw [hn, n_le (by omega) (by omega)]; omega) ?_
    refine f_lload_n (M := mX9_spreadOf) 18 dX9_spreadOf_17 rfl rfl ?_
    refine f_aload_n (M := mX9_spreadOf) 19 dX9_spreadOf_18 rfl rfl ?_
    refine f_iload (M := mX9_spreadOf) 21 dX9_spreadOf_19 rfl rfl ?_
    refine f_iload_n (M := mX9_spreadOf) 22 dX9_spreadOf_21 rfl rfl ?_
    refine e_cV (M := mX9_spreadOf) [_, _] 0 0 dX9_spreadOf_22 pa_9140 pb_9140 cc_9140 rfl rfl rfl rfl rfl (x_kk rfl) (x_kk rfl) rfl (c_X9_inPlotA hR (by omega) hσ) rfl ?_
    refine f_i2l (M := mX9_spreadOf) 26 dX9_spreadOf_25 rfl ?_
    refine f_aload_n (M := mX9_spreadOf) 27 dX9_spreadOf_26 rfl rfl ?_
    refine f_iload (M := mX9_spreadOf) 29 dX9_spreadOf_27 rfl rfl ?_
    refine f_iload_n (M := mX9_spreadOf) 30 dX9_spreadOf_29 rfl rfl ?_
    refine e_cV (M := mX9_spreadOf) [_, _, _] 0 0 dX9_spreadOf_30 pa_9140 pb_9140 cc_9140 rfl rfl rfl rfl rfl (x_kk rfl) (x_kk rfl) rfl (c_X9_inPlotA hR (by omega) hσ) rfl ?_
    refine f_i2l (M := mX9_spreadOf) 34 dX9_spreadOf_33 rfl ?_
    refine f_lmul (M := mX9_spreadOf) 35 dX9_spreadOf_34 rfl ?_
    refine f_ladd (M := mX9_spreadOf) 36 dX9_spreadOf_35 rfl ?_
    refine f_lstore_n (M := mX9_spreadOf) (ls' := [_, _, _, _, _]) 37 dX9_spreadOf_36 rfl rfl rfl ?_
    refine f_iinc (M := mX9_spreadOf) (ls' := [_, _, _, _, _]) 40 dX9_spreadOf_37 ki_1 rfl rfl rfl rfl ?_
    refine f_goto (M := mX9_spreadOf) 5 dX9_spreadOf_40 rfl ?_
    rw [n_inc]; exact ih (k + 1) (by omega)
theorem c_X9_spreadOf (hR : x_wf R) {Np : Nat} (hNp : Np ≤ 30) (hn : I 226 9 = Int32.ofNat Np) {σ : Int32} (hσ : x_spec σ) : x_Cv X mX9_spreadOf [.ref 225, .int σ] (I, L, R) 233 (.inl (some (.long (sp_spread (I 226) σ Np))), (I, L, R), 233) := by
  show x_Ev X mX9_spreadOf 0 [some (.ref 225), some (.int σ), none, none, none] [] ((I, L, R), 233, 0, 0) _
  refine f_lconst (M := mX9_spreadOf) 1 dX9_spreadOf_0 kl_0 rfl ?_
  refine f_lstore_n (M := mX9_spreadOf) (ls' := [_, _, _, _, _]) 2 dX9_spreadOf_1 rfl rfl rfl ?_
  refine f_iconst (M := mX9_spreadOf) 3 dX9_spreadOf_2 ki_0 rfl ?_
  refine f_istore (M := mX9_spreadOf) (ls' := [_, _, _, _, _]) 5 dX9_spreadOf_3 rfl rfl rfl ?_
  exact l_X9_spreadOf hR hNp hn hσ Np 0 (by omega)
theorem c_X9_isBidder {v : Int32} : x_Cv X mX9_isBidder [.int v] (I, L, R) 233 (.inl (some (.int (x_b (0 ≤ v ∧ v ≤ 7)))), (I, L, R), 233) := by
  show x_Ev X mX9_isBidder 0 [some (.int v)] [] ((I, L, R), 233, 0, 0) _
  refine f_iload_n (M := mX9_isBidder) 1 dX9_isBidder_0 rfl rfl ?_
  refine f_i2l (M := mX9_isBidder) 2 dX9_isBidder_1 rfl ?_
  refine f_lconst (M := mX9_isBidder) 3 dX9_isBidder_2 kl_0 rfl ?_
  refine f_ldc2 (M := mX9_isBidder) 6 dX9_isBidder_3 (x_kk rfl) csl_9180 rfl ?_
  refine e_cS (M := mX9_isBidder) [_] 0 0 dX9_isBidder_6 pa_9074 cc_9074 rfl rfl rfl rfl rfl (x_kk rfl) (x_kk rfl) rfl (c_X9_isInI (lo := 0) (hi := 7)) rfl ?_
  refine e_rb (M := mX9_isBidder) dX9_isBidder_9 rfl (x_kk rfl) (x_kk rfl) (by exact x_bN) ?_
  rfl
theorem c_X9_isBidding (hR : x_wf R) : x_Cv X mX9_isBidding [.ref 225] (I, L, R) 233 (.inl (some (.int (x_b (I 226 0 = 1 ∨ I 226 0 = 6)))), (I, L, R), 233) := by
  show x_Ev X mX9_isBidding 0 [some (.ref 225)] [] ((I, L, R), 233, 0, 0) _
  refine f_aload_n (M := mX9_isBidding) 1 dX9_isBidding_0 rfl rfl ?_
  refine e_getR (M := mX9_isBidding) dX9_isBidding_1 fl_9007 (x_kk rfl) (x_kk rfl) rfl (wf_9_0 hR) ?_
  refine f_iconst (M := mX9_isBidding) 5 dX9_isBidding_4 ki_0 rfl ?_
  refine e_ild (M := mX9_isBidding) (w := 606) (j := 0) dX9_isBidding_5 (x_kk rfl) rfl kn_0 (by omega) (by omega) ?_
  refine f_iconst (M := mX9_isBidding) 7 dX9_isBidding_6 ki_1 rfl ?_
  refine e_icmp_eq (M := mX9_isBidding) (t := 21) dX9_isBidding_7 rfl (fun h1 => ?_) (fun h1 => ?_)
  · refine f_iconst (M := mX9_isBidding) 22 dX9_isBidding_21 ki_1 rfl ?_
    refine f_goto (M := mX9_isBidding) 26 dX9_isBidding_22 rfl ?_
    refine e_rb (M := mX9_isBidding) dX9_isBidding_26 rfl (x_kk rfl) (x_kk rfl) (by decide) ?_
    exact r_b1 (Or.inl h1)
  · refine f_aload_n (M := mX9_isBidding) 11 dX9_isBidding_10 rfl rfl ?_
    refine e_getR (M := mX9_isBidding) dX9_isBidding_11 fl_9007 (x_kk rfl) (x_kk rfl) rfl (wf_9_0 hR) ?_
    refine f_iconst (M := mX9_isBidding) 15 dX9_isBidding_14 ki_0 rfl ?_
    refine e_ild (M := mX9_isBidding) (w := 606) (j := 0) dX9_isBidding_15 (x_kk rfl) rfl kn_0 (by omega) (by omega) ?_
    refine f_bipush (M := mX9_isBidding) 18 dX9_isBidding_16 kb_6 rfl ?_
    refine e_icmp_ne (M := mX9_isBidding) (t := 25) dX9_isBidding_18 rfl (fun h2 => ?_) (fun h2 => ?_)
    · refine f_iconst (M := mX9_isBidding) 26 dX9_isBidding_25 ki_0 rfl ?_
      refine e_rb (M := mX9_isBidding) dX9_isBidding_26 rfl (x_kk rfl) (x_kk rfl) (by decide) ?_
      exact r_b0 (fun z => z.elim h1 h2)
    · refine f_iconst (M := mX9_isBidding) 22 dX9_isBidding_21 ki_1 rfl ?_
      refine f_goto (M := mX9_isBidding) 26 dX9_isBidding_22 rfl ?_
      refine e_rb (M := mX9_isBidding) dX9_isBidding_26 rfl (x_kk rfl) (x_kk rfl) (by decide) ?_
      exact r_b1 (Or.inr (Decidable.not_not.mp h2))
theorem c_X9_isOpened (hR : x_wf R) : x_Cv X mX9_isOpened [.ref 225] (I, L, R) 233 (.inl (some (.int (x_b (1 < I 226 0 ∧ ¬ I 226 0 = 6)))), (I, L, R), 233) := by
  show x_Ev X mX9_isOpened 0 [some (.ref 225)] [] ((I, L, R), 233, 0, 0) _
  refine f_aload_n (M := mX9_isOpened) 1 dX9_isOpened_0 rfl rfl ?_
  refine e_getR (M := mX9_isOpened) dX9_isOpened_1 fl_9007 (x_kk rfl) (x_kk rfl) rfl (wf_9_0 hR) ?_
  refine f_iconst (M := mX9_isOpened) 5 dX9_isOpened_4 ki_0 rfl ?_
  refine e_ild (M := mX9_isOpened) (w := 606) (j := 0) dX9_isOpened_5 (x_kk rfl) rfl kn_0 (by omega) (by omega) ?_
  refine f_iconst (M := mX9_isOpened) 7 dX9_isOpened_6 ki_1 rfl ?_
  refine e_icmp_le (M := mX9_isOpened) (t := 25) dX9_isOpened_7 rfl (fun h1 => ?_) (fun h1 => ?_)
  · refine f_iconst (M := mX9_isOpened) 26 dX9_isOpened_25 ki_0 rfl ?_
    refine e_rb (M := mX9_isOpened) dX9_isOpened_26 rfl (x_kk rfl) (x_kk rfl) (by decide) ?_
    exact r_b0 (fun z => absurd h1 (i_nle.mpr z.1))
  · refine f_aload_n (M := mX9_isOpened) 11 dX9_isOpened_10 rfl rfl ?_
    refine e_getR (M := mX9_isOpened) dX9_isOpened_11 fl_9007 (x_kk rfl) (x_kk rfl) rfl (wf_9_0 hR) ?_
    refine f_iconst (M := mX9_isOpened) 15 dX9_isOpened_14 ki_0 rfl ?_
    refine e_ild (M := mX9_isOpened) (w := 606) (j := 0) dX9_isOpened_15 (x_kk rfl) rfl kn_0 (by omega) (by omega) ?_
    refine f_bipush (M := mX9_isOpened) 18 dX9_isOpened_16 kb_6 rfl ?_
    refine e_icmp_eq (M := mX9_isOpened) (t := 25) dX9_isOpened_18 rfl (fun h2 => ?_) (fun h2 => ?_)
    · refine f_iconst (M := mX9_isOpened) 26 dX9_isOpened_25 ki_0 rfl ?_
      refine e_rb (M := mX9_isOpened) dX9_isOpened_26 rfl (x_kk rfl) (x_kk rfl) (by decide) ?_
      exact r_b0 (fun z => z.2 h2)
    · refine f_iconst (M := mX9_isOpened) 22 dX9_isOpened_21 ki_1 rfl ?_
      refine f_goto (M := mX9_isOpened) 26 dX9_isOpened_22 rfl ?_
      refine e_rb (M := mX9_isOpened) dX9_isOpened_26 rfl (x_kk rfl) (x_kk rfl) (by decide) ?_
      exact r_b1 ⟨i_nle.mp h1, h2⟩
theorem c_X9_isSecond (hR : x_wf R) : x_Cv X mX9_isSecond [.ref 225] (I, L, R) 233 (.inl (some (.int (x_b (6 ≤ I 226 0)))), (I, L, R), 233) := by
  show x_Ev X mX9_isSecond 0 [some (.ref 225)] [] ((I, L, R), 233, 0, 0) _
  refine f_aload_n (M := mX9_isSecond) 1 dX9_isSecond_0 rfl rfl ?_
  refine e_getR (M := mX9_isSecond) dX9_isSecond_1 fl_9007 (x_kk rfl) (x_kk rfl) rfl (wf_9_0 hR) ?_
  refine f_iconst (M := mX9_isSecond) 5 dX9_isSecond_4 ki_0 rfl ?_
  refine e_ild (M := mX9_isSecond) (w := 606) (j := 0) dX9_isSecond_5 (x_kk rfl) rfl kn_0 (by omega) (by omega) ?_
  refine f_bipush (M := mX9_isSecond) 8 dX9_isSecond_6 kb_6 rfl ?_
  refine e_icmp_lt (M := mX9_isSecond) (t := 15) dX9_isSecond_8 rfl (fun h1 => ?_) (fun h1 => ?_)
  · refine f_iconst (M := mX9_isSecond) 16 dX9_isSecond_15 ki_0 rfl ?_
    refine e_rb (M := mX9_isSecond) dX9_isSecond_16 rfl (x_kk rfl) (x_kk rfl) (by decide) ?_
    exact r_b0 (fun z => absurd z (i_nle.mpr h1))
  · refine f_iconst (M := mX9_isSecond) 12 dX9_isSecond_11 ki_1 rfl ?_
    refine f_goto (M := mX9_isSecond) 16 dX9_isSecond_12 rfl ?_
    refine e_rb (M := mX9_isSecond) dX9_isSecond_16 rfl (x_kk rfl) (x_kk rfl) (by decide) ?_
    exact r_b1 (i_nlt.mp h1)
def sp_vol (a : Nat → Int32) (s : Nat) : Int32 := if 6 ≤ a 0 then a (38 + s) else a (32 + s)
theorem c_X9_volumeAt (hR : x_wf R) {s : Nat} (hs : s < 6) : x_Cv X mX9_volumeAt [.ref 225, .int (Int32.ofNat s)] (I, L, R) 233 (.inl (some (.int (sp_vol (I 226) s))), (I, L, R), 233) := by
  show x_Ev X mX9_volumeAt 0 [some (.ref 225), some (.int (Int32.ofNat s))] [] ((I, L, R), 233, 0, 0) _
  refine f_aload_n (M := mX9_volumeAt) 1 dX9_volumeAt_0 rfl rfl ?_
  refine e_getR (M := mX9_volumeAt) dX9_volumeAt_1 fl_9007 (x_kk rfl) (x_kk rfl) rfl (wf_9_0 hR) ?_
  refine f_aload_n (M := mX9_volumeAt) 5 dX9_volumeAt_4 rfl rfl ?_
  refine e_cV (M := mX9_volumeAt) [_, _] 0 0 dX9_volumeAt_5 pa_9170 pb_9170 cc_9170 rfl rfl rfl rfl rfl (x_kk rfl) (x_kk rfl) rfl (c_X9_isSecond hR) rfl ?_
  refine e_if_eq (M := mX9_volumeAt) (t := 16) dX9_volumeAt_8 rfl (fun h1 => ?_) (fun h1 => ?_)
  · refine f_bipush (M := mX9_volumeAt) 18 dX9_volumeAt_16 kb_32 rfl ?_
    refine f_iload_n (M := mX9_volumeAt) 19 dX9_volumeAt_18 rfl rfl ?_
    refine f_iadd (M := mX9_volumeAt) 20 dX9_volumeAt_19 rfl ?_
    refine e_ild (M := mX9_volumeAt) (w := 606) (j := (32) + (s)) dX9_volumeAt_20 (x_kk rfl) rfl (ix_add kn_32 rfl) (by omega) (by omega) ?_
    refine e_ri (M := mX9_volumeAt) dX9_volumeAt_21 rfl (x_kk rfl) (x_kk rfl) ?_
    exact r_i (by unfold sp_vol; rw [if_neg (x_bE.mp h1)])
  · refine f_bipush (M := mX9_volumeAt) 13 dX9_volumeAt_11 kb_38 rfl ?_
    refine f_goto (M := mX9_volumeAt) 18 dX9_volumeAt_13 rfl ?_
    refine f_iload_n (M := mX9_volumeAt) 19 dX9_volumeAt_18 rfl rfl ?_
    refine f_iadd (M := mX9_volumeAt) 20 dX9_volumeAt_19 rfl ?_
    refine e_ild (M := mX9_volumeAt) (w := 606) (j := (38) + (s)) dX9_volumeAt_20 (x_kk rfl) rfl (ix_add kn_38 rfl) (by omega) (by omega) ?_
    refine e_ri (M := mX9_volumeAt) dX9_volumeAt_21 rfl (x_kk rfl) (x_kk rfl) ?_
    exact r_i (by unfold sp_vol; rw [if_pos (Decidable.not_not.mp (fun z => h1 (x_bE.mpr z)))])
/-- a species' part of a bid's value -/
def sp_part (a : Nat → Int32) (k : Nat) (σ h : Int32) (s : Nat) : Int64 := (if Int32.ofNat s = σ then (sp_vol a s).toInt64 * h.toInt64 / 100 else (sp_vol a s).toInt64) * (a (224 + 8 * k + s)).toInt64
def sp_val (a : Nat → Int32) (k : Nat) (σ h : Int32) (n : Nat) : Int64 := x_sum64 (sp_part a k σ h) n
theorem sp_val_s {a : Nat → Int32} {k : Nat} {σ h : Int32} {n : Nat} : sp_val a k σ h (n + 1) = sp_val a k σ h n + sp_part a k σ h n := rfl
theorem l_X9_valueOf (hR : x_wf R) {Ns : Nat} (hNs : Ns ≤ 6) (hn : I 226 8 = Int32.ofNat Ns) {q : Nat} (hq : q < 8) {σ h : Int32} {w : Option Value} : ∀ d k, k + d = Ns → x_Ev X mX9_valueOf 6 [some (.ref 225), some (.int (Int32.ofNat q)), some (.int σ), some (.int h), some (.long (sp_val (I 226) q σ h k)), none, some (.int (Int32.ofNat k)), w, none] [] ((I, L, R), 233, 0, 0) (.inl (some (.long (sp_val (I 226) q σ h Ns))), (I, L, R), 233) := by
  intro d
  induction d generalizing w with
  | zero =>
    intro k hd
    obtain rfl : Ns = k := by omega
    refine f_iload (M := mX9_valueOf) 8 dX9_valueOf_6 rfl rfl ?_
    refine f_aload_n (M := mX9_valueOf) 9 dX9_valueOf_8 rfl rfl ?_
    refine e_getR (M := mX9_valueOf) dX9_valueOf_9 fl_9007 (x_kk rfl) (x_kk rfl) rfl (wf_9_0 hR) ?_
    refine f_bipush (M := mX9_valueOf) 14 dX9_valueOf_12 kb_8 rfl ?_
    refine e_ild (M := mX9_valueOf) (w := 606) (j := 8) dX9_valueOf_14 (x_kk rfl) rfl kn_8 (by omega) (by omega) ?_
    refine e_icmp_geT (M := mX9_valueOf) 72 dX9_valueOf_15 rfl (by rw [hn]; exact Int32.le_refl _) ?_
    refine f_lload (M := mX9_valueOf) 74 dX9_valueOf_72 rfl rfl ?_
    refine e_rl (M := mX9_valueOf) dX9_valueOf_74 rfl (x_kk rfl) (x_kk rfl) ?_
    rfl
  | succ d ih =>
    intro k hd
    refine f_iload (M := mX9_valueOf) 8 dX9_valueOf_6 rfl rfl ?_
    refine f_aload_n (M := mX9_valueOf) 9 dX9_valueOf_8 rfl rfl ?_
    refine e_getR (M := mX9_valueOf) dX9_valueOf_9 fl_9007 (x_kk rfl) (x_kk rfl) rfl (wf_9_0 hR) ?_
    refine f_bipush (M := mX9_valueOf) 14 dX9_valueOf_12 kb_8 rfl ?_
    refine e_ild (M := mX9_valueOf) (w := 606) (j := 8) dX9_valueOf_14 (x_kk rfl) rfl kn_8 (by omega) (by omega) ?_
    refine e_icmp_geF (M := mX9_valueOf) 72 dX9_valueOf_15 rfl (by rw [hn, n_le (by omega) (by omega)]; omega) ?_
    refine f_iload (M := mX9_valueOf) 20 dX9_valueOf_18 rfl rfl ?_
    refine f_iload_n (M := mX9_valueOf) 21 dX9_valueOf_20 rfl rfl ?_
    refine e_icmp_ne (M := mX9_valueOf) (t := 41) dX9_valueOf_21 rfl (fun h1 => ?_) (fun h1 => ?_)
    · refine f_aload_n (M := mX9_valueOf) 42 dX9_valueOf_41 rfl rfl ?_
      refine f_iload (M := mX9_valueOf) 44 dX9_valueOf_42 rfl rfl ?_
      refine e_cV (M := mX9_valueOf) [_] 0 0 dX9_valueOf_44 pa_9177 pb_9177 cc_9177 rfl rfl rfl rfl rfl (x_kk rfl) (x_kk rfl) rfl (c_X9_volumeAt hR (by omega)) rfl ?_
      refine f_i2l (M := mX9_valueOf) 48 dX9_valueOf_47 rfl ?_
      refine f_lstore (M := mX9_valueOf) (ls' := [_, _, _, _, _, _, _, _, _]) 50 dX9_valueOf_48 rfl rfl rfl ?_
      refine f_lload (M := mX9_valueOf) 52 dX9_valueOf_50 rfl rfl ?_
      refine f_lload (M := mX9_valueOf) 54 dX9_valueOf_52 rfl rfl ?_
      refine f_aload_n (M := mX9_valueOf) 55 dX9_valueOf_54 rfl rfl ?_
      refine f_iload_n (M := mX9_valueOf) 56 dX9_valueOf_55 rfl rfl ?_
      refine f_iload (M := mX9_valueOf) 58 dX9_valueOf_56 rfl rfl ?_
      refine e_cV (M := mX9_valueOf) [_, _, _] 0 0 dX9_valueOf_58 pa_9182 pb_9182 cc_9182 rfl rfl rfl rfl rfl (x_kk rfl) (x_kk rfl) rfl (c_X9_ofBid hR hq (by omega)) rfl ?_
      refine f_i2l (M := mX9_valueOf) 62 dX9_valueOf_61 rfl ?_
      refine f_lmul (M := mX9_valueOf) 63 dX9_valueOf_62 rfl ?_
      refine f_ladd (M := mX9_valueOf) 64 dX9_valueOf_63 rfl ?_
      refine f_lstore (M := mX9_valueOf) (ls' := [_, _, _, _, _, _, _, _, _]) 66 dX9_valueOf_64 rfl rfl rfl ?_
      refine f_iinc (M := mX9_valueOf) (ls' := [_, _, _, _, _, _, _, _, _]) 69 dX9_valueOf_66 ki_1 rfl rfl rfl rfl ?_
      refine f_goto (M := mX9_valueOf) 6 dX9_valueOf_69 rfl ?_
      rw [n_inc]; rw [show sp_val (I 226) q σ h k + (sp_vol (I 226) k).toInt64 * (I 226 (224 + 8 * q + k)).toInt64 = sp_val (I 226) q σ h (k + 1) from by rw [sp_val_s]; unfold sp_part; rw [if_neg h1]]; exact ih (k + 1) (by omega)
    · refine f_aload_n (M := mX9_valueOf) 25 dX9_valueOf_24 rfl rfl ?_
      refine f_iload (M := mX9_valueOf) 27 dX9_valueOf_25 rfl rfl ?_
      refine e_cV (M := mX9_valueOf) [_] 0 0 dX9_valueOf_27 pa_9177 pb_9177 cc_9177 rfl rfl rfl rfl rfl (x_kk rfl) (x_kk rfl) rfl (c_X9_volumeAt hR (by omega)) rfl ?_
      refine f_i2l (M := mX9_valueOf) 31 dX9_valueOf_30 rfl ?_
      refine f_iload_n (M := mX9_valueOf) 32 dX9_valueOf_31 rfl rfl ?_
      refine f_i2l (M := mX9_valueOf) 33 dX9_valueOf_32 rfl ?_
      refine f_lmul (M := mX9_valueOf) 34 dX9_valueOf_33 rfl ?_
      refine f_ldc2 (M := mX9_valueOf) 37 dX9_valueOf_34 (x_kk rfl) csl_9205 rfl ?_
      refine e_ldiv (M := mX9_valueOf) dX9_valueOf_37 (by decide) ?_
      refine f_goto (M := mX9_valueOf) 48 dX9_valueOf_38 rfl ?_
      refine f_lstore (M := mX9_valueOf) (ls' := [_, _, _, _, _, _, _, _, _]) 50 dX9_valueOf_48 rfl rfl rfl ?_
      refine f_lload (M := mX9_valueOf) 52 dX9_valueOf_50 rfl rfl ?_
      refine f_lload (M := mX9_valueOf) 54 dX9_valueOf_52 rfl rfl ?_
      refine f_aload_n (M := mX9_valueOf) 55 dX9_valueOf_54 rfl rfl ?_
      refine f_iload_n (M := mX9_valueOf) 56 dX9_valueOf_55 rfl rfl ?_
      refine f_iload (M := mX9_valueOf) 58 dX9_valueOf_56 rfl rfl ?_
      refine e_cV (M := mX9_valueOf) [_, _, _] 0 0 dX9_valueOf_58 pa_9182 pb_9182 cc_9182 rfl rfl rfl rfl rfl (x_kk rfl) (x_kk rfl) rfl (c_X9_ofBid hR hq (by omega)) rfl ?_
      refine f_i2l (M := mX9_valueOf) 62 dX9_valueOf_61 rfl ?_
      refine f_lmul (M := mX9_valueOf) 63 dX9_valueOf_62 rfl ?_
      refine f_ladd (M := mX9_valueOf) 64 dX9_valueOf_63 rfl ?_
      refine f_lstore (M := mX9_valueOf) (ls' := [_, _, _, _, _, _, _, _, _]) 66 dX9_valueOf_64 rfl rfl rfl ?_
      refine f_iinc (M := mX9_valueOf) (ls' := [_, _, _, _, _, _, _, _, _]) 69 dX9_valueOf_66 ki_1 rfl rfl rfl rfl ?_
      refine f_goto (M := mX9_valueOf) 6 dX9_valueOf_69 rfl ?_
      rw [n_inc]; rw [show sp_val (I 226) q σ h k + (sp_vol (I 226) k).toInt64 * h.toInt64 / 100 * (I 226 (224 + 8 * q + k)).toInt64 = sp_val (I 226) q σ h (k + 1) from by rw [sp_val_s]; unfold sp_part; rw [if_pos (Decidable.not_not.mp h1)]]; exact ih (k + 1) (by omega)
theorem c_X9_valueOf (hR : x_wf R) {Ns : Nat} (hNs : Ns ≤ 6) (hn : I 226 8 = Int32.ofNat Ns) {q : Nat} (hq : q < 8) {σ h : Int32} : x_Cv X mX9_valueOf [.ref 225, .int (Int32.ofNat q), .int σ, .int h] (I, L, R) 233 (.inl (some (.long (sp_val (I 226) q σ h Ns))), (I, L, R), 233) := by
  show x_Ev X mX9_valueOf 0 [some (.ref 225), some (.int (Int32.ofNat q)), some (.int σ), some (.int h), none, none, none, none, none] [] ((I, L, R), 233, 0, 0) _
  refine f_lconst (M := mX9_valueOf) 1 dX9_valueOf_0 kl_0 rfl ?_
  refine f_lstore (M := mX9_valueOf) (ls' := [_, _, _, _, _, _, _, _, _]) 3 dX9_valueOf_1 rfl rfl rfl ?_
  refine f_iconst (M := mX9_valueOf) 4 dX9_valueOf_3 ki_0 rfl ?_
  refine f_istore (M := mX9_valueOf) (ls' := [_, _, _, _, _, _, _, _, _]) 6 dX9_valueOf_4 rfl rfl rfl ?_
  exact l_X9_valueOf hR hNs hn hq Ns 0 (by omega)
end

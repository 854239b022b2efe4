/-! ===== the model: readers (laid by wip/whole/src/m1.py) ===== -/
section
variable {X : x_X} {I : Nat → Nat → Int32} {L : Nat → Nat → Int64} {R : Nat → Nat → Option Nat}
theorem c_X9_isIn {v lo hi : Int64} : x_Cv X mX9_isIn [.long v, .long lo, .long hi] (I, L, R) 233 (.inl (some (.int (x_b (lo ≤ v ∧ v ≤ hi)))), (I, L, R), 233) := by
  show x_Ev X mX9_isIn 0 [some (.long v), none, some (.long lo), none, some (.long hi), none] [] ((I, L, R), 233, 0, 0) _
  refine f_lload_n (M := mX9_isIn) 1 dX9_isIn_0 rfl rfl ?_
  refine f_lload_n (M := mX9_isIn) 2 dX9_isIn_1 rfl rfl ?_
  refine f_lcmp (M := mX9_isIn) 3 dX9_isIn_2 rfl ?_
  refine e_if_lt (M := mX9_isIn) (t := 17) dX9_isIn_3 rfl (fun h1 => ?_) (fun h1 => ?_)
  · refine f_iconst (M := mX9_isIn) 18 dX9_isIn_17 ki_0 rfl ?_
    refine e_rb (M := mX9_isIn) dX9_isIn_18 rfl (x_kk rfl) (x_kk rfl) (by decide) ?_
    exact r_b0 (fun z => absurd z.1 (l_nle.mpr (lc_lt.mp h1)))
  · refine f_lload_n (M := mX9_isIn) 7 dX9_isIn_6 rfl rfl ?_
    refine f_lload (M := mX9_isIn) 9 dX9_isIn_7 rfl rfl ?_
    refine f_lcmp (M := mX9_isIn) 10 dX9_isIn_9 rfl ?_
    refine e_if_gt (M := mX9_isIn) (t := 17) dX9_isIn_10 rfl (fun h2 => ?_) (fun h2 => ?_)
    · refine f_iconst (M := mX9_isIn) 18 dX9_isIn_17 ki_0 rfl ?_
      refine e_rb (M := mX9_isIn) dX9_isIn_18 rfl (x_kk rfl) (x_kk rfl) (by decide) ?_
      exact r_b0 (fun z => absurd z.2 (l_nle.mpr (lc_gt.mp h2)))
    · refine f_iconst (M := mX9_isIn) 14 dX9_isIn_13 ki_1 rfl ?_
      refine f_goto (M := mX9_isIn) 18 dX9_isIn_14 rfl ?_
      refine e_rb (M := mX9_isIn) dX9_isIn_18 rfl (x_kk rfl) (x_kk rfl) (by decide) ?_
      exact r_b1 ⟨l_nlt.mp (fun z => h1 (lc_lt.mpr z)), l_nlt.mp (fun z => h2 (lc_gt.mpr z))⟩
theorem c_X9_isInI {v lo hi : Int32} : x_Cv X mX9_isIn [.long v.toInt64, .long lo.toInt64, .long hi.toInt64] (I, L, R) 233 (.inl (some (.int (x_b (lo ≤ v ∧ v ≤ hi)))), (I, L, R), 233) := by
  have h := c_X9_isIn (X := X) (I := I) (L := L) (R := R) (v := v.toInt64) (lo := lo.toInt64) (hi := hi.toInt64)
  rw [show x_b (lo.toInt64 ≤ v.toInt64 ∧ v.toInt64 ≤ hi.toInt64) = x_b (lo ≤ v ∧ v ≤ hi) from by unfold x_b; simp only [w_le]] at h
  exact h
theorem c_X9_isSpecies (hR : x_wf R) {v : Int32} : x_Cv X mX9_isSpecies [.ref 225, .int v] (I, L, R) 233 (.inl (some (.int (x_b (0 ≤ v ∧ v ≤ I 226 8 - 1)))), (I, L, R), 233) := by
  show x_Ev X mX9_isSpecies 0 [some (.ref 225), some (.int v)] [] ((I, L, R), 233, 0, 0) _
  refine f_iload_n (M := mX9_isSpecies) 1 dX9_isSpecies_0 rfl rfl ?_
  refine f_i2l (M := mX9_isSpecies) 2 dX9_isSpecies_1 rfl ?_
  refine f_lconst (M := mX9_isSpecies) 3 dX9_isSpecies_2 kl_0 rfl ?_
  refine f_aload_n (M := mX9_isSpecies) 4 dX9_isSpecies_3 rfl rfl ?_
  refine e_getR (M := mX9_isSpecies) dX9_isSpecies_4 fl_9007 (x_kk rfl) (x_kk rfl) rfl (wf_9_0 hR) ?_
  refine f_bipush (M := mX9_isSpecies) 9 dX9_isSpecies_7 kb_8 rfl ?_
  refine e_ild (M := mX9_isSpecies) (w := 606) (j := 8) dX9_isSpecies_9 (x_kk rfl) rfl kn_8 (by omega) (by omega) ?_
  refine f_iconst (M := mX9_isSpecies) 11 dX9_isSpecies_10 ki_1 rfl ?_
  refine f_isub (M := mX9_isSpecies) 12 dX9_isSpecies_11 rfl ?_
  refine f_i2l (M := mX9_isSpecies) 13 dX9_isSpecies_12 rfl ?_
  refine e_cS (M := mX9_isSpecies) [_] 0 0 dX9_isSpecies_13 pa_9074 cc_9074 rfl rfl rfl rfl rfl (x_kk rfl) (x_kk rfl) rfl (c_X9_isInI (lo := 0)) rfl ?_
  refine e_rb (M := mX9_isSpecies) dX9_isSpecies_16 rfl (x_kk rfl) (x_kk rfl) (by exact x_bN) ?_
  rfl
theorem c_X9_isAny (hR : x_wf R) {v : Int32} : x_Cv X mX9_isAny [.ref 225, .int v] (I, L, R) 233 (.inl (some (.int (x_b (v = -1 ∨ (0 ≤ v ∧ v ≤ I 226 8 - 1))))), (I, L, R), 233) := by
  show x_Ev X mX9_isAny 0 [some (.ref 225), some (.int v)] [] ((I, L, R), 233, 0, 0) _
  refine f_iload_n (M := mX9_isAny) 1 dX9_isAny_0 rfl rfl ?_
  refine f_iconst (M := mX9_isAny) 2 dX9_isAny_1 ki_m1 rfl ?_
  refine e_icmp_eq (M := mX9_isAny) (t := 13) dX9_isAny_2 rfl (fun h1 => ?_) (fun h1 => ?_)
  · refine f_iconst (M := mX9_isAny) 14 dX9_isAny_13 ki_1 rfl ?_
    refine f_goto (M := mX9_isAny) 18 dX9_isAny_14 rfl ?_
    refine e_rb (M := mX9_isAny) dX9_isAny_18 rfl (x_kk rfl) (x_kk rfl) (by decide) ?_
    exact r_b1 (Or.inl h1)
  · refine f_aload_n (M := mX9_isAny) 6 dX9_isAny_5 rfl rfl ?_
    refine f_iload_n (M := mX9_isAny) 7 dX9_isAny_6 rfl rfl ?_
    refine e_cV (M := mX9_isAny) [_] 0 0 dX9_isAny_7 pa_9137 pb_9137 cc_9137 rfl rfl rfl rfl rfl (x_kk rfl) (x_kk rfl) rfl (c_X9_isSpecies hR) rfl ?_
    refine e_if_eq (M := mX9_isAny) (t := 17) dX9_isAny_10 rfl (fun h2 => ?_) (fun h2 => ?_)
    · refine f_iconst (M := mX9_isAny) 18 dX9_isAny_17 ki_0 rfl ?_
      refine e_rb (M := mX9_isAny) dX9_isAny_18 rfl (x_kk rfl) (x_kk rfl) (by decide) ?_
      exact r_b0 (fun z => z.elim h1 (x_bE.mp h2))
    · refine f_iconst (M := mX9_isAny) 14 dX9_isAny_13 ki_1 rfl ?_
      refine f_goto (M := mX9_isAny) 18 dX9_isAny_14 rfl ?_
      refine e_rb (M := mX9_isAny) dX9_isAny_18 rfl (x_kk rfl) (x_kk rfl) (by decide) ?_
      exact r_b1 (Or.inr (Decidable.not_not.mp (fun z => h2 (x_bE.mpr z))))
theorem c_X9_ofBid (hR : x_wf R) {q j : Nat} (hq : q < 8) (hj : j < 8) : x_Cv X mX9_ofBid [.ref 225, .int (Int32.ofNat q), .int (Int32.ofNat j)] (I, L, R) 233 (.inl (some (.int (I 226 (224 + 8 * q + j)))), (I, L, R), 233) := by
  show x_Ev X mX9_ofBid 0 [some (.ref 225), some (.int (Int32.ofNat q)), some (.int (Int32.ofNat j))] [] ((I, L, R), 233, 0, 0) _
  refine f_aload_n (M := mX9_ofBid) 1 dX9_ofBid_0 rfl rfl ?_
  refine e_getR (M := mX9_ofBid) dX9_ofBid_1 fl_9007 (x_kk rfl) (x_kk rfl) rfl (wf_9_0 hR) ?_
  refine f_sipush (M := mX9_ofBid) 7 dX9_ofBid_4 ks_224 rfl ?_
  refine f_bipush (M := mX9_ofBid) 9 dX9_ofBid_7 kb_8 rfl ?_
  refine f_iload_n (M := mX9_ofBid) 10 dX9_ofBid_9 rfl rfl ?_
  refine f_imul (M := mX9_ofBid) 11 dX9_ofBid_10 rfl ?_
  refine f_iadd (M := mX9_ofBid) 12 dX9_ofBid_11 rfl ?_
  refine f_iload_n (M := mX9_ofBid) 13 dX9_ofBid_12 rfl rfl ?_
  refine f_iadd (M := mX9_ofBid) 14 dX9_ofBid_13 rfl ?_
  refine e_ild (M := mX9_ofBid) (w := 606) (j := ((224) + ((8) * (q))) + (j)) dX9_ofBid_14 (x_kk rfl) rfl (ix_add (ix_add kn_224 (ix_mul kn_8 rfl)) rfl) (by omega) (by omega) ?_
  refine e_ri (M := mX9_ofBid) dX9_ofBid_15 rfl (x_kk rfl) (x_kk rfl) ?_
  rfl
theorem c_X9_ofLoad (hR : x_wf R) {q j : Nat} (hq : q < 60) (hj : j < 4) : x_Cv X mX9_ofLoad [.ref 225, .int (Int32.ofNat q), .int (Int32.ofNat j)] (I, L, R) 233 (.inl (some (.int (I 226 (366 + 4 * q + j)))), (I, L, R), 233) := by
  show x_Ev X mX9_ofLoad 0 [some (.ref 225), some (.int (Int32.ofNat q)), some (.int (Int32.ofNat j))] [] ((I, L, R), 233, 0, 0) _
  refine f_aload_n (M := mX9_ofLoad) 1 dX9_ofLoad_0 rfl rfl ?_
  refine e_getR (M := mX9_ofLoad) dX9_ofLoad_1 fl_9007 (x_kk rfl) (x_kk rfl) rfl (wf_9_0 hR) ?_
  refine f_sipush (M := mX9_ofLoad) 7 dX9_ofLoad_4 ks_366 rfl ?_
  refine f_iconst (M := mX9_ofLoad) 8 dX9_ofLoad_7 ki_4 rfl ?_
  refine f_iload_n (M := mX9_ofLoad) 9 dX9_ofLoad_8 rfl rfl ?_
  refine f_imul (M := mX9_ofLoad) 10 dX9_ofLoad_9 rfl ?_
  refine f_iadd (M := mX9_ofLoad) 11 dX9_ofLoad_10 rfl ?_
  refine f_iload_n (M := mX9_ofLoad) 12 dX9_ofLoad_11 rfl rfl ?_
  refine f_iadd (M := mX9_ofLoad) 13 dX9_ofLoad_12 rfl ?_
  refine e_ild (M := mX9_ofLoad) (w := 606) (j := ((366) + ((4) * (q))) + (j)) dX9_ofLoad_13 (x_kk rfl) rfl (ix_add (ix_add kn_366 (ix_mul kn_4 rfl)) rfl) (by omega) (by omega) ?_
  refine e_ri (M := mX9_ofLoad) dX9_ofLoad_14 rfl (x_kk rfl) (x_kk rfl) ?_
  rfl
theorem c_X9_isSealed (hR : x_wf R) {q : Nat} (hq : q < 8) : x_Cv X mX9_isSealed [.ref 225, .int (Int32.ofNat q)] (I, L, R) 233 (.inl (some (.int (x_b (0 < I 226 (224 + 8 * q + 7))))), (I, L, R), 233) := by
  show x_Ev X mX9_isSealed 0 [some (.ref 225), some (.int (Int32.ofNat q))] [] ((I, L, R), 233, 0, 0) _
  refine f_aload_n (M := mX9_isSealed) 1 dX9_isSealed_0 rfl rfl ?_
  refine f_iload_n (M := mX9_isSealed) 2 dX9_isSealed_1 rfl rfl ?_
  refine f_bipush (M := mX9_isSealed) 4 dX9_isSealed_2 kb_7 rfl ?_
  refine e_cV (M := mX9_isSealed) [_] 0 0 dX9_isSealed_4 pa_9182 pb_9182 cc_9182 rfl rfl rfl rfl rfl (x_kk rfl) (x_kk rfl) rfl (c_X9_ofBid (j := 7) hR hq (by omega)) rfl ?_
  refine e_if_le (M := mX9_isSealed) (t := 14) dX9_isSealed_7 rfl (fun h1 => ?_) (fun h1 => ?_)
  · refine f_iconst (M := mX9_isSealed) 15 dX9_isSealed_14 ki_0 rfl ?_
    refine e_rb (M := mX9_isSealed) dX9_isSealed_15 rfl (x_kk rfl) (x_kk rfl) (by decide) ?_
    exact r_b0 (fun z => absurd h1 (i_nle.mpr z))
  · refine f_iconst (M := mX9_isSealed) 11 dX9_isSealed_10 ki_1 rfl ?_
    refine f_goto (M := mX9_isSealed) 15 dX9_isSealed_11 rfl ?_
    refine e_rb (M := mX9_isSealed) dX9_isSealed_15 rfl (x_kk rfl) (x_kk rfl) (by decide) ?_
    exact r_b1 (i_nle.mp h1)
theorem c_X9_inPlot (hR : x_wf R) {p s : Nat} (hp : p < 30) (hs : s < 6) : x_Cv X mX9_inPlot [.ref 225, .int (Int32.ofNat p), .int (Int32.ofNat s)] (I, L, R) 233 (.inl (some (.int (I 226 (44 + 6 * p + s)))), (I, L, R), 233) := by
  show x_Ev X mX9_inPlot 0 [some (.ref 225), some (.int (Int32.ofNat p)), some (.int (Int32.ofNat s)), none, none] [] ((I, L, R), 233, 0, 0) _
  refine f_iload_n (M := mX9_inPlot) 1 dX9_inPlot_0 rfl rfl ?_
  refine f_iconst (M := mX9_inPlot) 2 dX9_inPlot_1 ki_m1 rfl ?_
  refine e_icmp_eqF (M := mX9_inPlot) 20 dX9_inPlot_2 rfl (n_ne1 (by omega)) ?_
  refine f_aload_n (M := mX9_inPlot) 6 dX9_inPlot_5 rfl rfl ?_
  refine e_getR (M := mX9_inPlot) dX9_inPlot_6 fl_9007 (x_kk rfl) (x_kk rfl) rfl (wf_9_0 hR) ?_
  refine f_bipush (M := mX9_inPlot) 11 dX9_inPlot_9 kb_44 rfl ?_
  refine f_bipush (M := mX9_inPlot) 13 dX9_inPlot_11 kb_6 rfl ?_
  refine f_iload_n (M := mX9_inPlot) 14 dX9_inPlot_13 rfl rfl ?_
  refine f_imul (M := mX9_inPlot) 15 dX9_inPlot_14 rfl ?_
  refine f_iadd (M := mX9_inPlot) 16 dX9_inPlot_15 rfl ?_
  refine f_iload_n (M := mX9_inPlot) 17 dX9_inPlot_16 rfl rfl ?_
  refine f_iadd (M := mX9_inPlot) 18 dX9_inPlot_17 rfl ?_
  refine e_ild (M := mX9_inPlot) (w := 606) (j := ((44) + ((6) * (p))) + (s)) dX9_inPlot_18 (x_kk rfl) rfl (ix_add (ix_add kn_44 (ix_mul kn_6 rfl)) rfl) (by omega) (by omega) ?_
  refine e_ri (M := mX9_inPlot) dX9_inPlot_19 rfl (x_kk rfl) (x_kk rfl) ?_
  rfl
/-- the sum of a plot's volumes -/
def sp_all (a : Nat → Int32) (p : Nat) : Nat → Int32 := x_sum32 (fun s => a (44 + 6 * p + s))
theorem l_X9_inPlot (hR : x_wf R) {p : Nat} (hp : p < 30) : ∀ d s, s + d = 6 → x_Ev X mX9_inPlot 25 [some (.ref 225), some (.int (Int32.ofNat p)), some (.int (-1)), some (.int (sp_all (I 226) p s)), some (.int (Int32.ofNat s))] [] ((I, L, R), 233, 0, 0) (.inl (some (.int (sp_all (I 226) p 6))), (I, L, R), 233) := by
  intro d
  induction d with
  | zero =>
    intro s hs
    obtain rfl : s = 6 := hs
    refine f_iload (M := mX9_inPlot) 27 dX9_inPlot_25 rfl rfl ?_
    refine f_bipush (M := mX9_inPlot) 29 dX9_inPlot_27 kb_6 rfl ?_
    refine e_icmp_geT (M := mX9_inPlot) 56 dX9_inPlot_29 rfl (by decide) ?_
    refine f_iload_n (M := mX9_inPlot) 57 dX9_inPlot_56 rfl rfl ?_
    refine e_ri (M := mX9_inPlot) dX9_inPlot_57 rfl (x_kk rfl) (x_kk rfl) ?_
    rfl
  | succ d ih =>
    intro s hs
    refine f_iload (M := mX9_inPlot) 27 dX9_inPlot_25 rfl rfl ?_
    refine f_bipush (M := mX9_inPlot) 29 dX9_inPlot_27 kb_6 rfl ?_
    refine e_icmp_geF (M := mX9_inPlot) 56 dX9_inPlot_29 rfl (fun z => absurd ((n_le (a := 6) (b := s) (by omega) (by omega)).mp z) (by omega)) ?_
    refine f_iload_n (M := mX9_inPlot) 33 dX9_inPlot_32 rfl rfl ?_
    refine f_aload_n (M := mX9_inPlot) 34 dX9_inPlot_33 rfl rfl ?_
    refine e_getR (M := mX9_inPlot) dX9_inPlot_34 fl_9007 (x_kk rfl) (x_kk rfl) rfl (wf_9_0 hR) ?_
    refine f_bipush (M := mX9_inPlot) 39 dX9_inPlot_37 kb_44 rfl ?_
    refine f_bipush (M := mX9_inPlot) 41 dX9_inPlot_39 kb_6 rfl ?_
    refine f_iload_n (M := mX9_inPlot) 42 dX9_inPlot_41 rfl rfl ?_
    refine f_imul (M := mX9_inPlot) 43 dX9_inPlot_42 rfl ?_
    refine f_iadd (M := mX9_inPlot) 44 dX9_inPlot_43 rfl ?_
    refine f_iload (M := mX9_inPlot) 46 dX9_inPlot_44 rfl rfl ?_
    refine f_iadd (M := mX9_inPlot) 47 dX9_inPlot_46 rfl ?_
    refine e_ild (M := mX9_inPlot) (w := 606) (j := ((44) + ((6) * (p))) + (s)) dX9_inPlot_47 (x_kk rfl) rfl (ix_add (ix_add kn_44 (ix_mul kn_6 rfl)) rfl) (by omega) (by omega) ?_
    refine f_iadd (M := mX9_inPlot) 49 dX9_inPlot_48 rfl ?_
    refine f_istore_n (M := mX9_inPlot) (ls' := [_, _, _, _, _]) 50 dX9_inPlot_49 rfl rfl rfl ?_
    refine f_iinc (M := mX9_inPlot) (ls' := [_, _, _, _, _]) 53 dX9_inPlot_50 ki_1 rfl rfl rfl rfl ?_
    refine f_goto (M := mX9_inPlot) 25 dX9_inPlot_53 rfl ?_
    rw [n_inc]; exact ih (s + 1) (by omega)
theorem c_X9_inPlotN (hR : x_wf R) {p : Nat} (hp : p < 30) : x_Cv X mX9_inPlot [.ref 225, .int (Int32.ofNat p), .int (-1)] (I, L, R) 233 (.inl (some (.int (sp_all (I 226) p 6))), (I, L, R), 233) := by
  show x_Ev X mX9_inPlot 0 [some (.ref 225), some (.int (Int32.ofNat p)), some (.int (-1)), none, none] [] ((I, L, R), 233, 0, 0) _
  refine f_iload_n (M := mX9_inPlot) 1 dX9_inPlot_0 rfl rfl ?_
  refine f_iconst (M := mX9_inPlot) 2 dX9_inPlot_1 ki_m1 rfl ?_
  refine e_icmp_eqT (M := mX9_inPlot) 20 dX9_inPlot_2 rfl rfl ?_
  refine f_iconst (M := mX9_inPlot) 21 dX9_inPlot_20 ki_0 rfl ?_
  refine f_istore_n (M := mX9_inPlot) (ls' := [_, _, _, _, _]) 22 dX9_inPlot_21 rfl rfl rfl ?_
  refine f_iconst (M := mX9_inPlot) 23 dX9_inPlot_22 ki_0 rfl ?_
  refine f_istore (M := mX9_inPlot) (ls' := [_, _, _, _, _]) 25 dX9_inPlot_23 rfl rfl rfl ?_
  exact l_X9_inPlot hR hp 6 0 rfl
end

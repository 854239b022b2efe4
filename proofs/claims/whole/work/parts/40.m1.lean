/-! ===== the model: readers (laid by wip/whole/src/m1.py) ===== -/
section
variable {X : x_X} {I : Nat → Nat → Int32} {L : Nat → Nat → Int64} {R : Nat → Nat → Option Nat}
theorem c_X9_isIn {v lo hi : Int64} : x_Cv X mX9_isIn [.long v, .long lo, .long hi] (I, L, R) 233 (.inl (some (.int (x_b (lo ≤ v ∧ v ≤ hi)))), (I, L, R), 233) := by
  show x_Ev X mX9_isIn 0 [some (.long v), none, some (.long lo), none, some (.long hi), none] [] ((I, L, R), 233, 0, 0) _
  refine e_st 1 dX9_isIn_0 rfl rfl ?_
  refine e_st 2 dX9_isIn_1 rfl rfl ?_
  refine e_st 3 dX9_isIn_2 rfl rfl ?_
  refine e_if_lt (t := 17) dX9_isIn_3 rfl (fun h1 => ?_) (fun h1 => ?_)
  · refine e_st 18 dX9_isIn_17 rfl rfl ?_
    refine e_rb dX9_isIn_18 rfl (x_kk rfl) (x_kk rfl) (by decide) ?_
    exact r_b0 (fun z => absurd z.1 (l_nle.mpr (lc_lt.mp h1)))
  · refine e_st 7 dX9_isIn_6 rfl rfl ?_
    refine e_st 9 dX9_isIn_7 rfl rfl ?_
    refine e_st 10 dX9_isIn_9 rfl rfl ?_
    refine e_if_gt (t := 17) dX9_isIn_10 rfl (fun h2 => ?_) (fun h2 => ?_)
    · refine e_st 18 dX9_isIn_17 rfl rfl ?_
      refine e_rb dX9_isIn_18 rfl (x_kk rfl) (x_kk rfl) (by decide) ?_
      exact r_b0 (fun z => absurd z.2 (l_nle.mpr (lc_gt.mp h2)))
    · refine e_st 14 dX9_isIn_13 rfl rfl ?_
      refine e_st 18 dX9_isIn_14 rfl rfl ?_
      refine e_rb dX9_isIn_18 rfl (x_kk rfl) (x_kk rfl) (by decide) ?_
      exact r_b1 ⟨l_nlt.mp (fun z => h1 (lc_lt.mpr z)), l_nlt.mp (fun z => h2 (lc_gt.mpr z))⟩
theorem c_X9_isInI {v lo hi : Int32} : x_Cv X mX9_isIn [.long v.toInt64, .long lo.toInt64, .long hi.toInt64] (I, L, R) 233 (.inl (some (.int (x_b (lo ≤ v ∧ v ≤ hi)))), (I, L, R), 233) := by
  have h := c_X9_isIn (X := X) (I := I) (L := L) (R := R) (v := v.toInt64) (lo := lo.toInt64) (hi := hi.toInt64)
  rw [show x_b (lo.toInt64 ≤ v.toInt64 ∧ v.toInt64 ≤ hi.toInt64) = x_b (lo ≤ v ∧ v ≤ hi) from by unfold x_b; simp only [w_le]] at h
  exact h
theorem c_X9_isSpecies (hR : x_wf R) {v : Int32} : x_Cv X mX9_isSpecies [.ref 225, .int v] (I, L, R) 233 (.inl (some (.int (x_b (0 ≤ v ∧ v ≤ I 226 8 - 1)))), (I, L, R), 233) := by
  show x_Ev X mX9_isSpecies 0 [some (.ref 225), some (.int v)] [] ((I, L, R), 233, 0, 0) _
  refine e_st 1 dX9_isSpecies_0 rfl rfl ?_
  refine e_st 2 dX9_isSpecies_1 rfl rfl ?_
  refine e_st 3 dX9_isSpecies_2 rfl rfl ?_
  refine e_st 4 dX9_isSpecies_3 rfl rfl ?_
  refine e_getR dX9_isSpecies_4 fl_9007 (x_kk rfl) (x_kk rfl) rfl (wf_9_0 hR) ?_
  refine e_st 9 dX9_isSpecies_7 rfl rfl ?_
  refine e_ild (w := 606) (j := 8) dX9_isSpecies_9 (x_kk rfl) rfl rfl (by omega) (by omega) ?_
  refine e_st 11 dX9_isSpecies_10 rfl rfl ?_
  refine e_st 12 dX9_isSpecies_11 rfl rfl ?_
  refine e_st 13 dX9_isSpecies_12 rfl rfl ?_
  refine e_cS [_] 0 0 dX9_isSpecies_13 pa_9074 cc_9074 rfl rfl rfl rfl rfl (x_kk rfl) (x_kk rfl) rfl (c_X9_isInI (lo := 0)) rfl ?_
  refine e_rb dX9_isSpecies_16 rfl (x_kk rfl) (x_kk rfl) (by exact x_bN) ?_
  rfl
theorem c_X9_isAny (hR : x_wf R) {v : Int32} : x_Cv X mX9_isAny [.ref 225, .int v] (I, L, R) 233 (.inl (some (.int (x_b (v = -1 ∨ (0 ≤ v ∧ v ≤ I 226 8 - 1))))), (I, L, R), 233) := by
  show x_Ev X mX9_isAny 0 [some (.ref 225), some (.int v)] [] ((I, L, R), 233, 0, 0) _
  refine e_st 1 dX9_isAny_0 rfl rfl ?_
  refine e_st 2 dX9_isAny_1 rfl rfl ?_
  refine e_icmp_eq (t := 13) dX9_isAny_2 rfl (fun h1 => ?_) (fun h1 => ?_)
  · refine e_st 14 dX9_isAny_13 rfl rfl ?_
    refine e_st 18 dX9_isAny_14 rfl rfl ?_
    refine e_rb dX9_isAny_18 rfl (x_kk rfl) (x_kk rfl) (by decide) ?_
    exact r_b1 (Or.inl h1)
  · refine e_st 6 dX9_isAny_5 rfl rfl ?_
    refine e_st 7 dX9_isAny_6 rfl rfl ?_
    refine e_cV [_] 0 0 dX9_isAny_7 pa_9137 pb_9137 cc_9137 rfl rfl rfl rfl rfl (x_kk rfl) (x_kk rfl) rfl (c_X9_isSpecies hR) rfl ?_
    refine e_if_eq (t := 17) dX9_isAny_10 rfl (fun h2 => ?_) (fun h2 => ?_)
    · refine e_st 18 dX9_isAny_17 rfl rfl ?_
      refine e_rb dX9_isAny_18 rfl (x_kk rfl) (x_kk rfl) (by decide) ?_
      exact r_b0 (fun z => z.elim h1 (x_bE.mp h2))
    · refine e_st 14 dX9_isAny_13 rfl rfl ?_
      refine e_st 18 dX9_isAny_14 rfl rfl ?_
      refine e_rb dX9_isAny_18 rfl (x_kk rfl) (x_kk rfl) (by decide) ?_
      exact r_b1 (Or.inr (Decidable.not_not.mp (fun z => h2 (x_bE.mpr z))))
theorem c_X9_ofBid (hR : x_wf R) {q j : Nat} (hq : q < 8) (hj : j < 8) : x_Cv X mX9_ofBid [.ref 225, .int (Int32.ofNat q), .int (Int32.ofNat j)] (I, L, R) 233 (.inl (some (.int (I 226 (224 + 8 * q + j)))), (I, L, R), 233) := by
  show x_Ev X mX9_ofBid 0 [some (.ref 225), some (.int (Int32.ofNat q)), some (.int (Int32.ofNat j))] [] ((I, L, R), 233, 0, 0) _
  refine e_st 1 dX9_ofBid_0 rfl rfl ?_
  refine e_getR dX9_ofBid_1 fl_9007 (x_kk rfl) (x_kk rfl) rfl (wf_9_0 hR) ?_
  refine e_st 7 dX9_ofBid_4 rfl rfl ?_
  refine e_st 9 dX9_ofBid_7 rfl rfl ?_
  refine e_st 10 dX9_ofBid_9 rfl rfl ?_
  refine e_st 11 dX9_ofBid_10 rfl rfl ?_
  refine e_st 12 dX9_ofBid_11 rfl rfl ?_
  refine e_st 13 dX9_ofBid_12 rfl rfl ?_
  refine e_st 14 dX9_ofBid_13 rfl rfl ?_
  refine e_ild (w := 606) (j := ((224) + ((8) * (q))) + (j)) dX9_ofBid_14 (x_kk rfl) rfl (ix_add (ix_add rfl (ix_mul rfl rfl)) rfl) (by omega) (by omega) ?_
  refine e_ri dX9_ofBid_15 rfl (x_kk rfl) (x_kk rfl) ?_
  rfl
theorem c_X9_ofLoad (hR : x_wf R) {q j : Nat} (hq : q < 60) (hj : j < 4) : x_Cv X mX9_ofLoad [.ref 225, .int (Int32.ofNat q), .int (Int32.ofNat j)] (I, L, R) 233 (.inl (some (.int (I 226 (366 + 4 * q + j)))), (I, L, R), 233) := by
  show x_Ev X mX9_ofLoad 0 [some (.ref 225), some (.int (Int32.ofNat q)), some (.int (Int32.ofNat j))] [] ((I, L, R), 233, 0, 0) _
  refine e_st 1 dX9_ofLoad_0 rfl rfl ?_
  refine e_getR dX9_ofLoad_1 fl_9007 (x_kk rfl) (x_kk rfl) rfl (wf_9_0 hR) ?_
  refine e_st 7 dX9_ofLoad_4 rfl rfl ?_
  refine e_st 8 dX9_ofLoad_7 rfl rfl ?_
  refine e_st 9 dX9_ofLoad_8 rfl rfl ?_
  refine e_st 10 dX9_ofLoad_9 rfl rfl ?_
  refine e_st 11 dX9_ofLoad_10 rfl rfl ?_
  refine e_st 12 dX9_ofLoad_11 rfl rfl ?_
  refine e_st 13 dX9_ofLoad_12 rfl rfl ?_
  refine e_ild (w := 606) (j := ((366) + ((4) * (q))) + (j)) dX9_ofLoad_13 (x_kk rfl) rfl (ix_add (ix_add rfl (ix_mul rfl rfl)) rfl) (by omega) (by omega) ?_
  refine e_ri dX9_ofLoad_14 rfl (x_kk rfl) (x_kk rfl) ?_
  rfl
theorem c_X9_isSealed (hR : x_wf R) {q : Nat} (hq : q < 8) : x_Cv X mX9_isSealed [.ref 225, .int (Int32.ofNat q)] (I, L, R) 233 (.inl (some (.int (x_b (0 < I 226 (224 + 8 * q + 7))))), (I, L, R), 233) := by
  show x_Ev X mX9_isSealed 0 [some (.ref 225), some (.int (Int32.ofNat q))] [] ((I, L, R), 233, 0, 0) _
  refine e_st 1 dX9_isSealed_0 rfl rfl ?_
  refine e_st 2 dX9_isSealed_1 rfl rfl ?_
  refine e_st 4 dX9_isSealed_2 rfl rfl ?_
  refine e_cV [_] 0 0 dX9_isSealed_4 pa_9182 pb_9182 cc_9182 rfl rfl rfl rfl rfl (x_kk rfl) (x_kk rfl) rfl (c_X9_ofBid (j := 7) hR hq (by omega)) rfl ?_
  refine e_if_le (t := 14) dX9_isSealed_7 rfl (fun h1 => ?_) (fun h1 => ?_)
  · refine e_st 15 dX9_isSealed_14 rfl rfl ?_
    refine e_rb dX9_isSealed_15 rfl (x_kk rfl) (x_kk rfl) (by decide) ?_
    exact r_b0 (fun z => absurd h1 (i_nle.mpr z))
  · refine e_st 11 dX9_isSealed_10 rfl rfl ?_
    refine e_st 15 dX9_isSealed_11 rfl rfl ?_
    refine e_rb dX9_isSealed_15 rfl (x_kk rfl) (x_kk rfl) (by decide) ?_
    exact r_b1 (i_nle.mp h1)
theorem c_X9_inPlot (hR : x_wf R) {p s : Nat} (hp : p < 30) (hs : s < 6) : x_Cv X mX9_inPlot [.ref 225, .int (Int32.ofNat p), .int (Int32.ofNat s)] (I, L, R) 233 (.inl (some (.int (I 226 (44 + 6 * p + s)))), (I, L, R), 233) := by
  show x_Ev X mX9_inPlot 0 [some (.ref 225), some (.int (Int32.ofNat p)), some (.int (Int32.ofNat s)), none, none] [] ((I, L, R), 233, 0, 0) _
  refine e_st 1 dX9_inPlot_0 rfl rfl ?_
  refine e_st 2 dX9_inPlot_1 rfl rfl ?_
  refine e_icmp_eqF 20 dX9_inPlot_2 rfl (n_ne1 (by omega)) ?_
  refine e_st 6 dX9_inPlot_5 rfl rfl ?_
  refine e_getR dX9_inPlot_6 fl_9007 (x_kk rfl) (x_kk rfl) rfl (wf_9_0 hR) ?_
  refine e_st 11 dX9_inPlot_9 rfl rfl ?_
  refine e_st 13 dX9_inPlot_11 rfl rfl ?_
  refine e_st 14 dX9_inPlot_13 rfl rfl ?_
  refine e_st 15 dX9_inPlot_14 rfl rfl ?_
  refine e_st 16 dX9_inPlot_15 rfl rfl ?_
  refine e_st 17 dX9_inPlot_16 rfl rfl ?_
  refine e_st 18 dX9_inPlot_17 rfl rfl ?_
  refine e_ild (w := 606) (j := ((44) + ((6) * (p))) + (s)) dX9_inPlot_18 (x_kk rfl) rfl (ix_add (ix_add rfl (ix_mul rfl rfl)) rfl) (by omega) (by omega) ?_
  refine e_ri dX9_inPlot_19 rfl (x_kk rfl) (x_kk rfl) ?_
  rfl
/-- the sum of a plot's volumes -/
def sp_all (a : Nat → Int32) (p : Nat) : Nat → Int32 := x_sum32 (fun s => a (44 + 6 * p + s))
theorem l_X9_inPlot (hR : x_wf R) {p : Nat} (hp : p < 30) : ∀ d s, s + d = 6 → x_Ev X mX9_inPlot 25 [some (.ref 225), some (.int (Int32.ofNat p)), some (.int (-1)), some (.int (sp_all (I 226) p s)), some (.int (Int32.ofNat s))] [] ((I, L, R), 233, 0, 0) (.inl (some (.int (sp_all (I 226) p 6))), (I, L, R), 233) := by
  intro d
  induction d with
  | zero =>
    intro s hs
    obtain rfl : s = 6 := hs
    refine e_st 27 dX9_inPlot_25 rfl rfl ?_
    refine e_st 29 dX9_inPlot_27 rfl rfl ?_
    refine e_icmp_geT 56 dX9_inPlot_29 rfl (by decide) ?_
    refine e_st 57 dX9_inPlot_56 rfl rfl ?_
    refine e_ri dX9_inPlot_57 rfl (x_kk rfl) (x_kk rfl) ?_
    rfl
  | succ d ih =>
    intro s hs
    refine e_st 27 dX9_inPlot_25 rfl rfl ?_
    refine e_st 29 dX9_inPlot_27 rfl rfl ?_
    refine e_icmp_geF 56 dX9_inPlot_29 rfl (fun z => absurd ((n_le (a := 6) (b := s) (by omega) (by omega)).mp z) (by omega)) ?_
    refine e_st 33 dX9_inPlot_32 rfl rfl ?_
    refine e_st 34 dX9_inPlot_33 rfl rfl ?_
    refine e_getR dX9_inPlot_34 fl_9007 (x_kk rfl) (x_kk rfl) rfl (wf_9_0 hR) ?_
    refine e_st 39 dX9_inPlot_37 rfl rfl ?_
    refine e_st 41 dX9_inPlot_39 rfl rfl ?_
    refine e_st 42 dX9_inPlot_41 rfl rfl ?_
    refine e_st 43 dX9_inPlot_42 rfl rfl ?_
    refine e_st 44 dX9_inPlot_43 rfl rfl ?_
    refine e_st 46 dX9_inPlot_44 rfl rfl ?_
    refine e_st 47 dX9_inPlot_46 rfl rfl ?_
    refine e_ild (w := 606) (j := ((44) + ((6) * (p))) + (s)) dX9_inPlot_47 (x_kk rfl) rfl (ix_add (ix_add rfl (ix_mul rfl rfl)) rfl) (by omega) (by omega) ?_
    refine e_st 49 dX9_inPlot_48 rfl rfl ?_
    refine e_st (ls' := [_, _, _, _, _]) 50 dX9_inPlot_49 rfl rfl ?_
    refine e_st (ls' := [_, _, _, _, _]) 53 dX9_inPlot_50 rfl rfl ?_
    refine e_st 25 dX9_inPlot_53 rfl rfl ?_
    rw [n_inc]; exact ih (s + 1) (by omega)
theorem c_X9_inPlotN (hR : x_wf R) {p : Nat} (hp : p < 30) : x_Cv X mX9_inPlot [.ref 225, .int (Int32.ofNat p), .int (-1)] (I, L, R) 233 (.inl (some (.int (sp_all (I 226) p 6))), (I, L, R), 233) := by
  show x_Ev X mX9_inPlot 0 [some (.ref 225), some (.int (Int32.ofNat p)), some (.int (-1)), none, none] [] ((I, L, R), 233, 0, 0) _
  refine e_st 1 dX9_inPlot_0 rfl rfl ?_
  refine e_st 2 dX9_inPlot_1 rfl rfl ?_
  refine e_icmp_eqT 20 dX9_inPlot_2 rfl rfl ?_
  refine e_st 21 dX9_inPlot_20 rfl rfl ?_
  refine e_st (ls' := [_, _, _, _, _]) 22 dX9_inPlot_21 rfl rfl ?_
  refine e_st 23 dX9_inPlot_22 rfl rfl ?_
  refine e_st (ls' := [_, _, _, _, _]) 25 dX9_inPlot_23 rfl rfl ?_
  exact l_X9_inPlot hR hp 6 0 rfl
end

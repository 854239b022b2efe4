/-! ===== the law, first: its beginning (laid by wip/whole/src/law1.py) ===== -/
section
variable {X : x_X} {I : Nat → Nat → Int32} {L : Nat → Nat → Int64} {R : Nat → Nat → Option Nat} {N : Nat}
theorem law_0 : ∃ I L R, y_T 0 I L R ∧ ∀ r, x_Ev X mL_law 23 [some (.ref 1000), some (.ref 0), some (.ref 225), some (.ref 232), some (.int 0), none, none, none] [] ((I, L, R), 233, 233, 14655) r → x_Ev X mL_law 0 [some (.ref 1000), none, none, none, none, none, none, none] [] (x_m0, 0, 0, 0) r := by
  obtain ⟨I1, L1, R1, k1, i11, i12, i31, i32, r00, r01, r02, r03, r10, r30, r4, wb, rep⟩ := i_X8 (X := X) (I := va_up (fun _ _ => 0) 0 (fun _ => 0)) (L := va_up (fun _ _ => 0) 0 (fun _ => 0)) (R := va_up (fun _ _ => none) 0 (fun _ => none))
  obtain ⟨I2, L2, R2, k2, f2, i226, l229, i5, i8, i15, r90, r91, r92, r93, r94, r97⟩ := i_X9 (X := X) (I := va_up I1 225 (fun _ => 0)) (L := va_up L1 225 (fun _ => 0)) (R := va_up R1 225 (fun _ => none))
  have fI : ∀ q, q < 225 → va_up I2 232 (fun _ => 0) q = I1 q := fun q hq => by rw [x_up_ne _ _ (by omega), (f2 q hq).1, x_up_ne _ _ (by omega)]
  have fL : ∀ q, q < 225 → va_up L2 232 (fun _ => 0) q = L1 q := fun q hq => by rw [x_up_ne _ _ (by omega), (f2 q hq).2.1, x_up_ne _ _ (by omega)]
  have fR : ∀ q, q < 225 → va_up R2 232 (fun _ => none) q = R1 q := fun q hq => by rw [x_up_ne _ _ (by omega), (f2 q hq).2.2, x_up_ne _ _ (by omega)]
  refine ⟨va_up I2 232 (fun _ => 0), va_up L2 232 (fun _ => 0), va_up R2 232 (fun _ => none), T_0 (by rw [fR 0 (by decide)]; exact r00) (by rw [fR 0 (by decide)]; exact r01) (by rw [fR 0 (by decide)]; exact r02) (by rw [fR 0 (by decide)]; exact r03) (by rw [fR 1 (by decide)]; exact r10) (by rw [fR 3 (by decide)]; exact r30) (by rw [fR 4 (by decide)]; exact r4) (fun i hi => wb_c (fun k hk => fR _ (by omega)) (wb i hi)) ?_ (by rw [fI 1 (by decide)]; exact i11) (by rw [fI 1 (by decide)]; exact i12) (by rw [fI 3 (by decide)]; exact i31) (by rw [fI 3 (by decide)]; exact i32) (Rep_c (fun k hk => fI _ (by omega)) (fun k hk => fL _ (by omega)) rep) ?_ ?_ ?_ ?_ ?_, fun r hr => ?_⟩
  · rw [x_up_ne _ _ (by decide)]; exact ⟨r90, r91, r92, r93, r94, r97⟩
  · rw [x_up_ne _ _ (by decide)]; exact i226
  · rw [x_up_ne _ _ (by decide)]; exact l229
  · rw [x_up_ne _ _ (by decide), i5, x_up_self]
  · rw [x_up_ne _ _ (by decide), i8, x_up_self]
  · rw [x_up_ne _ _ (by decide)]; exact i15
  · unfold x_m0
    refine e_newN (M := mL_law) (w := 4) (1) 1 4 dL_law_0 (x_kk rfl) nt_10008 rfl rfl rfl rfl (x_kk rfl) (x_kk rfl) (by omega) rfl ?_
    refine f_dup (M := mL_law) 4 dL_law_3 rfl rfl ?_
    refine e_cI (M := mL_law) [_] 225 7442 dL_law_4 pa_10153 cc_10153 rfl rfl rfl rfl rfl (x_kk rfl) (x_kk rfl) rfl (k1) rfl ?_
    refine f_astore_n (M := mL_law) (ls' := [_, _, _, _, _, _, _, _]) 8 dL_law_7 rfl rfl rfl ?_
    refine e_newN (M := mL_law) (w := 19) (226) 226 7461 dL_law_8 (x_kk rfl) nt_10154 rfl rfl rfl rfl (x_kk rfl) (x_kk rfl) (by omega) rfl ?_
    refine f_dup (M := mL_law) 12 dL_law_11 rfl rfl ?_
    refine e_cI (M := mL_law) [_] 232 14654 dL_law_12 pa_10156 cc_10156 rfl rfl rfl rfl rfl (x_kk rfl) (x_kk rfl) rfl (k2) rfl ?_
    refine f_astore_n (M := mL_law) (ls' := [_, _, _, _, _, _, _, _]) 16 dL_law_15 rfl rfl rfl ?_
    refine f_iconst (M := mL_law) 17 dL_law_16 ki_1 rfl ?_
    refine e_naN (M := mL_law) (w := 1) (233) 233 14655 dL_law_17 kn_1 (by decide) rfl rfl rfl (x_kk rfl) (x_kk rfl) (by omega) rfl ?_
    refine f_astore_n (M := mL_law) (ls' := [_, _, _, _, _, _, _, _]) 20 dL_law_19 rfl rfl rfl ?_
    refine f_iconst (M := mL_law) 21 dL_law_20 ki_0 rfl ?_
    refine f_istore (M := mL_law) (ls' := [_, _, _, _, _, _, _, _]) 23 dL_law_21 rfl rfl rfl ?_
    exact hr
end

/-! ===== the law, first: its beginning (laid by wip/whole/src/law1.py) ===== -/
section
variable {X : x_X} {I : Nat → Nat → Int32} {L : Nat → Nat → Int64} {R : Nat → Nat → Option Nat} {N : Nat}
theorem inv_i : y_Inv 0 y_i (fun _ => 0) := by
  have z : ∀ j, 3 ≤ j ∨ j = 0 → y_i j = 0 := fun j h => yi_0 h
  have z0 := z 0 (Or.inr rfl)
  have n3 : ¬ 3 ≤ y_i 0 := by rw [z0]; decide
  refine ⟨⟨⟨0, by omega, z0⟩, ⟨by decide, by decide⟩, ⟨by decide, by decide⟩, ⟨by decide, by decide⟩, ⟨by decide, by decide⟩, ⟨by decide, by decide⟩, ⟨by decide, by decide⟩, ⟨by decide, by decide⟩, ⟨0, by omega, z 8 (by omega)⟩, fun s hs => ?_⟩, ⟨⟨0, by omega, z 9 (by omega), by decide⟩, fun j hj => ?_⟩, ⟨?_, fun q hq => ⟨fun s hs => ?_, ?_, ?_⟩, fun q j hq hj hne hp => ?_, fun _ => ⟨z 10 (by omega), fun j hj => z _ (by omega)⟩⟩, fun s hs => ?_, ⟨⟨0, by omega, z 13 (by omega)⟩, ?_, fun s hs => ?_, fun j hj => ?_, fun q => absurd q n3, ?_, fun q => ?_⟩, ⟨0, by omega, z 14 (by omega), fun k hk => absurd hk (Nat.not_lt_zero _)⟩, fun j hj => z j (by omega), fun j hj => rfl⟩
  · rw [z (20 + s) (by omega), z (26 + s) (by omega)]; exact ⟨zin (by decide), zin (by decide)⟩
  · rw [z (44 + j) (by omega)]; exact zin (by decide)
  · rw [z 10 (by omega)]; exact zin (by decide)
  · rw [z _ (by omega)]; exact zin (by decide)
  · rw [z _ (by omega)]; exact zin (by decide)
  · rw [z (224 + 8 * q + 7) (by omega), z 10 (by omega)]; exact zin (by decide)
  · rw [z _ (by omega)] at hp; exact absurd hp (by decide)
  · rw [z (32 + s) (by omega), z (38 + s) (by omega)]; exact ⟨zin (by decide), zin (by decide), fun _ => ⟨rfl, rfl⟩⟩
  · rw [z 15 (by omega)]; exact zin (by decide)
  · rw [z _ (by omega)]; exact zin (by decide)
  · rw [z _ (by omega)]; exact zin (by decide)
  · rw [z 16 (by omega), z0]; decide
  · rw [z0] at q; exact absurd q (by decide)
theorem T_0 (r00 : R 0 0 = some 1) (r01 : R 0 1 = some 3) (r02 : R 0 2 = some 181) (r03 : R 0 3 = some 203) (r10 : R 1 0 = some 2) (r30 : R 3 0 = some 4) (r4 : ∀ i, i < 8 → R 4 i = some (5 + 22 * i)) (wb : ∀ i, i < 10 → y_wb R (5 + 22 * i)) (r9 : R 225 0 = some 226 ∧ R 225 1 = some 227 ∧ R 225 2 = some 228 ∧ R 225 3 = some 229 ∧ R 225 4 = some 230 ∧ R 225 7 = some 231) (i11 : I 1 1 = 0) (i12 : I 1 2 = -1) (i31 : I 3 1 = 0) (i32 : I 3 2 = 0) (rep : y_Rep I L 181 y_i (fun _ => 0)) (i226 : I 226 = y_i) (l229 : L 229 = fun _ => 0) (i5 : I 225 5 = 0) (i8 : I 225 8 = 0) (i15 : I 225 15 = -1) : y_T 0 I L R := by
  have hR : x_wf R := ⟨fun β hβ => by
    obtain ⟨j, hj, rfl⟩ := hβ
    exact wb j hj, r30, r10, r00, r01, r9⟩
  refine ⟨y_i, fun _ => 0, 0, fun _ => (y_0, fun _ => 0), y_0, 0, -1, ⟨181, 203, fun j => 5 + 22 * j, 0, ⟨hR, ⟨8, by decide, rfl⟩, ⟨9, by decide, rfl⟩, fun j hj => ⟨j, by omega, rfl⟩, r02, r03, r4, by decide, fun j hj => ⟨?_, ?_⟩, fun i j hi hj hne => ?_⟩, by decide, i31, by decide, i32, rep, fun i hi => absurd hi (Nat.not_lt_zero _), by decide, i11, fun j hj => absurd hj (Nat.not_lt_zero _), i12⟩, ⟨hR, i226, l229, by decide, i5, fun i hi => absurd hi (Nat.not_lt_zero _), i8, fun j hj => absurd hj (Nat.not_lt_zero _), i15⟩, inv_i, fun i hi => absurd hi (Nat.not_lt_zero _), fun j hj => absurd hj (Nat.not_lt_zero _)⟩
  · show ¬ 5 + 22 * j = 181; omega
  · show ¬ 5 + 22 * j = 203; omega
  · show ¬ 5 + 22 * i = 5 + 22 * j; omega
theorem law_0 : ∃ I L R, y_T 0 I L R ∧ ∀ r, x_Ev X mL_law 23 [some (.ref 1000), some (.ref 0), some (.ref 225), some (.ref 232), some (.int 0), none, none, none] [] ((I, L, R), 233, 233, 14655) r → x_Ev X mL_law 0 [some (.ref 1000), none, none, none, none, none, none, none] [] (x_m0, 0, 0, 0) r := by
  obtain ⟨I1, L1, R1, k1, i11, i12, i31, i32, r00, r01, r02, r03, r10, r30, r4, wb, rep⟩ := i_X8 (X := X) (I := va_up (fun _ _ => 0) 0 (fun _ => 0)) (L := va_up (fun _ _ => 0) 0 (fun _ => 0)) (R := va_up (fun _ _ => none) 0 (fun _ => none))
  obtain ⟨I2, L2, R2, k2, f2, i226, l229, i5, i8, i15, r90, r91, r92, r93, r94, r97⟩ := i_X9 (X := X) (I := va_up I1 225 (fun _ => 0)) (L := va_up L1 225 (fun _ => 0)) (R := va_up R1 225 (fun _ => none))
  have fI : ∀ q, q < 225 → va_up I2 232 (fun _ => 0) q = I1 q := fun q hq => by rw [x_up_ne _ _ (by omega), (f2 q hq).1, x_up_ne _ _ (by omega)]
  have fL : ∀ q, q < 225 → va_up L2 232 (fun _ => 0) q = L1 q := fun q hq => by rw [x_up_ne _ _ (by omega), (f2 q hq).2.1, x_up_ne _ _ (by omega)]
  have fR : ∀ q, q < 225 → va_up R2 232 (fun _ => none) q = R1 q := fun q hq => by rw [x_up_ne _ _ (by omega), (f2 q hq).2.2, x_up_ne _ _ (by omega)]
  refine ⟨va_up I2 232 (fun _ => 0), va_up L2 232 (fun _ => 0), va_up R2 232 (fun _ => none), T_0 (by rw [fR 0 (by decide)]; exact r00) (by rw [fR 0 (by decide)]; exact r01) (by rw [fR 0 (by decide)]; exact r02) (by rw [fR 0 (by decide)]; exact r03) (by rw [fR 1 (by decide)]; exact r10) (by rw [fR 3 (by decide)]; exact r30) (by rw [fR 4 (by decide)]; exact r4) (fun i hi => wb_c (fun k hk => fR _ (by omega)) (wb i hi)) ?_ (by rw [fI 1 (by decide)]; exact i11) (by rw [fI 1 (by decide)]; exact i12) (by rw [fI 3 (by decide)]; exact i31) (by rw [fI 3 (by decide)]; exact i32) (Rep_c (fun k hk => fI _ (by omega)) (fun k hk => fL _ (by omega)) rep) ?_ ?_ ?_ ?_ ?_, fun r hr => ?_⟩
  · rw [x_up_ne _ _ (by decide)]; exact ⟨r90, r91, r92, r93, r94, r97⟩
  · rw [x_up_ne _ _ (by decide)]; exact i226
  · rw [x_up_ne _ _ (by decide)]; exact l229
  · rw [x_up_ne _ _ (by decide), i5, x_up_self]
  · rw [x_up_ne _ _ (by decide), i8, x_up_self]
  · rw [x_up_ne _ _ (by decide)]; exact i15
  · unfold x_m0
    refine e_newN (M := mL_law) (w := 4) (1) 1 4 dL_law_0 (x_kk rfl) nt_10008 rfl rfl rfl rfl (x_kk rfl) (x_kk rfl) (by omega) rfl ?_
    refine f_dup (M := mL_law) 4 dL_law_3 rfl rfl ?_
    refine e_cI (M := mL_law) [_] 225 7442 dL_law_4 pa_10153 cc_10153 rfl rfl rfl rfl rfl (x_kk rfl) (x_kk rfl) rfl (k1) rfl ?_
    refine f_astore_n (M := mL_law) (ls' := [_, _, _, _, _, _, _, _]) 8 dL_law_7 rfl rfl rfl ?_
    refine e_newN (M := mL_law) (w := 19) (226) 226 7461 dL_law_8 (x_kk rfl) nt_10154 rfl rfl rfl rfl (x_kk rfl) (x_kk rfl) (by omega) rfl ?_
    refine f_dup (M := mL_law) 12 dL_law_11 rfl rfl ?_
    refine e_cI (M := mL_law) [_] 232 14654 dL_law_12 pa_10156 cc_10156 rfl rfl rfl rfl rfl (x_kk rfl) (x_kk rfl) rfl (k2) rfl ?_
    refine f_astore_n (M := mL_law) (ls' := [_, _, _, _, _, _, _, _]) 16 dL_law_15 rfl rfl rfl ?_
    refine f_iconst (M := mL_law) 17 dL_law_16 ki_1 rfl ?_
    refine e_naN (M := mL_law) (w := 1) (233) 233 14655 dL_law_17 kn_1 (by decide) rfl rfl rfl (x_kk rfl) (x_kk rfl) (by omega) rfl ?_
    refine f_astore_n (M := mL_law) (ls' := [_, _, _, _, _, _, _, _]) 20 dL_law_19 rfl rfl rfl ?_
    refine f_iconst (M := mL_law) 21 dL_law_20 ki_0 rfl ?_
    refine f_istore (M := mL_law) (ls' := [_, _, _, _, _, _, _, _]) 23 dL_law_21 rfl rfl rfl ?_
    exact hr
end

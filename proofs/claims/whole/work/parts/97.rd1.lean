/-! ===== the class's reader, first: bytes, scans (laid by wip/whole/src/rd1.py) ===== -/
section
variable {X : x_X} {I : Nat → Nat → Int32} {L : Nat → Nat → Int64} {R : Nat → Nat → Option Nat} {N : Nat}
theorem c_X5_byteAt (hR : x_wf R) {n : Nat} (hn : n ≤ 800) (hE : I 1 4 = Int32.ofNat n) {j : Nat} (hj : j < 2000) : x_Cv X mX5_byteAt [.ref 1, .int (Int32.ofNat j)] (I, L, R) 233 (.inl (some (.int (y_cb (I 2) n j))), (I, L, R), 233) := by
  show x_Ev X mX5_byteAt 0 [some (.ref 1), some (.int (Int32.ofNat j))] [] ((I, L, R), 233, 0, 0) _
  refine f_iload_n (M := mX5_byteAt) 1 dX5_byteAt_0 rfl rfl ?_
  refine e_if_ltF (M := mX5_byteAt) 28 dX5_byteAt_1 rfl (by rw [kn_0, n_lt (by omega) (by omega)]; omega) ?_
  refine f_iload_n (M := mX5_byteAt) 5 dX5_byteAt_4 rfl rfl ?_
  refine f_aload_n (M := mX5_byteAt) 6 dX5_byteAt_5 rfl rfl ?_
  refine e_getI (M := mX5_byteAt) dX5_byteAt_6 fl_5022 (x_kk rfl) (x_kk rfl) rfl ?_
  refine e_icmp_ge (M := mX5_byteAt) (t := 28) dX5_byteAt_9 rfl (fun h => ?_) (fun h => ?_)
  · refine f_iconst (M := mX5_byteAt) 29 dX5_byteAt_28 ki_0 rfl ?_
    refine e_ri (M := mX5_byteAt) dX5_byteAt_29 rfl (x_kk rfl) (x_kk rfl) ?_
    exact r_i (by rw [hE, n_le (by omega) (by omega)] at h; unfold y_cb; rw [if_neg (by omega)])
  · refine f_iload_n (M := mX5_byteAt) 13 dX5_byteAt_12 rfl rfl ?_
    refine f_sipush (M := mX5_byteAt) 16 dX5_byteAt_13 ks_800 rfl ?_
    refine e_icmp_geF (M := mX5_byteAt) 28 dX5_byteAt_16 rfl (by rw [hE, n_le (by omega) (by omega)] at h; rw [kn_800, n_le (by omega) (by omega)]; omega) ?_
    refine f_aload_n (M := mX5_byteAt) 20 dX5_byteAt_19 rfl rfl ?_
    refine e_getR (M := mX5_byteAt) dX5_byteAt_20 fl_5009 (x_kk rfl) (x_kk rfl) rfl (wf_5_0 hR) ?_
    refine f_iload_n (M := mX5_byteAt) 24 dX5_byteAt_23 rfl rfl ?_
    refine e_bld (M := mX5_byteAt) (w := 800) (j := j) dX5_byteAt_24 (x_kk rfl) rfl rfl (by rw [hE, n_le (by omega) (by omega)] at h; omega) (by omega) ?_
    refine f_goto (M := mX5_byteAt) 29 dX5_byteAt_25 rfl ?_
    refine e_ri (M := mX5_byteAt) dX5_byteAt_29 rfl (x_kk rfl) (x_kk rfl) ?_
    exact r_i (by rw [hE, n_le (by omega) (by omega)] at h; unfold y_cb; rw [if_pos (by omega)])
theorem c_X5_isLetter {v : Int32} : x_Cv X mX5_isLetter [.ref 1, .int v] (I, L, R) 233 (.inl (some (.int (x_b (97 ≤ v ∧ v ≤ 122)))), (I, L, R), 233) := by
  show x_Ev X mX5_isLetter 0 [some (.ref 1), some (.int v)] [] ((I, L, R), 233, 0, 0) _
  refine f_iload_n (M := mX5_isLetter) 1 dX5_isLetter_0 rfl rfl ?_
  refine f_bipush (M := mX5_isLetter) 3 dX5_isLetter_1 kb_97 rfl ?_
  refine e_icmp_lt (M := mX5_isLetter) (t := 16) dX5_isLetter_3 rfl (fun h1 => ?_) (fun h1 => ?_)
  · refine f_iconst (M := mX5_isLetter) 17 dX5_isLetter_16 ki_0 rfl ?_
    refine e_rb (M := mX5_isLetter) dX5_isLetter_17 rfl (x_kk rfl) (x_kk rfl) (by decide) ?_
    exact r_i (x_b0 (fun z => i_nlt.mpr z.1 h1)).symm
  · refine f_iload_n (M := mX5_isLetter) 7 dX5_isLetter_6 rfl rfl ?_
    refine f_bipush (M := mX5_isLetter) 9 dX5_isLetter_7 kb_122 rfl ?_
    refine e_icmp_gt (M := mX5_isLetter) (t := 16) dX5_isLetter_9 rfl (fun h2 => ?_) (fun h2 => ?_)
    · refine f_iconst (M := mX5_isLetter) 17 dX5_isLetter_16 ki_0 rfl ?_
      refine e_rb (M := mX5_isLetter) dX5_isLetter_17 rfl (x_kk rfl) (x_kk rfl) (by decide) ?_
      exact r_i (x_b0 (fun z => i_nle.mpr h2 z.2)).symm
    · refine f_iconst (M := mX5_isLetter) 13 dX5_isLetter_12 ki_1 rfl ?_
      refine f_goto (M := mX5_isLetter) 17 dX5_isLetter_13 rfl ?_
      refine e_rb (M := mX5_isLetter) dX5_isLetter_17 rfl (x_kk rfl) (x_kk rfl) (by decide) ?_
      exact r_i (x_b1 ⟨i_nlt.mp h1, i_nlt.mp h2⟩).symm
theorem c_X5_isDigit {v : Int32} : x_Cv X mX5_isDigit [.ref 1, .int v] (I, L, R) 233 (.inl (some (.int (x_b (48 ≤ v ∧ v ≤ 57)))), (I, L, R), 233) := by
  show x_Ev X mX5_isDigit 0 [some (.ref 1), some (.int v)] [] ((I, L, R), 233, 0, 0) _
  refine f_iload_n (M := mX5_isDigit) 1 dX5_isDigit_0 rfl rfl ?_
  refine f_bipush (M := mX5_isDigit) 3 dX5_isDigit_1 kb_48 rfl ?_
  refine e_icmp_lt (M := mX5_isDigit) (t := 16) dX5_isDigit_3 rfl (fun h1 => ?_) (fun h1 => ?_)
  · refine f_iconst (M := mX5_isDigit) 17 dX5_isDigit_16 ki_0 rfl ?_
    refine e_rb (M := mX5_isDigit) dX5_isDigit_17 rfl (x_kk rfl) (x_kk rfl) (by decide) ?_
    exact r_i (x_b0 (fun z => i_nlt.mpr z.1 h1)).symm
  · refine f_iload_n (M := mX5_isDigit) 7 dX5_isDigit_6 rfl rfl ?_
    refine f_bipush (M := mX5_isDigit) 9 dX5_isDigit_7 kb_57 rfl ?_
    refine e_icmp_gt (M := mX5_isDigit) (t := 16) dX5_isDigit_9 rfl (fun h2 => ?_) (fun h2 => ?_)
    · refine f_iconst (M := mX5_isDigit) 17 dX5_isDigit_16 ki_0 rfl ?_
      refine e_rb (M := mX5_isDigit) dX5_isDigit_17 rfl (x_kk rfl) (x_kk rfl) (by decide) ?_
      exact r_i (x_b0 (fun z => i_nle.mpr h2 z.2)).symm
    · refine f_iconst (M := mX5_isDigit) 13 dX5_isDigit_12 ki_1 rfl ?_
      refine f_goto (M := mX5_isDigit) 17 dX5_isDigit_13 rfl ?_
      refine e_rb (M := mX5_isDigit) dX5_isDigit_17 rfl (x_kk rfl) (x_kk rfl) (by decide) ?_
      exact r_i (x_b1 ⟨i_nlt.mp h1, i_nlt.mp h2⟩).symm
theorem c_X5_fail {e p : Int32} : x_Cv X mX5_fail [.ref 1, .int e, .int p] (I, L, R) 233 (.inl (some (.int (0))), (va_up I 1 (va_up (va_up (I 1) 3 e) 2 p), L, R), 233) := by
  show x_Ev X mX5_fail 0 [some (.ref 1), some (.int e), some (.int p)] [] ((I, L, R), 233, 0, 0) _
  refine f_aload_n (M := mX5_fail) 1 dX5_fail_0 rfl rfl ?_
  refine f_iload_n (M := mX5_fail) 2 dX5_fail_1 rfl rfl ?_
  refine e_putI (M := mX5_fail) dX5_fail_2 fl_5028 (x_kk rfl) (x_kk rfl) rfl (fun q9 => Bool.noConfusion q9) ?_
  refine f_aload_n (M := mX5_fail) 6 dX5_fail_5 rfl rfl ?_
  refine f_iload_n (M := mX5_fail) 7 dX5_fail_6 rfl rfl ?_
  refine e_putI (M := mX5_fail) dX5_fail_7 fl_5015 (x_kk rfl) (x_kk rfl) rfl (fun q9 => Bool.noConfusion q9) ?_
  refine f_iconst (M := mX5_fail) 11 dX5_fail_10 ki_0 rfl ?_
  refine e_rb (M := mX5_fail) dX5_fail_11 rfl (x_kk rfl) (x_kk rfl) (by decide) ?_
  exact (by rw [up_up, x_up_self])
theorem l_X5_start (hR : x_wf R) {n : Nat} {g : Nat → Int32} (hn : n ≤ 800) (hE : I 1 4 = Int32.ofNat n) (G : y_G (I 2) n g) : ∀ d k, k + d = n → x_Ev X mX5_startOfToken 0 [some (.ref 1)] [] (((va_up I 1 (va_up (I 1) 5 (Int32.ofNat (k)))), L, R), 233, 0, 0) (.inl (some (.int (Int32.ofNat (y_sch (fun q => ¬ y_rg g n 32 32 q) d k)))), ((va_up I 1 (va_up (I 1) 5 (Int32.ofNat (y_sch (fun q => ¬ y_rg g n 32 32 q) d k)))), L, R), 233) := by
  intro d
  induction d with
  | zero =>
    intro k hd
    obtain rfl : n = k := by omega
    refine f_aload_n (M := mX5_startOfToken) 1 dX5_startOfToken_0 rfl rfl ?_
    refine e_getI (M := mX5_startOfToken) dX5_startOfToken_1 fl_5025 (x_kk rfl) (x_kk rfl) rfl ?_
    refine f_aload_n (M := mX5_startOfToken) 5 dX5_startOfToken_4 rfl rfl ?_
    refine e_getI (M := mX5_startOfToken) dX5_startOfToken_5 fl_5022 (x_kk rfl) (x_kk rfl) rfl ?_
    refine e_icmp_geT (M := mX5_startOfToken) 37 dX5_startOfToken_8 rfl (by show I 1 4 ≤ _; rw [hE]; exact Int32.le_refl _) ?_
    refine f_aload_n (M := mX5_startOfToken) 38 dX5_startOfToken_37 rfl rfl ?_
    refine e_getI (M := mX5_startOfToken) dX5_startOfToken_38 fl_5025 (x_kk rfl) (x_kk rfl) rfl ?_
    refine e_ri (M := mX5_startOfToken) dX5_startOfToken_41 rfl (x_kk rfl) (x_kk rfl) ?_
    rfl
  | succ d ih =>
    intro k hd
    refine f_aload_n (M := mX5_startOfToken) 1 dX5_startOfToken_0 rfl rfl ?_
    refine e_getI (M := mX5_startOfToken) dX5_startOfToken_1 fl_5025 (x_kk rfl) (x_kk rfl) rfl ?_
    refine f_aload_n (M := mX5_startOfToken) 5 dX5_startOfToken_4 rfl rfl ?_
    refine e_getI (M := mX5_startOfToken) dX5_startOfToken_5 fl_5022 (x_kk rfl) (x_kk rfl) rfl ?_
    refine e_icmp_geF (M := mX5_startOfToken) 37 dX5_startOfToken_8 rfl (by show ¬ I 1 4 ≤ Int32.ofNat k; rw [hE, n_le (by omega) (by omega)]; omega) ?_
    refine f_aload_n (M := mX5_startOfToken) 12 dX5_startOfToken_11 rfl rfl ?_
    refine f_aload_n (M := mX5_startOfToken) 13 dX5_startOfToken_12 rfl rfl ?_
    refine e_getI (M := mX5_startOfToken) dX5_startOfToken_13 fl_5025 (x_kk rfl) (x_kk rfl) rfl ?_
    rw [x_up_self, x_up_self]
    refine e_cV (M := mX5_startOfToken) [_] 0 0 dX5_startOfToken_16 pa_5127 pb_5127 cc_5127 rfl rfl rfl rfl rfl (x_kk rfl) (x_kk rfl) rfl (c_X5_byteAt (I := (va_up I 1 (va_up (I 1) 5 (Int32.ofNat (k))))) (j := k) hR hn hE (by omega)) rfl ?_
    refine f_bipush (M := mX5_startOfToken) 21 dX5_startOfToken_19 kb_32 rfl ?_
    refine e_icmp_ne (M := mX5_startOfToken) (t := 37) dX5_startOfToken_21 rfl (fun h1 => ?_) (fun h1 => ?_)
    · refine f_aload_n (M := mX5_startOfToken) 38 dX5_startOfToken_37 rfl rfl ?_
      refine e_getI (M := mX5_startOfToken) dX5_startOfToken_38 fl_5025 (x_kk rfl) (x_kk rfl) rfl ?_
      refine e_ri (M := mX5_startOfToken) dX5_startOfToken_41 rfl (x_kk rfl) (x_kk rfl) ?_
      exact (by rw [show y_sch (fun q => ¬ y_rg g n 32 32 q) (d + 1) k = _ from if_pos (fun z => h1 ((cb_eq (v := 32) (f := I 2) G (by decide) (by decide)).mpr (rg_eq.mp z)))]; rfl)
    · refine f_aload_n (M := mX5_startOfToken) 25 dX5_startOfToken_24 rfl rfl ?_
      refine f_dup (M := mX5_startOfToken) 26 dX5_startOfToken_25 rfl rfl ?_
      refine e_getI (M := mX5_startOfToken) dX5_startOfToken_26 fl_5025 (x_kk rfl) (x_kk rfl) rfl ?_
      refine f_iconst (M := mX5_startOfToken) 30 dX5_startOfToken_29 ki_1 rfl ?_
      refine f_iadd (M := mX5_startOfToken) 31 dX5_startOfToken_30 rfl ?_
      refine e_putI (M := mX5_startOfToken) dX5_startOfToken_31 fl_5025 (x_kk rfl) (x_kk rfl) rfl (fun q9 => Bool.noConfusion q9) ?_
      refine f_goto (M := mX5_startOfToken) 0 dX5_startOfToken_34 rfl ?_
      rw [show y_sch (fun q => ¬ y_rg g n 32 32 q) (d + 1) k = _ from if_neg (fun z => z (rg_eq.mpr ((cb_eq (v := 32) (f := I 2) G (by decide) (by decide)).mp (x_dn h1))))]; rw [up_up, x_up_self, x_up_self, va_uu, n_inc (s := k)]; exact ih (k + 1) (by omega)
theorem c_X5_startOfToken (hR : x_wf R) {n : Nat} {g : Nat → Int32} (hn : n ≤ 800) (hE : I 1 4 = Int32.ofNat n) (G : y_G (I 2) n g) {p : Nat} (hp : p ≤ n) (h5 : I 1 5 = Int32.ofNat p) : x_Cv X mX5_startOfToken [.ref 1] (I, L, R) 233 (.inl (some (.int (Int32.ofNat (y_fw g n 32 32 p)))), (va_up I 1 (va_up (I 1) 5 (Int32.ofNat (y_fw g n 32 32 p))), L, R), 233) := by
  have e := l_X5_start (X := X) (L := L) hR hn hE G (n - p) p (by omega)
  rw [show va_up I 1 (va_up (I 1) 5 (Int32.ofNat p)) = I from by
    rw [← h5]
    funext q
    unfold va_up
    by_cases h : q = 1
    · rw [if_pos h, h]
      funext j
      by_cases z : j = 5
      · rw [if_pos z, z]
      · rw [if_neg z]
    · rw [if_neg h]] at e
  exact e
end

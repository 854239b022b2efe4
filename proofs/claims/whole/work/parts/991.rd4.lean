/-! ===== the class's reader, third: numbers, species, plots (laid by wip/whole/src/rd4.py) ===== -/
section
variable {X : x_X} {I : Nat → Nat → Int32} {L : Nat → Nat → Int64} {R : Nat → Nat → Option Nat} {N : Nat}
def y_CO (I I' : Nat → Nat → Int32) (n : Nat) (g : Nat → Int32) (r : y_PR) (b : Int32) (P : (Nat → Int32) → Prop) : Prop := match r with
  | .inl e => b = 0 ∧ y_fl I I' e
  | .inr w => b = 1 ∧ y_QS I' n g w.1 ∧ y_kp I I' ∧ P w.2
theorem CO_t {I1 I2 : Nat → Nat → Int32} {n : Nat} {g : Nat → Int32} {r : y_PR} {b : Int32} {P : (Nat → Int32) → Prop} (k : y_kp I I1) (h : y_CO I1 I2 n g r b P) : y_CO I I2 n g r b P := by
  obtain ⟨k1, k2⟩ := k
  cases r with
  | inl e => exact ⟨h.1, h.2.1.trans k1, h.2.2⟩
  | inr w => exact ⟨h.1, h.2.1, ⟨h.2.2.1.1.trans k1, h.2.2.1.2.trans k2⟩, h.2.2.2⟩
theorem kp_t {I1 I2 : Nat → Nat → Int32} (k : y_kp I I1) (h : y_kp I1 I2) : y_kp I I2 := ⟨h.1.trans k.1, h.2.trans k.2⟩
theorem fl_t {I1 I2 : Nat → Nat → Int32} {e : Int32 × Nat} (k : y_kp I I1) (h : y_fl I1 I2 e) : y_fl I I2 e := ⟨h.1.trans k.1, h.2⟩
theorem kp_c {I1 I2 : Nat → Nat → Int32} (k : y_kp I I1) (h : I2 1 = I1 1) : y_kp I I2 := ⟨by rw [h]; exact k.1, by rw [h]; exact k.2⟩
theorem k_fail {e x : Int32} {p : Nat} (hx : x = Int32.ofNat p) : ∃ I', x_Cv X mX5_fail [.ref 1, .int e, .int x] (I, L, R) 233 (.inl (some (.int 0)), (I', L, R), 233) ∧ y_f1 I I' ∧ y_fl I I' (e, p) := by
  refine ⟨_, c_X5_fail, f1_up, ?_, ?_, ?_⟩
  · rw [x_up_self, x_up_ne _ _ (by decide), x_up_ne _ _ (by decide)]
  · rw [x_up_self, x_up_ne _ _ (by decide), x_up_self]
  · rw [x_up_self, x_up_self]; exact hx
theorem l7_e : ∀ k, k < 7 → x_least k = Int32.ofNat (y_l7 k) := by decide
theorem h7_e : ∀ k, k < 7 → x_great k = Int32.ofNat (y_h7 k) := by decide
theorem l7_b : ∀ k, k < 7 → y_l7 k ≤ 1000 ∧ y_h7 k < 10000000 := by decide
theorem sl5 {δ : Nat} (h : x_sl δ) : 5 ≤ δ ∧ δ + 22 ≤ 225 := by
  obtain ⟨m, _, rfl⟩ := h
  omega
theorem l_numbers (hR : x_wf R) {δ : Nat} (hδ : x_sl δ) {g : Nat → Int32} {n : Nat} : ∀ d i I s a, i + d = 7 → y_QS I n g s → (∀ j, j < i → I (δ + 2) j = a (1 + j)) → ∃ I' b, x_Ev X mX5_readNumbers 22 [some (.ref 1), some (.ref (δ + 1)), some (.int (Int32.ofNat i))] [] ((I, L, R), 233, 0, 0) (.inl (some (.int b)), (I', L, R), 233) ∧ (∀ q, ¬ q = 1 → ¬ q = δ + 2 → I' q = I q) ∧ y_CO I I' n g (y_bd (y_ns g n y_l7 y_h7 (fun i => 1 + i) d i s a) (y_sm g n)) b (fun a' => ∀ j, j < 7 → I' (δ + 2) j = a' (1 + j)) := by
  have h5 := sl5 hδ
  intro d
  induction d with
  | zero =>
    intro i I s a hd Q hp
    obtain rfl : i = 7 := by omega
    by_cases c : y_rg g n 59 59 s
    · obtain ⟨I1, k1, f1, q1, kp⟩ := k_semi_ok (X := X) (L := L) hR Q c
      refine ⟨I1, 1, ?_, fun q z1 z2 => f1 q z1, ?_⟩
      · refine f_iload_n (M := mX5_readNumbers) 23 dX5_readNumbers_22 rfl rfl ?_
        refine f_bipush (M := mX5_readNumbers) 25 dX5_readNumbers_23 kb_7 rfl ?_
        refine e_icmp_geT (M := mX5_readNumbers) 63 dX5_readNumbers_25 rfl (by decide) ?_
        refine f_aload_n (M := mX5_readNumbers) 64 dX5_readNumbers_63 rfl rfl ?_
        refine e_cV (M := mX5_readNumbers) [_] 0 0 dX5_readNumbers_64 pa_5092 pb_5092 cc_5092 rfl rfl rfl rfl rfl (x_kk rfl) (x_kk rfl) rfl (k1) rfl ?_
        refine e_rb (M := mX5_readNumbers) dX5_readNumbers_67 rfl (x_kk rfl) (x_kk rfl) (by decide) ?_
        rfl
      · show y_CO I I1 n g (y_sm g n s a) 1 _
        unfold y_sm
        rw [if_pos c]
        exact ⟨rfl, q1, kp, fun j hj => by rw [f1 _ (by omega)]; exact hp j hj⟩
    · obtain ⟨I1, k1, f1, fl⟩ := k_semi_no (X := X) (L := L) hR Q c
      refine ⟨I1, 0, ?_, fun q z1 z2 => f1 q z1, ?_⟩
      · refine f_iload_n (M := mX5_readNumbers) 23 dX5_readNumbers_22 rfl rfl ?_
        refine f_bipush (M := mX5_readNumbers) 25 dX5_readNumbers_23 kb_7 rfl ?_
        refine e_icmp_geT (M := mX5_readNumbers) 63 dX5_readNumbers_25 rfl (by decide) ?_
        refine f_aload_n (M := mX5_readNumbers) 64 dX5_readNumbers_63 rfl rfl ?_
        refine e_cV (M := mX5_readNumbers) [_] 0 0 dX5_readNumbers_64 pa_5092 pb_5092 cc_5092 rfl rfl rfl rfl rfl (x_kk rfl) (x_kk rfl) rfl (k1) rfl ?_
        refine e_rb (M := mX5_readNumbers) dX5_readNumbers_67 rfl (x_kk rfl) (x_kk rfl) (by decide) ?_
        rfl
      · show y_CO I I1 n g (y_sm g n s a) 0 _
        unfold y_sm
        rw [if_neg c]
        exact ⟨rfl, fl⟩
  | succ d ih =>
    intro i I s a hd Q hp
    unfold y_ns
    cases hw : y_n1 g n (y_l7 i) (y_h7 i) s with
    | inl e =>
      obtain ⟨I1, k1, f1, fl⟩ := k_num_no (X := X) (L := L) hR Q (l7_b i (by omega)).1 (l7_b i (by omega)).2 hw
      refine ⟨I1, 0, ?_, fun q z1 z2 => f1 q z1, ⟨rfl, fl⟩⟩
      refine f_iload_n (M := mX5_readNumbers) 23 dX5_readNumbers_22 rfl rfl ?_
      refine f_bipush (M := mX5_readNumbers) 25 dX5_readNumbers_23 kb_7 rfl ?_
      refine e_icmp_geF (M := mX5_readNumbers) 63 dX5_readNumbers_25 rfl (by rw [kn_7, n_le (by omega) (by omega)]; omega) ?_
      refine f_aload_n (M := mX5_readNumbers) 29 dX5_readNumbers_28 rfl rfl ?_
      refine e_sta (M := mX5_readNumbers) dX5_readNumbers_29 (x_kk rfl) sa_5074 ?_
      refine f_iload_n (M := mX5_readNumbers) 33 dX5_readNumbers_32 rfl rfl ?_
      refine e_iaf (M := mX5_readNumbers) (w := 7) (f := x_least) (j := i) dX5_readNumbers_33 (x_kk rfl) rfl rfl (by omega) (by omega) ?_
      refine e_sta (M := mX5_readNumbers) dX5_readNumbers_34 (x_kk rfl) sa_5078 ?_
      refine f_iload_n (M := mX5_readNumbers) 38 dX5_readNumbers_37 rfl rfl ?_
      refine e_iaf (M := mX5_readNumbers) (w := 7) (f := x_great) (j := i) dX5_readNumbers_38 (x_kk rfl) rfl rfl (by omega) (by omega) ?_
      rw [l7_e i (by omega), h7_e i (by omega)]
      refine e_cV (M := mX5_readNumbers) [_] 0 0 dX5_readNumbers_39 pa_5081 pb_5081 cc_5081 rfl rfl rfl rfl rfl (x_kk rfl) (x_kk rfl) rfl (k1) rfl ?_
      refine e_if_neF (M := mX5_readNumbers) 47 dX5_readNumbers_42 rfl (show ¬ (¬ (0 : Int32) = 0) by decide) ?_
      refine f_iconst (M := mX5_readNumbers) 46 dX5_readNumbers_45 ki_0 rfl ?_
      refine e_rb (M := mX5_readNumbers) dX5_readNumbers_46 rfl (x_kk rfl) (x_kk rfl) (by decide) ?_
      rfl
    | inr w =>
      obtain ⟨I1, k1, f1, q1, h6, kp⟩ := k_num_ok (X := X) (L := L) hR Q (l7_b i (by omega)).2 hw
      obtain ⟨I', b, e, fr, co⟩ := ih (i + 1) (va_up I1 (δ + 2) (va_up (I1 (δ + 2)) i (I1 1 6))) w.2 (va_up a (1 + i) (Int32.ofNat w.1)) (by omega) (QS_c q1 (x_up_ne _ _ (by omega)) (x_up_ne _ _ (by omega))) (fun j hj => by
        rw [x_up_self]
        by_cases z : j = i
        · rw [z, x_up_self, x_up_self, h6]
        · rw [x_up_ne _ _ z, x_up_ne _ _ (by omega), f1 _ (by omega)]; exact hp j (by omega))
      refine ⟨I', b, ?_, fun q z1 z2 => ?_, CO_t (kp_c kp (x_up_ne _ _ (by omega))) co⟩
      · refine f_iload_n (M := mX5_readNumbers) 23 dX5_readNumbers_22 rfl rfl ?_
        refine f_bipush (M := mX5_readNumbers) 25 dX5_readNumbers_23 kb_7 rfl ?_
        refine e_icmp_geF (M := mX5_readNumbers) 63 dX5_readNumbers_25 rfl (by rw [kn_7, n_le (by omega) (by omega)]; omega) ?_
        refine f_aload_n (M := mX5_readNumbers) 29 dX5_readNumbers_28 rfl rfl ?_
        refine e_sta (M := mX5_readNumbers) dX5_readNumbers_29 (x_kk rfl) sa_5074 ?_
        refine f_iload_n (M := mX5_readNumbers) 33 dX5_readNumbers_32 rfl rfl ?_
        refine e_iaf (M := mX5_readNumbers) (w := 7) (f := x_least) (j := i) dX5_readNumbers_33 (x_kk rfl) rfl rfl (by omega) (by omega) ?_
        refine e_sta (M := mX5_readNumbers) dX5_readNumbers_34 (x_kk rfl) sa_5078 ?_
        refine f_iload_n (M := mX5_readNumbers) 38 dX5_readNumbers_37 rfl rfl ?_
        refine e_iaf (M := mX5_readNumbers) (w := 7) (f := x_great) (j := i) dX5_readNumbers_38 (x_kk rfl) rfl rfl (by omega) (by omega) ?_
        rw [l7_e i (by omega), h7_e i (by omega)]
        refine e_cV (M := mX5_readNumbers) [_] 0 0 dX5_readNumbers_39 pa_5081 pb_5081 cc_5081 rfl rfl rfl rfl rfl (x_kk rfl) (x_kk rfl) rfl (k1) rfl ?_
        refine e_if_neT (M := mX5_readNumbers) 47 dX5_readNumbers_42 rfl (show ¬ (1 : Int32) = 0 by decide) ?_
        refine f_aload_n (M := mX5_readNumbers) 48 dX5_readNumbers_47 rfl rfl ?_
        refine e_getR (M := mX5_readNumbers) dX5_readNumbers_48 fl_5084 (x_kk rfl) (sl_lt hδ 1 rfl) (sl_s hδ 1 rfl rfl) (wf_7_1 hR hδ) ?_
        refine f_iload_n (M := mX5_readNumbers) 52 dX5_readNumbers_51 rfl rfl ?_
        refine f_aload_n (M := mX5_readNumbers) 53 dX5_readNumbers_52 rfl rfl ?_
        refine e_getI (M := mX5_readNumbers) dX5_readNumbers_53 fl_5089 (x_kk rfl) (x_kk rfl) rfl ?_
        refine e_ist (M := mX5_readNumbers) (w := 7) (j := i) dX5_readNumbers_56 (sl_lt hδ 2 rfl) (sl_shp hδ 2 rfl) rfl (by omega) (by omega) ?_
        refine f_iinc (M := mX5_readNumbers) (ls' := [_, _, _]) 60 dX5_readNumbers_57 ki_1 rfl rfl rfl rfl ?_
        refine f_goto (M := mX5_readNumbers) 22 dX5_readNumbers_60 rfl ?_
        rw [n_inc (s := i)]; exact e
      · rw [fr q z1 z2, x_up_ne _ _ z2, f1 q z1]
theorem k_numbers (hR : x_wf R) {δ : Nat} (hδ : x_sl δ) {g : Nat → Int32} {n s : Nat} (Q : y_QS I n g s) (a : Nat → Int32) : ∃ I' b, x_Cv X mX5_readNumbers [.ref 1, .ref (δ + 1)] (I, L, R) 233 (.inl (some (.int b)), (I', L, R), 233) ∧ (∀ q, ¬ q = 1 → ¬ q = δ + 2 → I' q = I q) ∧ y_CO I I' n g (y_nums g n s a) b (fun a' => ∀ j, j < 7 → I' (δ + 2) j = a' (1 + j)) := by
  have h5 := sl5 hδ
  unfold y_nums
  by_cases c : y_wd g n 1010 s
  · rw [if_pos c]
    obtain ⟨I1, k1, f1, q1, kp⟩ := k_word_ok (X := X) (L := L) hR Q (w := 1010) (l := 4) (by decide) (by decide) rfl (by decide) c
    obtain ⟨I', b, e, fr, co⟩ := l_numbers (X := X) (L := L) hR hδ 7 0 I1 _ a rfl q1 (fun j hj => absurd hj (Nat.not_lt_zero _))
    refine ⟨I', b, ?_, fun q z1 z2 => (fr q z1 z2).trans (f1 q z1), CO_t kp co⟩
    show x_Ev X mX5_readNumbers 0 [some (.ref 1), some (.ref (δ + 1)), none] [] ((I, L, R), 233, 0, 0) _
    refine f_aload_n (M := mX5_readNumbers) 1 dX5_readNumbers_0 rfl rfl ?_
    refine f_ldcR (M := mX5_readNumbers) 3 dX5_readNumbers_1 (x_kk rfl) csn_5064 csr_5064 rfl ?_
    refine e_cV (M := mX5_readNumbers) [_] 0 0 dX5_readNumbers_3 pa_5066 pb_5066 cc_5066 rfl rfl rfl rfl rfl (x_kk rfl) (x_kk rfl) rfl (k1) rfl ?_
    refine e_if_neT (M := mX5_readNumbers) 20 dX5_readNumbers_6 rfl (show ¬ (1 : Int32) = 0 by decide) ?_
    refine f_iconst (M := mX5_readNumbers) 21 dX5_readNumbers_20 ki_0 rfl ?_
    refine f_istore_n (M := mX5_readNumbers) (ls' := [_, _, _]) 22 dX5_readNumbers_21 rfl rfl rfl ?_
    exact e
  · rw [if_neg c]
    obtain ⟨I1, k1, f1, q1, hp5, kp⟩ := k_word_no (X := X) (L := L) hR Q (w := 1010) (by decide) (by decide) c
    obtain ⟨I2, k2, f2, fl⟩ := k_fail (X := X) (I := I1) (L := L) (R := R) (e := -2) hp5
    refine ⟨I2, 0, ?_, fun q z1 z2 => (f2 q z1).trans (f1 q z1), ⟨rfl, fl_t kp fl⟩⟩
    show x_Ev X mX5_readNumbers 0 [some (.ref 1), some (.ref (δ + 1)), none] [] ((I, L, R), 233, 0, 0) _
    refine f_aload_n (M := mX5_readNumbers) 1 dX5_readNumbers_0 rfl rfl ?_
    refine f_ldcR (M := mX5_readNumbers) 3 dX5_readNumbers_1 (x_kk rfl) csn_5064 csr_5064 rfl ?_
    refine e_cV (M := mX5_readNumbers) [_] 0 0 dX5_readNumbers_3 pa_5066 pb_5066 cc_5066 rfl rfl rfl rfl rfl (x_kk rfl) (x_kk rfl) rfl (k1) rfl ?_
    refine e_if_neF (M := mX5_readNumbers) 20 dX5_readNumbers_6 rfl (show ¬ (¬ (0 : Int32) = 0) by decide) ?_
    refine f_aload_n (M := mX5_readNumbers) 10 dX5_readNumbers_9 rfl rfl ?_
    refine f_bipush (M := mX5_readNumbers) 12 dX5_readNumbers_10 kb_m2 rfl ?_
    refine f_aload_n (M := mX5_readNumbers) 13 dX5_readNumbers_12 rfl rfl ?_
    refine e_getI (M := mX5_readNumbers) dX5_readNumbers_13 fl_5025 (x_kk rfl) (x_kk rfl) rfl ?_
    refine e_cV (M := mX5_readNumbers) [_] 0 0 dX5_readNumbers_16 pa_5070 pb_5070 cc_5070 rfl rfl rfl rfl rfl (x_kk rfl) (x_kk rfl) rfl (k2) rfl ?_
    refine e_rb (M := mX5_readNumbers) dX5_readNumbers_19 rfl (x_kk rfl) (x_kk rfl) (by decide) ?_
    rfl
section
variable {δ m : Nat} {a a' : Nat → Int32} {I1 I2 : Nat → Nat → Int32}
theorem RT_1 (h : y_RT I δ a) (f : ∀ k, 1 ≤ k → k ≤ 4 → I1 (δ + k) = I (δ + k)) : y_RT I1 δ a := by
  obtain ⟨h1, h2, h3, h4⟩ := h
  unfold y_RT
  rw [f 1 (by decide) (by decide), f 2 (by decide) (by decide), f 3 (by decide) (by decide), f 4 (by decide) (by decide)]
  exact ⟨h1, h2, h3, h4⟩
theorem RC_1 (h : y_RC I δ a) (f : ∀ k, 5 ≤ k → k ≤ 6 → I1 (δ + k) = I (δ + k)) : y_RC I1 δ a := by
  obtain ⟨h1, h2⟩ := h
  unfold y_RC
  rw [f 5 (by decide) (by decide), f 6 (by decide) (by decide)]
  exact ⟨h1, h2⟩
theorem RT_3 (hm : m < 6) {v : Int32} (h : y_RT I δ a) : y_RT (va_up I (δ + 3) (va_up (I (δ + 3)) m v)) δ (va_up a (20 + m) v) := by
  obtain ⟨h1, h2, h3, h4⟩ := h
  unfold y_RT
  rw [x_up_ne _ _ (show δ + 1 ≠ δ + 3 by omega), x_up_ne _ _ (show δ + 2 ≠ δ + 3 by omega), x_up_self, x_up_ne _ _ (show δ + 4 ≠ δ + 3 by omega), x_up_ne _ _ (show 8 ≠ 20 + m by omega)]
  refine ⟨h1, fun i hi => by rw [x_up_ne _ _ (by omega)]; exact h2 i hi, fun s hs => ?_, fun s hs => by rw [x_up_ne _ _ (by omega)]; exact h4 s hs⟩
  by_cases z : s = m
  · rw [z, x_up_self, x_up_self]
  · rw [x_up_ne _ _ z, x_up_ne _ _ (by omega)]; exact h3 s hs
theorem RT_4 (hm : m < 6) {v : Int32} (h : y_RT I δ a) : y_RT (va_up I (δ + 4) (va_up (I (δ + 4)) m v)) δ (va_up a (26 + m) v) := by
  obtain ⟨h1, h2, h3, h4⟩ := h
  unfold y_RT
  rw [x_up_ne _ _ (show δ + 1 ≠ δ + 4 by omega), x_up_ne _ _ (show δ + 2 ≠ δ + 4 by omega), x_up_self, x_up_ne _ _ (show δ + 3 ≠ δ + 4 by omega), x_up_ne _ _ (show 8 ≠ 26 + m by omega)]
  refine ⟨h1, fun i hi => by rw [x_up_ne _ _ (by omega)]; exact h2 i hi, fun s hs => by rw [x_up_ne _ _ (by omega)]; exact h3 s hs, fun s hs => ?_⟩
  by_cases z : s = m
  · rw [z, x_up_self, x_up_self]
  · rw [x_up_ne _ _ z, x_up_ne _ _ (by omega)]; exact h4 s hs
theorem RT_8 {v : Int32} (h : y_RT I δ a) : y_RT (va_up I (δ + 1) (va_up (I (δ + 1)) 0 v)) δ (va_up a 8 v) := by
  obtain ⟨h1, h2, h3, h4⟩ := h
  unfold y_RT
  rw [x_up_self, x_up_self, x_up_self, x_up_ne _ _ (show δ + 2 ≠ δ + 1 by omega), x_up_ne _ _ (show δ + 3 ≠ δ + 1 by omega), x_up_ne _ _ (show δ + 4 ≠ δ + 1 by omega)]
  exact ⟨rfl, fun i hi => by rw [x_up_ne _ _ (by omega)]; exact h2 i hi, fun s hs => by rw [x_up_ne _ _ (by omega)]; exact h3 s hs, fun s hs => by rw [x_up_ne _ _ (by omega)]; exact h4 s hs⟩
theorem RC_6 {j : Nat} {v : Int32} (h : y_RC I δ a) : y_RC (va_up I (δ + 6) (va_up (I (δ + 6)) j v)) δ (va_up a (44 + j) v) := by
  obtain ⟨h1, h2⟩ := h
  unfold y_RC
  rw [x_up_ne _ _ (show δ + 5 ≠ δ + 6 by omega), x_up_self, x_up_ne _ _ (show 9 ≠ 44 + j by omega)]
  refine ⟨h1, fun i hi => ?_⟩
  by_cases z : i = j
  · rw [z, x_up_self, x_up_self]
  · rw [x_up_ne _ _ z, x_up_ne _ _ (by omega)]; exact h2 i hi
theorem RC_9 {v : Int32} (h : y_RC I δ a) : y_RC (va_up I (δ + 5) (va_up (I (δ + 5)) 0 v)) δ (va_up a 9 v) := by
  obtain ⟨h1, h2⟩ := h
  unfold y_RC
  rw [x_up_self, x_up_self, x_up_self, x_up_ne _ _ (show δ + 6 ≠ δ + 5 by omega)]
  exact ⟨rfl, fun i hi => by rw [x_up_ne _ _ (by omega)]; exact h2 i hi⟩
end
theorem l_species (hR : x_wf R) {δ : Nat} (hδ : x_sl δ) {g : Nat → Int32} {n : Nat} : ∀ d m I s a w3, m + d = 6 → y_QS I n g s → y_RT I δ a → ∃ I' b, x_Ev X mX5_readSpecies 2 [some (.ref 1), some (.ref (δ + 1)), some (.int (Int32.ofNat m)), w3] [] ((I, L, R), 233, 0, 0) (.inl (some (.int b)), (I', L, R), 233) ∧ (∀ q, ¬ q = 1 → ¬ q = δ + 1 → ¬ q = δ + 3 → ¬ q = δ + 4 → I' q = I q) ∧ y_CO I I' n g (y_sps g n d m s a) b (y_RT I' δ) := by
  have h5 := sl5 hδ
  intro d
  induction d with
  | zero =>
    intro m I s a w3 hd Q hT
    obtain rfl : m = 6 := by omega
    unfold y_sps
    obtain ⟨I1, k1, f1, q1, kp1⟩ := k_start (X := X) (L := L) hR Q
    by_cases c : y_wd g n 1011 s
    · rw [if_pos c]
      obtain ⟨I2, k2, f2, q2, kp2⟩ := k_word_ok (X := X) (L := L) hR q1 (w := 1011) (l := 7) (by decide) (by decide) rfl (by decide) c
      obtain ⟨I3, k3, f3, fl⟩ := k_fail (X := X) (I := I2) (L := L) (R := R) (e := -4) (x := Int32.ofNat s) rfl
      refine ⟨I3, 0, ?_, fun q z1 z2 z3 z4 => (f3 q z1).trans ((f2 q z1).trans (f1 q z1)), ⟨rfl, fl_t (kp_t kp1 kp2) fl⟩⟩
      refine f_iload_n (M := mX5_readSpecies) 3 dX5_readSpecies_2 rfl rfl ?_
      refine f_bipush (M := mX5_readSpecies) 5 dX5_readSpecies_3 kb_6 rfl ?_
      refine e_icmp_gtF (M := mX5_readSpecies) 105 dX5_readSpecies_5 rfl (by decide) ?_
      refine f_aload_n (M := mX5_readSpecies) 9 dX5_readSpecies_8 rfl rfl ?_
      refine e_cV (M := mX5_readSpecies) [_] 0 0 dX5_readSpecies_9 pa_5095 pb_5095 cc_5095 rfl rfl rfl rfl rfl (x_kk rfl) (x_kk rfl) rfl (k1) rfl ?_
      refine f_istore_n (M := mX5_readSpecies) (ls' := [_, _, _, _]) 13 dX5_readSpecies_12 rfl rfl rfl ?_
      refine f_aload_n (M := mX5_readSpecies) 14 dX5_readSpecies_13 rfl rfl ?_
      refine f_ldcR (M := mX5_readSpecies) 16 dX5_readSpecies_14 (x_kk rfl) csn_5099 csr_5099 rfl ?_
      refine e_cV (M := mX5_readSpecies) [_] 0 0 dX5_readSpecies_16 pa_5066 pb_5066 cc_5066 rfl rfl rfl rfl rfl (x_kk rfl) (x_kk rfl) rfl (k2) rfl ?_
      refine e_if_neT (M := mX5_readSpecies) 24 dX5_readSpecies_19 rfl (show ¬ (1 : Int32) = 0 by decide) ?_
      refine f_iload_n (M := mX5_readSpecies) 25 dX5_readSpecies_24 rfl rfl ?_
      refine f_bipush (M := mX5_readSpecies) 27 dX5_readSpecies_25 kb_6 rfl ?_
      refine e_icmp_neF (M := mX5_readSpecies) 38 dX5_readSpecies_27 rfl (by decide) ?_
      refine f_aload_n (M := mX5_readSpecies) 31 dX5_readSpecies_30 rfl rfl ?_
      refine f_bipush (M := mX5_readSpecies) 33 dX5_readSpecies_31 kb_m4 rfl ?_
      refine f_iload_n (M := mX5_readSpecies) 34 dX5_readSpecies_33 rfl rfl ?_
      refine e_cV (M := mX5_readSpecies) [_] 0 0 dX5_readSpecies_34 pa_5070 pb_5070 cc_5070 rfl rfl rfl rfl rfl (x_kk rfl) (x_kk rfl) rfl (k3) rfl ?_
      refine e_rb (M := mX5_readSpecies) dX5_readSpecies_37 rfl (x_kk rfl) (x_kk rfl) (by decide) ?_
      rfl
    · rw [if_neg c]
      obtain ⟨I2, k2, f2, q2, hp5, kp2⟩ := k_word_no (X := X) (L := L) hR q1 (w := 1011) (by decide) (by decide) c
      refine ⟨I2, 1, ?_, fun q z1 z2 z3 z4 => (f2 q z1).trans (f1 q z1), ⟨rfl, q2, kp_t kp1 kp2, RT_1 hT (fun k z1 z2 => (f2 _ (by omega)).trans (f1 _ (by omega)))⟩⟩
      refine f_iload_n (M := mX5_readSpecies) 3 dX5_readSpecies_2 rfl rfl ?_
      refine f_bipush (M := mX5_readSpecies) 5 dX5_readSpecies_3 kb_6 rfl ?_
      refine e_icmp_gtF (M := mX5_readSpecies) 105 dX5_readSpecies_5 rfl (by decide) ?_
      refine f_aload_n (M := mX5_readSpecies) 9 dX5_readSpecies_8 rfl rfl ?_
      refine e_cV (M := mX5_readSpecies) [_] 0 0 dX5_readSpecies_9 pa_5095 pb_5095 cc_5095 rfl rfl rfl rfl rfl (x_kk rfl) (x_kk rfl) rfl (k1) rfl ?_
      refine f_istore_n (M := mX5_readSpecies) (ls' := [_, _, _, _]) 13 dX5_readSpecies_12 rfl rfl rfl ?_
      refine f_aload_n (M := mX5_readSpecies) 14 dX5_readSpecies_13 rfl rfl ?_
      refine f_ldcR (M := mX5_readSpecies) 16 dX5_readSpecies_14 (x_kk rfl) csn_5099 csr_5099 rfl ?_
      refine e_cV (M := mX5_readSpecies) [_] 0 0 dX5_readSpecies_16 pa_5066 pb_5066 cc_5066 rfl rfl rfl rfl rfl (x_kk rfl) (x_kk rfl) rfl (k2) rfl ?_
      refine e_if_neF (M := mX5_readSpecies) 24 dX5_readSpecies_19 rfl (show ¬ (¬ (0 : Int32) = 0) by decide) ?_
      refine f_iconst (M := mX5_readSpecies) 23 dX5_readSpecies_22 ki_1 rfl ?_
      refine e_rb (M := mX5_readSpecies) dX5_readSpecies_23 rfl (x_kk rfl) (x_kk rfl) (by decide) ?_
      rfl
  | succ d ih =>
    intro m I s a w3 hd Q hT
    unfold y_sps
    obtain ⟨I1, k1, f1, q1, kp1⟩ := k_start (X := X) (L := L) hR Q
    by_cases c : y_wd g n 1011 s
    · rw [if_pos c]
      obtain ⟨I2, k2, f2, q2, kp2⟩ := k_word_ok (X := X) (L := L) hR q1 (w := 1011) (l := 7) (by decide) (by decide) rfl (by decide) c
      have kq2 := kp_t kp1 kp2
      unfold y_ns
      dsimp only
      cases e3 : y_n1 g n 0 (if (0 : Nat) = 0 then 100000 else 10000) (y_sk g n (s + 7)) with
      | inl e =>
        obtain ⟨I3, k3, f3, fl⟩ := k_num_no (X := X) (L := L) hR q2 (by decide) (by decide) e3
        refine ⟨I3, 0, ?_, fun q z1 z2 z3 z4 => (f3 q z1).trans ((f2 q z1).trans (f1 q z1)), ⟨rfl, fl_t kq2 fl⟩⟩
        refine f_iload_n (M := mX5_readSpecies) 3 dX5_readSpecies_2 rfl rfl ?_
        refine f_bipush (M := mX5_readSpecies) 5 dX5_readSpecies_3 kb_6 rfl ?_
        refine e_icmp_gtF (M := mX5_readSpecies) 105 dX5_readSpecies_5 rfl (by rw [kn_6, n_lt (by omega) (by omega)]; omega) ?_
        refine f_aload_n (M := mX5_readSpecies) 9 dX5_readSpecies_8 rfl rfl ?_
        refine e_cV (M := mX5_readSpecies) [_] 0 0 dX5_readSpecies_9 pa_5095 pb_5095 cc_5095 rfl rfl rfl rfl rfl (x_kk rfl) (x_kk rfl) rfl (k1) rfl ?_
        refine f_istore_n (M := mX5_readSpecies) (ls' := [_, _, _, _]) 13 dX5_readSpecies_12 rfl rfl rfl ?_
        refine f_aload_n (M := mX5_readSpecies) 14 dX5_readSpecies_13 rfl rfl ?_
        refine f_ldcR (M := mX5_readSpecies) 16 dX5_readSpecies_14 (x_kk rfl) csn_5099 csr_5099 rfl ?_
        refine e_cV (M := mX5_readSpecies) [_] 0 0 dX5_readSpecies_16 pa_5066 pb_5066 cc_5066 rfl rfl rfl rfl rfl (x_kk rfl) (x_kk rfl) rfl (k2) rfl ?_
        refine e_if_neT (M := mX5_readSpecies) 24 dX5_readSpecies_19 rfl (show ¬ (1 : Int32) = 0 by decide) ?_
        refine f_iload_n (M := mX5_readSpecies) 25 dX5_readSpecies_24 rfl rfl ?_
        refine f_bipush (M := mX5_readSpecies) 27 dX5_readSpecies_25 kb_6 rfl ?_
        refine e_icmp_neT (M := mX5_readSpecies) 38 dX5_readSpecies_27 rfl (by rw [kn_6, n_eq (by omega) (by omega)]; omega) ?_
        refine f_aload_n (M := mX5_readSpecies) 39 dX5_readSpecies_38 rfl rfl ?_
        refine f_iconst (M := mX5_readSpecies) 40 dX5_readSpecies_39 ki_0 rfl ?_
        refine f_ldcI (M := mX5_readSpecies) 42 dX5_readSpecies_40 (x_kk rfl) cst_5101 rfl ?_
        refine e_cV (M := mX5_readSpecies) [_] 0 0 dX5_readSpecies_42 pa_5081 pb_5081 cc_5081 rfl rfl rfl rfl rfl (x_kk rfl) (x_kk rfl) rfl (k3) rfl ?_
        refine e_if_neF (M := mX5_readSpecies) 50 dX5_readSpecies_45 rfl (show ¬ (¬ (0 : Int32) = 0) by decide) ?_
        refine f_iconst (M := mX5_readSpecies) 49 dX5_readSpecies_48 ki_0 rfl ?_
        refine e_rb (M := mX5_readSpecies) dX5_readSpecies_49 rfl (x_kk rfl) (x_kk rfl) (by decide) ?_
        rfl
      | inr w =>
        obtain ⟨I3, k3, f3, q3, n3, kp3⟩ := k_num_ok (X := X) (L := L) hR q2 (by decide) e3
        have kq3 := kp_t kq2 kp3
        have T3 : y_RT I3 δ a := RT_1 hT (fun k z1 z2 => (f3 _ (by omega)).trans ((f2 _ (by omega)).trans (f1 _ (by omega))))
        have T4 := RT_3 (v := I3 1 6) (show m < 6 by omega) T3
        generalize hJ4 : va_up I3 (δ + 3) (va_up (I3 (δ + 3)) m (I3 1 6)) = J4 at T4
        have u4 : ∀ q, ¬ q = δ + 3 → J4 q = I3 q := fun q hq => by rw [← hJ4]; exact x_up_ne _ _ hq
        rw [n3] at T4
        have q4 : y_QS J4 n g w.2 := QS_c q3 (u4 1 (by omega)) (u4 2 (by omega))
        have kq4 : y_kp I J4 := kp_c kq3 (u4 1 (by omega))
        dsimp only
        unfold y_ns
        dsimp only
        cases e5 : y_n1 g n (0 + 1) (if 0 + 1 = 0 then 100000 else 10000) w.2 with
        | inl e =>
          obtain ⟨I5, k5, f5, fl⟩ := k_num_no (X := X) (L := L) hR q4 (by decide) (by decide) e5
          refine ⟨I5, 0, ?_, fun q z1 z2 z3 z4 => (f5 q z1).trans ((u4 q z3).trans ((f3 q z1).trans ((f2 q z1).trans (f1 q z1)))), ⟨rfl, fl_t kq4 fl⟩⟩
          refine f_iload_n (M := mX5_readSpecies) 3 dX5_readSpecies_2 rfl rfl ?_
          refine f_bipush (M := mX5_readSpecies) 5 dX5_readSpecies_3 kb_6 rfl ?_
          refine e_icmp_gtF (M := mX5_readSpecies) 105 dX5_readSpecies_5 rfl (by rw [kn_6, n_lt (by omega) (by omega)]; omega) ?_
          refine f_aload_n (M := mX5_readSpecies) 9 dX5_readSpecies_8 rfl rfl ?_
          refine e_cV (M := mX5_readSpecies) [_] 0 0 dX5_readSpecies_9 pa_5095 pb_5095 cc_5095 rfl rfl rfl rfl rfl (x_kk rfl) (x_kk rfl) rfl (k1) rfl ?_
          refine f_istore_n (M := mX5_readSpecies) (ls' := [_, _, _, _]) 13 dX5_readSpecies_12 rfl rfl rfl ?_
          refine f_aload_n (M := mX5_readSpecies) 14 dX5_readSpecies_13 rfl rfl ?_
          refine f_ldcR (M := mX5_readSpecies) 16 dX5_readSpecies_14 (x_kk rfl) csn_5099 csr_5099 rfl ?_
          refine e_cV (M := mX5_readSpecies) [_] 0 0 dX5_readSpecies_16 pa_5066 pb_5066 cc_5066 rfl rfl rfl rfl rfl (x_kk rfl) (x_kk rfl) rfl (k2) rfl ?_
          refine e_if_neT (M := mX5_readSpecies) 24 dX5_readSpecies_19 rfl (show ¬ (1 : Int32) = 0 by decide) ?_
          refine f_iload_n (M := mX5_readSpecies) 25 dX5_readSpecies_24 rfl rfl ?_
          refine f_bipush (M := mX5_readSpecies) 27 dX5_readSpecies_25 kb_6 rfl ?_
          refine e_icmp_neT (M := mX5_readSpecies) 38 dX5_readSpecies_27 rfl (by rw [kn_6, n_eq (by omega) (by omega)]; omega) ?_
          refine f_aload_n (M := mX5_readSpecies) 39 dX5_readSpecies_38 rfl rfl ?_
          refine f_iconst (M := mX5_readSpecies) 40 dX5_readSpecies_39 ki_0 rfl ?_
          refine f_ldcI (M := mX5_readSpecies) 42 dX5_readSpecies_40 (x_kk rfl) cst_5101 rfl ?_
          refine e_cV (M := mX5_readSpecies) [_] 0 0 dX5_readSpecies_42 pa_5081 pb_5081 cc_5081 rfl rfl rfl rfl rfl (x_kk rfl) (x_kk rfl) rfl (k3) rfl ?_
          refine e_if_neT (M := mX5_readSpecies) 50 dX5_readSpecies_45 rfl (show ¬ (1 : Int32) = 0 by decide) ?_
          refine f_aload_n (M := mX5_readSpecies) 51 dX5_readSpecies_50 rfl rfl ?_
          refine e_getR (M := mX5_readSpecies) dX5_readSpecies_51 fl_5102 (x_kk rfl) (sl_lt hδ 1 rfl) (sl_s hδ 1 rfl rfl) (wf_7_2 hR hδ) ?_
          refine f_iload_n (M := mX5_readSpecies) 55 dX5_readSpecies_54 rfl rfl ?_
          refine f_aload_n (M := mX5_readSpecies) 56 dX5_readSpecies_55 rfl rfl ?_
          refine e_getI (M := mX5_readSpecies) dX5_readSpecies_56 fl_5089 (x_kk rfl) (x_kk rfl) rfl ?_
          refine e_ist (M := mX5_readSpecies) (w := 6) (j := m) dX5_readSpecies_59 (sl_lt hδ 3 rfl) (sl_shp hδ 3 rfl) rfl (by omega) (by omega) ?_
          rw [hJ4]
          refine f_aload_n (M := mX5_readSpecies) 61 dX5_readSpecies_60 rfl rfl ?_
          refine f_iconst (M := mX5_readSpecies) 62 dX5_readSpecies_61 ki_1 rfl ?_
          refine f_sipush (M := mX5_readSpecies) 65 dX5_readSpecies_62 ks_10000 rfl ?_
          refine e_cV (M := mX5_readSpecies) [_] 0 0 dX5_readSpecies_65 pa_5081 pb_5081 cc_5081 rfl rfl rfl rfl rfl (x_kk rfl) (x_kk rfl) rfl (k5) rfl ?_
          refine e_if_neF (M := mX5_readSpecies) 73 dX5_readSpecies_68 rfl (show ¬ (¬ (0 : Int32) = 0) by decide) ?_
          refine f_iconst (M := mX5_readSpecies) 72 dX5_readSpecies_71 ki_0 rfl ?_
          refine e_rb (M := mX5_readSpecies) dX5_readSpecies_72 rfl (x_kk rfl) (x_kk rfl) (by decide) ?_
          rfl
        | inr w2 =>
          obtain ⟨I5, k5, f5, q5, n5, kp5⟩ := k_num_ok (X := X) (L := L) hR q4 (by decide) e5
          have kq5 := kp_t kq4 kp5
          have T5 := RT_4 (v := I5 1 6) (show m < 6 by omega) (RT_1 T4 (fun k z1 z2 => f5 _ (by omega)))
          generalize hJ6 : va_up I5 (δ + 4) (va_up (I5 (δ + 4)) m (I5 1 6)) = J6 at T5
          have u6 : ∀ q, ¬ q = δ + 4 → J6 q = I5 q := fun q hq => by rw [← hJ6]; exact x_up_ne _ _ hq
          rw [n5] at T5
          have T7 := RT_8 (v := Int32.ofNat m + 1) T5
          generalize hJ7 : va_up J6 (δ + 1) (va_up (J6 (δ + 1)) 0 (Int32.ofNat m + 1)) = J7 at T7
          have u7 : ∀ q, ¬ q = δ + 1 → J7 q = J6 q := fun q hq => by rw [← hJ7]; exact x_up_ne _ _ hq
          rw [n_inc] at T7
          have q7 : y_QS J7 n g w2.2 := QS_c q5 ((u7 1 (by omega)).trans (u6 1 (by omega))) ((u7 2 (by omega)).trans (u6 2 (by omega)))
          have kq7 : y_kp I J7 := kp_c kq5 ((u7 1 (by omega)).trans (u6 1 (by omega)))
          have fr7 : ∀ q, ¬ q = 1 → ¬ q = δ + 1 → ¬ q = δ + 3 → ¬ q = δ + 4 → J7 q = I q := fun q z1 z2 z3 z4 => (u7 q z2).trans ((u6 q z4).trans ((f5 q z1).trans ((u4 q z3).trans ((f3 q z1).trans ((f2 q z1).trans (f1 q z1))))))
          unfold y_ns
          unfold y_bd
          dsimp only
          unfold y_sm
          by_cases c2 : y_rg g n 59 59 w2.2
          · rw [if_pos c2]
            dsimp only
            obtain ⟨I8, k8, f8, q8, kp8⟩ := k_semi_ok (X := X) (L := L) hR q7 c2
            obtain ⟨I', b, e, fr, co⟩ := ih (m + 1) I8 _ _ (some (.int (Int32.ofNat s))) (by omega) q8 (RT_1 T7 (fun k z1 z2 => f8 _ (by omega)))
            refine ⟨I', b, ?_, fun q z1 z2 z3 z4 => (fr q z1 z2 z3 z4).trans ((f8 q z1).trans (fr7 q z1 z2 z3 z4)), CO_t (kp_t kq7 kp8) co⟩
            refine f_iload_n (M := mX5_readSpecies) 3 dX5_readSpecies_2 rfl rfl ?_
            refine f_bipush (M := mX5_readSpecies) 5 dX5_readSpecies_3 kb_6 rfl ?_
            refine e_icmp_gtF (M := mX5_readSpecies) 105 dX5_readSpecies_5 rfl (by rw [kn_6, n_lt (by omega) (by omega)]; omega) ?_
            refine f_aload_n (M := mX5_readSpecies) 9 dX5_readSpecies_8 rfl rfl ?_
            refine e_cV (M := mX5_readSpecies) [_] 0 0 dX5_readSpecies_9 pa_5095 pb_5095 cc_5095 rfl rfl rfl rfl rfl (x_kk rfl) (x_kk rfl) rfl (k1) rfl ?_
            refine f_istore_n (M := mX5_readSpecies) (ls' := [_, _, _, _]) 13 dX5_readSpecies_12 rfl rfl rfl ?_
            refine f_aload_n (M := mX5_readSpecies) 14 dX5_readSpecies_13 rfl rfl ?_
            refine f_ldcR (M := mX5_readSpecies) 16 dX5_readSpecies_14 (x_kk rfl) csn_5099 csr_5099 rfl ?_
            refine e_cV (M := mX5_readSpecies) [_] 0 0 dX5_readSpecies_16 pa_5066 pb_5066 cc_5066 rfl rfl rfl rfl rfl (x_kk rfl) (x_kk rfl) rfl (k2) rfl ?_
            refine e_if_neT (M := mX5_readSpecies) 24 dX5_readSpecies_19 rfl (show ¬ (1 : Int32) = 0 by decide) ?_
            refine f_iload_n (M := mX5_readSpecies) 25 dX5_readSpecies_24 rfl rfl ?_
            refine f_bipush (M := mX5_readSpecies) 27 dX5_readSpecies_25 kb_6 rfl ?_
            refine e_icmp_neT (M := mX5_readSpecies) 38 dX5_readSpecies_27 rfl (by rw [kn_6, n_eq (by omega) (by omega)]; omega) ?_
            refine f_aload_n (M := mX5_readSpecies) 39 dX5_readSpecies_38 rfl rfl ?_
            refine f_iconst (M := mX5_readSpecies) 40 dX5_readSpecies_39 ki_0 rfl ?_
            refine f_ldcI (M := mX5_readSpecies) 42 dX5_readSpecies_40 (x_kk rfl) cst_5101 rfl ?_
            refine e_cV (M := mX5_readSpecies) [_] 0 0 dX5_readSpecies_42 pa_5081 pb_5081 cc_5081 rfl rfl rfl rfl rfl (x_kk rfl) (x_kk rfl) rfl (k3) rfl ?_
            refine e_if_neT (M := mX5_readSpecies) 50 dX5_readSpecies_45 rfl (show ¬ (1 : Int32) = 0 by decide) ?_
            refine f_aload_n (M := mX5_readSpecies) 51 dX5_readSpecies_50 rfl rfl ?_
            refine e_getR (M := mX5_readSpecies) dX5_readSpecies_51 fl_5102 (x_kk rfl) (sl_lt hδ 1 rfl) (sl_s hδ 1 rfl rfl) (wf_7_2 hR hδ) ?_
            refine f_iload_n (M := mX5_readSpecies) 55 dX5_readSpecies_54 rfl rfl ?_
            refine f_aload_n (M := mX5_readSpecies) 56 dX5_readSpecies_55 rfl rfl ?_
            refine e_getI (M := mX5_readSpecies) dX5_readSpecies_56 fl_5089 (x_kk rfl) (x_kk rfl) rfl ?_
            refine e_ist (M := mX5_readSpecies) (w := 6) (j := m) dX5_readSpecies_59 (sl_lt hδ 3 rfl) (sl_shp hδ 3 rfl) rfl (by omega) (by omega) ?_
            rw [hJ4]
            refine f_aload_n (M := mX5_readSpecies) 61 dX5_readSpecies_60 rfl rfl ?_
            refine f_iconst (M := mX5_readSpecies) 62 dX5_readSpecies_61 ki_1 rfl ?_
            refine f_sipush (M := mX5_readSpecies) 65 dX5_readSpecies_62 ks_10000 rfl ?_
            refine e_cV (M := mX5_readSpecies) [_] 0 0 dX5_readSpecies_65 pa_5081 pb_5081 cc_5081 rfl rfl rfl rfl rfl (x_kk rfl) (x_kk rfl) rfl (k5) rfl ?_
            refine e_if_neT (M := mX5_readSpecies) 73 dX5_readSpecies_68 rfl (show ¬ (1 : Int32) = 0 by decide) ?_
            refine f_aload_n (M := mX5_readSpecies) 74 dX5_readSpecies_73 rfl rfl ?_
            refine e_getR (M := mX5_readSpecies) dX5_readSpecies_74 fl_5105 (x_kk rfl) (sl_lt hδ 1 rfl) (sl_s hδ 1 rfl rfl) (wf_7_3 hR hδ) ?_
            refine f_iload_n (M := mX5_readSpecies) 78 dX5_readSpecies_77 rfl rfl ?_
            refine f_aload_n (M := mX5_readSpecies) 79 dX5_readSpecies_78 rfl rfl ?_
            refine e_getI (M := mX5_readSpecies) dX5_readSpecies_79 fl_5089 (x_kk rfl) (x_kk rfl) rfl ?_
            refine e_ist (M := mX5_readSpecies) (w := 6) (j := m) dX5_readSpecies_82 (sl_lt hδ 4 rfl) (sl_shp hδ 4 rfl) rfl (by omega) (by omega) ?_
            rw [hJ6]
            refine f_aload_n (M := mX5_readSpecies) 84 dX5_readSpecies_83 rfl rfl ?_
            refine f_iload_n (M := mX5_readSpecies) 85 dX5_readSpecies_84 rfl rfl ?_
            refine f_iconst (M := mX5_readSpecies) 86 dX5_readSpecies_85 ki_1 rfl ?_
            refine f_iadd (M := mX5_readSpecies) 87 dX5_readSpecies_86 rfl ?_
            refine e_putI (M := mX5_readSpecies) dX5_readSpecies_87 fl_5108 (x_kk rfl) (sl_lt hδ 1 rfl) (sl_s hδ 1 rfl rfl) (fun q9 => Bool.noConfusion q9) ?_
            rw [hJ7]
            refine f_aload_n (M := mX5_readSpecies) 91 dX5_readSpecies_90 rfl rfl ?_
            refine e_cV (M := mX5_readSpecies) [_] 0 0 dX5_readSpecies_91 pa_5092 pb_5092 cc_5092 rfl rfl rfl rfl rfl (x_kk rfl) (x_kk rfl) rfl (k8) rfl ?_
            refine e_if_neT (M := mX5_readSpecies) 99 dX5_readSpecies_94 rfl (show ¬ (1 : Int32) = 0 by decide) ?_
            refine f_iinc (M := mX5_readSpecies) (ls' := [_, _, _, _]) 102 dX5_readSpecies_99 ki_1 rfl rfl rfl rfl ?_
            refine f_goto (M := mX5_readSpecies) 2 dX5_readSpecies_102 rfl ?_
            rw [n_inc (s := m)]; exact e
          · rw [if_neg c2]
            obtain ⟨I8, k8, f8, fl⟩ := k_semi_no (X := X) (L := L) hR q7 c2
            refine ⟨I8, 0, ?_, fun q z1 z2 z3 z4 => (f8 q z1).trans (fr7 q z1 z2 z3 z4), ⟨rfl, fl_t kq7 fl⟩⟩
            refine f_iload_n (M := mX5_readSpecies) 3 dX5_readSpecies_2 rfl rfl ?_
            refine f_bipush (M := mX5_readSpecies) 5 dX5_readSpecies_3 kb_6 rfl ?_
            refine e_icmp_gtF (M := mX5_readSpecies) 105 dX5_readSpecies_5 rfl (by rw [kn_6, n_lt (by omega) (by omega)]; omega) ?_
            refine f_aload_n (M := mX5_readSpecies) 9 dX5_readSpecies_8 rfl rfl ?_
            refine e_cV (M := mX5_readSpecies) [_] 0 0 dX5_readSpecies_9 pa_5095 pb_5095 cc_5095 rfl rfl rfl rfl rfl (x_kk rfl) (x_kk rfl) rfl (k1) rfl ?_
            refine f_istore_n (M := mX5_readSpecies) (ls' := [_, _, _, _]) 13 dX5_readSpecies_12 rfl rfl rfl ?_
            refine f_aload_n (M := mX5_readSpecies) 14 dX5_readSpecies_13 rfl rfl ?_
            refine f_ldcR (M := mX5_readSpecies) 16 dX5_readSpecies_14 (x_kk rfl) csn_5099 csr_5099 rfl ?_
            refine e_cV (M := mX5_readSpecies) [_] 0 0 dX5_readSpecies_16 pa_5066 pb_5066 cc_5066 rfl rfl rfl rfl rfl (x_kk rfl) (x_kk rfl) rfl (k2) rfl ?_
            refine e_if_neT (M := mX5_readSpecies) 24 dX5_readSpecies_19 rfl (show ¬ (1 : Int32) = 0 by decide) ?_
            refine f_iload_n (M := mX5_readSpecies) 25 dX5_readSpecies_24 rfl rfl ?_
            refine f_bipush (M := mX5_readSpecies) 27 dX5_readSpecies_25 kb_6 rfl ?_
            refine e_icmp_neT (M := mX5_readSpecies) 38 dX5_readSpecies_27 rfl (by rw [kn_6, n_eq (by omega) (by omega)]; omega) ?_
            refine f_aload_n (M := mX5_readSpecies) 39 dX5_readSpecies_38 rfl rfl ?_
            refine f_iconst (M := mX5_readSpecies) 40 dX5_readSpecies_39 ki_0 rfl ?_
            refine f_ldcI (M := mX5_readSpecies) 42 dX5_readSpecies_40 (x_kk rfl) cst_5101 rfl ?_
            refine e_cV (M := mX5_readSpecies) [_] 0 0 dX5_readSpecies_42 pa_5081 pb_5081 cc_5081 rfl rfl rfl rfl rfl (x_kk rfl) (x_kk rfl) rfl (k3) rfl ?_
            refine e_if_neT (M := mX5_readSpecies) 50 dX5_readSpecies_45 rfl (show ¬ (1 : Int32) = 0 by decide) ?_
            refine f_aload_n (M := mX5_readSpecies) 51 dX5_readSpecies_50 rfl rfl ?_
            refine e_getR (M := mX5_readSpecies) dX5_readSpecies_51 fl_5102 (x_kk rfl) (sl_lt hδ 1 rfl) (sl_s hδ 1 rfl rfl) (wf_7_2 hR hδ) ?_
            refine f_iload_n (M := mX5_readSpecies) 55 dX5_readSpecies_54 rfl rfl ?_
            refine f_aload_n (M := mX5_readSpecies) 56 dX5_readSpecies_55 rfl rfl ?_
            refine e_getI (M := mX5_readSpecies) dX5_readSpecies_56 fl_5089 (x_kk rfl) (x_kk rfl) rfl ?_
            refine e_ist (M := mX5_readSpecies) (w := 6) (j := m) dX5_readSpecies_59 (sl_lt hδ 3 rfl) (sl_shp hδ 3 rfl) rfl (by omega) (by omega) ?_
            rw [hJ4]
            refine f_aload_n (M := mX5_readSpecies) 61 dX5_readSpecies_60 rfl rfl ?_
            refine f_iconst (M := mX5_readSpecies) 62 dX5_readSpecies_61 ki_1 rfl ?_
            refine f_sipush (M := mX5_readSpecies) 65 dX5_readSpecies_62 ks_10000 rfl ?_
            refine e_cV (M := mX5_readSpecies) [_] 0 0 dX5_readSpecies_65 pa_5081 pb_5081 cc_5081 rfl rfl rfl rfl rfl (x_kk rfl) (x_kk rfl) rfl (k5) rfl ?_
            refine e_if_neT (M := mX5_readSpecies) 73 dX5_readSpecies_68 rfl (show ¬ (1 : Int32) = 0 by decide) ?_
            refine f_aload_n (M := mX5_readSpecies) 74 dX5_readSpecies_73 rfl rfl ?_
            refine e_getR (M := mX5_readSpecies) dX5_readSpecies_74 fl_5105 (x_kk rfl) (sl_lt hδ 1 rfl) (sl_s hδ 1 rfl rfl) (wf_7_3 hR hδ) ?_
            refine f_iload_n (M := mX5_readSpecies) 78 dX5_readSpecies_77 rfl rfl ?_
            refine f_aload_n (M := mX5_readSpecies) 79 dX5_readSpecies_78 rfl rfl ?_
            refine e_getI (M := mX5_readSpecies) dX5_readSpecies_79 fl_5089 (x_kk rfl) (x_kk rfl) rfl ?_
            refine e_ist (M := mX5_readSpecies) (w := 6) (j := m) dX5_readSpecies_82 (sl_lt hδ 4 rfl) (sl_shp hδ 4 rfl) rfl (by omega) (by omega) ?_
            rw [hJ6]
            refine f_aload_n (M := mX5_readSpecies) 84 dX5_readSpecies_83 rfl rfl ?_
            refine f_iload_n (M := mX5_readSpecies) 85 dX5_readSpecies_84 rfl rfl ?_
            refine f_iconst (M := mX5_readSpecies) 86 dX5_readSpecies_85 ki_1 rfl ?_
            refine f_iadd (M := mX5_readSpecies) 87 dX5_readSpecies_86 rfl ?_
            refine e_putI (M := mX5_readSpecies) dX5_readSpecies_87 fl_5108 (x_kk rfl) (sl_lt hδ 1 rfl) (sl_s hδ 1 rfl rfl) (fun q9 => Bool.noConfusion q9) ?_
            rw [hJ7]
            refine f_aload_n (M := mX5_readSpecies) 91 dX5_readSpecies_90 rfl rfl ?_
            refine e_cV (M := mX5_readSpecies) [_] 0 0 dX5_readSpecies_91 pa_5092 pb_5092 cc_5092 rfl rfl rfl rfl rfl (x_kk rfl) (x_kk rfl) rfl (k8) rfl ?_
            refine e_if_neF (M := mX5_readSpecies) 99 dX5_readSpecies_94 rfl (show ¬ (¬ (0 : Int32) = 0) by decide) ?_
            refine f_iconst (M := mX5_readSpecies) 98 dX5_readSpecies_97 ki_0 rfl ?_
            refine e_rb (M := mX5_readSpecies) dX5_readSpecies_98 rfl (x_kk rfl) (x_kk rfl) (by decide) ?_
            rfl
    · rw [if_neg c]
      obtain ⟨I2, k2, f2, q2, hp5, kp2⟩ := k_word_no (X := X) (L := L) hR q1 (w := 1011) (by decide) (by decide) c
      refine ⟨I2, 1, ?_, fun q z1 z2 z3 z4 => (f2 q z1).trans (f1 q z1), ⟨rfl, q2, kp_t kp1 kp2, RT_1 hT (fun k z1 z2 => (f2 _ (by omega)).trans (f1 _ (by omega)))⟩⟩
      refine f_iload_n (M := mX5_readSpecies) 3 dX5_readSpecies_2 rfl rfl ?_
      refine f_bipush (M := mX5_readSpecies) 5 dX5_readSpecies_3 kb_6 rfl ?_
      refine e_icmp_gtF (M := mX5_readSpecies) 105 dX5_readSpecies_5 rfl (by rw [kn_6, n_lt (by omega) (by omega)]; omega) ?_
      refine f_aload_n (M := mX5_readSpecies) 9 dX5_readSpecies_8 rfl rfl ?_
      refine e_cV (M := mX5_readSpecies) [_] 0 0 dX5_readSpecies_9 pa_5095 pb_5095 cc_5095 rfl rfl rfl rfl rfl (x_kk rfl) (x_kk rfl) rfl (k1) rfl ?_
      refine f_istore_n (M := mX5_readSpecies) (ls' := [_, _, _, _]) 13 dX5_readSpecies_12 rfl rfl rfl ?_
      refine f_aload_n (M := mX5_readSpecies) 14 dX5_readSpecies_13 rfl rfl ?_
      refine f_ldcR (M := mX5_readSpecies) 16 dX5_readSpecies_14 (x_kk rfl) csn_5099 csr_5099 rfl ?_
      refine e_cV (M := mX5_readSpecies) [_] 0 0 dX5_readSpecies_16 pa_5066 pb_5066 cc_5066 rfl rfl rfl rfl rfl (x_kk rfl) (x_kk rfl) rfl (k2) rfl ?_
      refine e_if_neF (M := mX5_readSpecies) 24 dX5_readSpecies_19 rfl (show ¬ (¬ (0 : Int32) = 0) by decide) ?_
      refine f_iconst (M := mX5_readSpecies) 23 dX5_readSpecies_22 ki_1 rfl ?_
      refine e_rb (M := mX5_readSpecies) dX5_readSpecies_23 rfl (x_kk rfl) (x_kk rfl) (by decide) ?_
      rfl
theorem k_species (hR : x_wf R) {δ : Nat} (hδ : x_sl δ) {g : Nat → Int32} {n s : Nat} (Q : y_QS I n g s) {a : Nat → Int32} (hT : y_RT I δ a) : ∃ I' b, x_Cv X mX5_readSpecies [.ref 1, .ref (δ + 1)] (I, L, R) 233 (.inl (some (.int b)), (I', L, R), 233) ∧ (∀ q, ¬ q = 1 → ¬ q = δ + 1 → ¬ q = δ + 3 → ¬ q = δ + 4 → I' q = I q) ∧ y_CO I I' n g (y_sps g n 6 0 s a) b (y_RT I' δ) := by
  obtain ⟨I', b, e, fr, co⟩ := l_species (X := X) (L := L) hR hδ 6 0 I s a none rfl Q hT
  refine ⟨I', b, ?_, fr, co⟩
  show x_Ev X mX5_readSpecies 0 [some (.ref 1), some (.ref (δ + 1)), none, none] [] ((I, L, R), 233, 0, 0) _
  refine f_iconst (M := mX5_readSpecies) 1 dX5_readSpecies_0 ki_0 rfl ?_
  refine f_istore_n (M := mX5_readSpecies) (ls' := [_, _, _, _]) 2 dX5_readSpecies_1 rfl rfl rfl ?_
  exact e
end

/-! ===== the class's reader, fourth: plots (laid by wip/whole/src/rd5.py) ===== -/
section
variable {X : x_X} {I : Nat → Nat → Int32} {L : Nat → Nat → Int64} {R : Nat → Nat → Option Nat} {N : Nat}
def y_PO (r : y_PR) (P : Int32 × Nat → Prop) (Q : Nat × (Nat → Int32) → Prop) : Prop := match r with
  | .inl e => P e
  | .inr w => Q w
theorem l_pnums (hR : x_wf R) {δ : Nat} (hδ : x_sl δ) {g : Nat → Int32} {n m k cap : Nat} {v5 : Int32} (hm : m < 30) (hk : k ≤ 6) : ∀ d i I s a, i + d = k → y_QS I n g s → I (δ + 1) 0 = Int32.ofNat k → y_RC I δ a → y_PO (y_ns g n (fun _ => 0) (fun _ => 500) (fun i => 44 + 6 * m + i) d i s a) (fun e => ∃ I', x_Ev X mX5_readPlots 56 [some (.ref 1), some (.ref (δ + 5)), some (.ref (δ + 1)), some (.int (Int32.ofNat cap)), some (.int (Int32.ofNat m)), some (.int v5), some (.int (Int32.ofNat i))] [] ((I, L, R), 233, 0, 0) (.inl (some (.int 0)), (I', L, R), 233) ∧ (∀ q, ¬ q = 1 → ¬ q = δ + 6 → I' q = I q) ∧ y_fl I I' e) (fun w => ∃ I', (∀ r, x_Ev X mX5_readPlots 101 [some (.ref 1), some (.ref (δ + 5)), some (.ref (δ + 1)), some (.int (Int32.ofNat cap)), some (.int (Int32.ofNat m)), some (.int v5), some (.int (Int32.ofNat k))] [] ((I', L, R), 233, 0, 0) r → x_Ev X mX5_readPlots 56 [some (.ref 1), some (.ref (δ + 5)), some (.ref (δ + 1)), some (.int (Int32.ofNat cap)), some (.int (Int32.ofNat m)), some (.int v5), some (.int (Int32.ofNat i))] [] ((I, L, R), 233, 0, 0) r) ∧ (∀ q, ¬ q = 1 → ¬ q = δ + 6 → I' q = I q) ∧ y_QS I' n g w.1 ∧ y_kp I I' ∧ y_RC I' δ w.2) := by
  have h5 := sl5 hδ
  intro d
  induction d with
  | zero =>
    intro i I s a hd Q h8 hC
    obtain rfl : i = k := by omega
    refine ⟨I, fun r hr => ?_, fun q z1 z2 => rfl, Q, ⟨rfl, rfl⟩, hC⟩
    refine f_iload (M := mX5_readPlots) 58 dX5_readPlots_56 rfl rfl ?_
    refine f_aload_n (M := mX5_readPlots) 59 dX5_readPlots_58 rfl rfl ?_
    refine e_getI (M := mX5_readPlots) dX5_readPlots_59 fl_5108 (x_kk rfl) (sl_lt hδ 1 rfl) (sl_s hδ 1 rfl rfl) ?_
    refine e_icmp_geT (M := mX5_readPlots) 101 dX5_readPlots_62 rfl (by rw [h8]; exact Int32.le_refl _) ?_
    exact hr
  | succ d ih =>
    intro i I s a hd Q h8 hC
    unfold y_ns
    cases e1 : y_n1 g n 0 500 s with
    | inl e =>
      obtain ⟨I1, k1, f1, fl⟩ := k_num_no (X := X) (L := L) hR Q (by decide) (by decide) e1
      refine ⟨I1, ?_, fun q z1 z2 => f1 q z1, fl⟩
      refine f_iload (M := mX5_readPlots) 58 dX5_readPlots_56 rfl rfl ?_
      refine f_aload_n (M := mX5_readPlots) 59 dX5_readPlots_58 rfl rfl ?_
      refine e_getI (M := mX5_readPlots) dX5_readPlots_59 fl_5108 (x_kk rfl) (sl_lt hδ 1 rfl) (sl_s hδ 1 rfl rfl) ?_
      refine e_icmp_geF (M := mX5_readPlots) 101 dX5_readPlots_62 rfl (by rw [h8, n_le (by omega) (by omega)]; omega) ?_
      refine f_aload_n (M := mX5_readPlots) 66 dX5_readPlots_65 rfl rfl ?_
      refine f_iconst (M := mX5_readPlots) 67 dX5_readPlots_66 ki_0 rfl ?_
      refine f_sipush (M := mX5_readPlots) 70 dX5_readPlots_67 ks_500 rfl ?_
      refine e_cV (M := mX5_readPlots) [_] 0 0 dX5_readPlots_70 pa_5081 pb_5081 cc_5081 rfl rfl rfl rfl rfl (x_kk rfl) (x_kk rfl) rfl (k1) rfl ?_
      refine e_if_neF (M := mX5_readPlots) 78 dX5_readPlots_73 rfl (show ¬ (¬ (0 : Int32) = 0) by decide) ?_
      refine f_iconst (M := mX5_readPlots) 77 dX5_readPlots_76 ki_0 rfl ?_
      refine e_rb (M := mX5_readPlots) dX5_readPlots_77 rfl (x_kk rfl) (x_kk rfl) (by decide) ?_
      rfl
    | inr w =>
      obtain ⟨I1, k1, f1, q1, n1, kp1⟩ := k_num_ok (X := X) (L := L) hR Q (by decide) e1
      have C1 : y_RC I1 δ a := RC_1 hC (fun k z1 z2 => f1 _ (by omega))
      have C2 := RC_6 (j := m * 6 + i) (v := I1 1 6) C1
      generalize hJ : va_up I1 (δ + 6) (va_up (I1 (δ + 6)) (m * 6 + i) (I1 1 6)) = J at C2
      have u : ∀ q, ¬ q = δ + 6 → J q = I1 q := fun q hq => by rw [← hJ]; exact x_up_ne _ _ hq
      rw [n1, show 44 + (m * 6 + i) = 44 + 6 * m + i by omega] at C2
      have ih1 := ih (i + 1) J w.2 (va_up a (44 + 6 * m + i) (Int32.ofNat w.1)) (by omega) (QS_c q1 (u 1 (by omega)) (u 2 (by omega))) (by rw [u _ (by omega), f1 _ (by omega)]; exact h8) C2
      have kpJ : y_kp I J := kp_c kp1 (u 1 (by omega))
      have frJ : ∀ q, ¬ q = 1 → ¬ q = δ + 6 → J q = I q := fun q z1 z2 => (u q z2).trans (f1 q z1)
      dsimp only
      cases e2 : y_ns g n (fun _ => 0) (fun _ => 500) (fun i => 44 + 6 * m + i) d (i + 1) w.2 (va_up a (44 + 6 * m + i) (Int32.ofNat w.1)) with
      | inl e =>
        rw [e2] at ih1
        obtain ⟨I', ev, fr, fl⟩ := ih1
        refine ⟨I', ?_, fun q z1 z2 => (fr q z1 z2).trans (frJ q z1 z2), fl_t kpJ fl⟩
        refine f_iload (M := mX5_readPlots) 58 dX5_readPlots_56 rfl rfl ?_
        refine f_aload_n (M := mX5_readPlots) 59 dX5_readPlots_58 rfl rfl ?_
        refine e_getI (M := mX5_readPlots) dX5_readPlots_59 fl_5108 (x_kk rfl) (sl_lt hδ 1 rfl) (sl_s hδ 1 rfl rfl) ?_
        refine e_icmp_geF (M := mX5_readPlots) 101 dX5_readPlots_62 rfl (by rw [h8, n_le (by omega) (by omega)]; omega) ?_
        refine f_aload_n (M := mX5_readPlots) 66 dX5_readPlots_65 rfl rfl ?_
        refine f_iconst (M := mX5_readPlots) 67 dX5_readPlots_66 ki_0 rfl ?_
        refine f_sipush (M := mX5_readPlots) 70 dX5_readPlots_67 ks_500 rfl ?_
        refine e_cV (M := mX5_readPlots) [_] 0 0 dX5_readPlots_70 pa_5081 pb_5081 cc_5081 rfl rfl rfl rfl rfl (x_kk rfl) (x_kk rfl) rfl (k1) rfl ?_
        refine e_if_neT (M := mX5_readPlots) 78 dX5_readPlots_73 rfl (show ¬ (1 : Int32) = 0 by decide) ?_
        refine f_aload_n (M := mX5_readPlots) 79 dX5_readPlots_78 rfl rfl ?_
        refine e_getR (M := mX5_readPlots) dX5_readPlots_79 fl_5119 (x_kk rfl) (sl_lt hδ 5 rfl) (sl_s hδ 5 rfl rfl) (wf_2_1 hR hδ) ?_
        refine f_iload (M := mX5_readPlots) 84 dX5_readPlots_82 rfl rfl ?_
        refine f_bipush (M := mX5_readPlots) 86 dX5_readPlots_84 kb_6 rfl ?_
        refine f_imul (M := mX5_readPlots) 87 dX5_readPlots_86 rfl ?_
        refine f_iload (M := mX5_readPlots) 89 dX5_readPlots_87 rfl rfl ?_
        refine f_iadd (M := mX5_readPlots) 90 dX5_readPlots_89 rfl ?_
        refine f_aload_n (M := mX5_readPlots) 91 dX5_readPlots_90 rfl rfl ?_
        refine e_getI (M := mX5_readPlots) dX5_readPlots_91 fl_5089 (x_kk rfl) (x_kk rfl) rfl ?_
        refine e_ist (M := mX5_readPlots) (w := 180) (j := ((m) * (6)) + (i)) dX5_readPlots_94 (sl_lt hδ 6 rfl) (sl_shp hδ 6 rfl) (ix_add (ix_mul rfl kn_6) rfl) (by omega) (by omega) ?_
        rw [hJ]
        refine f_iinc (M := mX5_readPlots) (ls' := [_, _, _, _, _, _, _]) 98 dX5_readPlots_95 ki_1 rfl rfl rfl rfl ?_
        refine f_goto (M := mX5_readPlots) 56 dX5_readPlots_98 rfl ?_
        rw [n_inc (s := i)]; exact ev
      | inr w2 =>
        rw [e2] at ih1
        obtain ⟨I', ev, fr, q2, kp2, C3⟩ := ih1
        refine ⟨I', fun r hr => ?_, fun q z1 z2 => (fr q z1 z2).trans (frJ q z1 z2), q2, kp_t kpJ kp2, C3⟩
        refine f_iload (M := mX5_readPlots) 58 dX5_readPlots_56 rfl rfl ?_
        refine f_aload_n (M := mX5_readPlots) 59 dX5_readPlots_58 rfl rfl ?_
        refine e_getI (M := mX5_readPlots) dX5_readPlots_59 fl_5108 (x_kk rfl) (sl_lt hδ 1 rfl) (sl_s hδ 1 rfl rfl) ?_
        refine e_icmp_geF (M := mX5_readPlots) 101 dX5_readPlots_62 rfl (by rw [h8, n_le (by omega) (by omega)]; omega) ?_
        refine f_aload_n (M := mX5_readPlots) 66 dX5_readPlots_65 rfl rfl ?_
        refine f_iconst (M := mX5_readPlots) 67 dX5_readPlots_66 ki_0 rfl ?_
        refine f_sipush (M := mX5_readPlots) 70 dX5_readPlots_67 ks_500 rfl ?_
        refine e_cV (M := mX5_readPlots) [_] 0 0 dX5_readPlots_70 pa_5081 pb_5081 cc_5081 rfl rfl rfl rfl rfl (x_kk rfl) (x_kk rfl) rfl (k1) rfl ?_
        refine e_if_neT (M := mX5_readPlots) 78 dX5_readPlots_73 rfl (show ¬ (1 : Int32) = 0 by decide) ?_
        refine f_aload_n (M := mX5_readPlots) 79 dX5_readPlots_78 rfl rfl ?_
        refine e_getR (M := mX5_readPlots) dX5_readPlots_79 fl_5119 (x_kk rfl) (sl_lt hδ 5 rfl) (sl_s hδ 5 rfl rfl) (wf_2_1 hR hδ) ?_
        refine f_iload (M := mX5_readPlots) 84 dX5_readPlots_82 rfl rfl ?_
        refine f_bipush (M := mX5_readPlots) 86 dX5_readPlots_84 kb_6 rfl ?_
        refine f_imul (M := mX5_readPlots) 87 dX5_readPlots_86 rfl ?_
        refine f_iload (M := mX5_readPlots) 89 dX5_readPlots_87 rfl rfl ?_
        refine f_iadd (M := mX5_readPlots) 90 dX5_readPlots_89 rfl ?_
        refine f_aload_n (M := mX5_readPlots) 91 dX5_readPlots_90 rfl rfl ?_
        refine e_getI (M := mX5_readPlots) dX5_readPlots_91 fl_5089 (x_kk rfl) (x_kk rfl) rfl ?_
        refine e_ist (M := mX5_readPlots) (w := 180) (j := ((m) * (6)) + (i)) dX5_readPlots_94 (sl_lt hδ 6 rfl) (sl_shp hδ 6 rfl) (ix_add (ix_mul rfl kn_6) rfl) (by omega) (by omega) ?_
        rw [hJ]
        refine f_iinc (M := mX5_readPlots) (ls' := [_, _, _, _, _, _, _]) 98 dX5_readPlots_95 ki_1 rfl rfl rfl rfl ?_
        refine f_goto (M := mX5_readPlots) 56 dX5_readPlots_98 rfl ?_
        rw [n_inc (s := i)]; exact ev r hr
theorem l_plots (hR : x_wf R) {δ : Nat} (hδ : x_sl δ) {g : Nat → Int32} {n k cap : Nat} (hc : cap ≤ 30) (hk : k ≤ 6) : ∀ d m I s a w5 w6, m + d = cap → y_QS I n g s → I (δ + 1) 0 = Int32.ofNat k → y_RC I δ a → ∃ I' b, x_Ev X mX5_readPlots 15 [some (.ref 1), some (.ref (δ + 5)), some (.ref (δ + 1)), some (.int (Int32.ofNat cap)), some (.int (Int32.ofNat m)), w5, w6] [] ((I, L, R), 233, 0, 0) (.inl (some (.int b)), (I', L, R), 233) ∧ (∀ q, ¬ q = 1 → ¬ q = δ + 5 → ¬ q = δ + 6 → I' q = I q) ∧ y_CO I I' n g (y_pls g n k d m s a) b (y_RC I' δ) := by
  have h5 := sl5 hδ
  intro d
  induction d with
  | zero =>
    intro m I s a w5 w6 hd Q h8 hC
    obtain rfl : m = cap := by omega
    unfold y_pls
    obtain ⟨I1, k1, f1, q1, kp1⟩ := k_start (X := X) (L := L) hR Q
    by_cases c : y_wd g n 1012 s
    · rw [if_pos c]
      obtain ⟨I2, k2, f2, q2, kp2⟩ := k_word_ok (X := X) (L := L) hR q1 (w := 1012) (l := 4) (by decide) (by decide) rfl (by decide) c
      obtain ⟨I3, k3, f3, fl⟩ := k_fail (X := X) (I := I2) (L := L) (R := R) (e := -4) (x := Int32.ofNat s) rfl
      refine ⟨I3, 0, ?_, fun q z1 z2 z3 => (f3 q z1).trans ((f2 q z1).trans (f1 q z1)), ⟨rfl, fl_t (kp_t kp1 kp2) fl⟩⟩
      refine f_iload (M := mX5_readPlots) 17 dX5_readPlots_15 rfl rfl ?_
      refine f_iload_n (M := mX5_readPlots) 18 dX5_readPlots_17 rfl rfl ?_
      refine e_icmp_gtF (M := mX5_readPlots) 124 dX5_readPlots_18 rfl (by rw [n_lt (by omega) (by omega)]; omega) ?_
      refine f_aload_n (M := mX5_readPlots) 22 dX5_readPlots_21 rfl rfl ?_
      refine e_cV (M := mX5_readPlots) [_] 0 0 dX5_readPlots_22 pa_5095 pb_5095 cc_5095 rfl rfl rfl rfl rfl (x_kk rfl) (x_kk rfl) rfl (k1) rfl ?_
      refine f_istore (M := mX5_readPlots) (ls' := [_, _, _, _, _, _, _]) 27 dX5_readPlots_25 rfl rfl rfl ?_
      refine f_aload_n (M := mX5_readPlots) 28 dX5_readPlots_27 rfl rfl ?_
      refine f_ldcR (M := mX5_readPlots) 30 dX5_readPlots_28 (x_kk rfl) csn_5117 csr_5117 rfl ?_
      refine e_cV (M := mX5_readPlots) [_] 0 0 dX5_readPlots_30 pa_5066 pb_5066 cc_5066 rfl rfl rfl rfl rfl (x_kk rfl) (x_kk rfl) rfl (k2) rfl ?_
      refine e_if_neT (M := mX5_readPlots) 38 dX5_readPlots_33 rfl (show ¬ (1 : Int32) = 0 by decide) ?_
      refine f_iload (M := mX5_readPlots) 40 dX5_readPlots_38 rfl rfl ?_
      refine f_iload_n (M := mX5_readPlots) 41 dX5_readPlots_40 rfl rfl ?_
      refine e_icmp_neF (M := mX5_readPlots) 53 dX5_readPlots_41 rfl (fun z => z rfl) ?_
      refine f_aload_n (M := mX5_readPlots) 45 dX5_readPlots_44 rfl rfl ?_
      refine f_bipush (M := mX5_readPlots) 47 dX5_readPlots_45 kb_m4 rfl ?_
      refine f_iload (M := mX5_readPlots) 49 dX5_readPlots_47 rfl rfl ?_
      refine e_cV (M := mX5_readPlots) [_] 0 0 dX5_readPlots_49 pa_5070 pb_5070 cc_5070 rfl rfl rfl rfl rfl (x_kk rfl) (x_kk rfl) rfl (k3) rfl ?_
      refine e_rb (M := mX5_readPlots) dX5_readPlots_52 rfl (x_kk rfl) (x_kk rfl) (by decide) ?_
      rfl
    · rw [if_neg c]
      obtain ⟨I2, k2, f2, q2, hp5, kp2⟩ := k_word_no (X := X) (L := L) hR q1 (w := 1012) (by decide) (by decide) c
      refine ⟨I2, 1, ?_, fun q z1 z2 z3 => (f2 q z1).trans (f1 q z1), ⟨rfl, q2, kp_t kp1 kp2, RC_1 hC (fun k z1 z2 => (f2 _ (by omega)).trans (f1 _ (by omega)))⟩⟩
      refine f_iload (M := mX5_readPlots) 17 dX5_readPlots_15 rfl rfl ?_
      refine f_iload_n (M := mX5_readPlots) 18 dX5_readPlots_17 rfl rfl ?_
      refine e_icmp_gtF (M := mX5_readPlots) 124 dX5_readPlots_18 rfl (by rw [n_lt (by omega) (by omega)]; omega) ?_
      refine f_aload_n (M := mX5_readPlots) 22 dX5_readPlots_21 rfl rfl ?_
      refine e_cV (M := mX5_readPlots) [_] 0 0 dX5_readPlots_22 pa_5095 pb_5095 cc_5095 rfl rfl rfl rfl rfl (x_kk rfl) (x_kk rfl) rfl (k1) rfl ?_
      refine f_istore (M := mX5_readPlots) (ls' := [_, _, _, _, _, _, _]) 27 dX5_readPlots_25 rfl rfl rfl ?_
      refine f_aload_n (M := mX5_readPlots) 28 dX5_readPlots_27 rfl rfl ?_
      refine f_ldcR (M := mX5_readPlots) 30 dX5_readPlots_28 (x_kk rfl) csn_5117 csr_5117 rfl ?_
      refine e_cV (M := mX5_readPlots) [_] 0 0 dX5_readPlots_30 pa_5066 pb_5066 cc_5066 rfl rfl rfl rfl rfl (x_kk rfl) (x_kk rfl) rfl (k2) rfl ?_
      refine e_if_neF (M := mX5_readPlots) 38 dX5_readPlots_33 rfl (show ¬ (¬ (0 : Int32) = 0) by decide) ?_
      refine f_iconst (M := mX5_readPlots) 37 dX5_readPlots_36 ki_1 rfl ?_
      refine e_rb (M := mX5_readPlots) dX5_readPlots_37 rfl (x_kk rfl) (x_kk rfl) (by decide) ?_
      rfl
  | succ d ih =>
    intro m I s a w5 w6 hd Q h8 hC
    unfold y_pls
    obtain ⟨I1, k1, f1, q1, kp1⟩ := k_start (X := X) (L := L) hR Q
    by_cases c : y_wd g n 1012 s
    · rw [if_pos c]
      obtain ⟨I2, k2, f2, q2, kp2⟩ := k_word_ok (X := X) (L := L) hR q1 (w := 1012) (l := 4) (by decide) (by decide) rfl (by decide) c
      have kq2 := kp_t kp1 kp2
      have fr2 : ∀ q, ¬ q = 1 → I2 q = I q := fun q z1 => (f2 q z1).trans (f1 q z1)
      have L3 := l_pnums (X := X) (L := L) (v5 := Int32.ofNat s) (cap := cap) hR hδ (show m < 30 by omega) hk k 0 I2 _ a (by omega) q2 (by rw [fr2 _ (by omega)]; exact h8) (RC_1 hC (fun k z1 z2 => fr2 _ (by omega)))
      cases e3 : y_ns g n (fun _ => 0) (fun _ => 500) (fun i => 44 + 6 * m + i) k 0 (y_sk g n (s + 4)) a with
      | inl e =>
        rw [e3] at L3
        obtain ⟨I', ev, fr, fl⟩ := L3
        refine ⟨I', 0, ?_, fun q z1 z2 z3 => (fr q z1 z3).trans (fr2 q z1), ⟨rfl, fl_t kq2 fl⟩⟩
        refine f_iload (M := mX5_readPlots) 17 dX5_readPlots_15 rfl rfl ?_
        refine f_iload_n (M := mX5_readPlots) 18 dX5_readPlots_17 rfl rfl ?_
        refine e_icmp_gtF (M := mX5_readPlots) 124 dX5_readPlots_18 rfl (by rw [n_lt (by omega) (by omega)]; omega) ?_
        refine f_aload_n (M := mX5_readPlots) 22 dX5_readPlots_21 rfl rfl ?_
        refine e_cV (M := mX5_readPlots) [_] 0 0 dX5_readPlots_22 pa_5095 pb_5095 cc_5095 rfl rfl rfl rfl rfl (x_kk rfl) (x_kk rfl) rfl (k1) rfl ?_
        refine f_istore (M := mX5_readPlots) (ls' := [_, _, _, _, _, _, _]) 27 dX5_readPlots_25 rfl rfl rfl ?_
        refine f_aload_n (M := mX5_readPlots) 28 dX5_readPlots_27 rfl rfl ?_
        refine f_ldcR (M := mX5_readPlots) 30 dX5_readPlots_28 (x_kk rfl) csn_5117 csr_5117 rfl ?_
        refine e_cV (M := mX5_readPlots) [_] 0 0 dX5_readPlots_30 pa_5066 pb_5066 cc_5066 rfl rfl rfl rfl rfl (x_kk rfl) (x_kk rfl) rfl (k2) rfl ?_
        refine e_if_neT (M := mX5_readPlots) 38 dX5_readPlots_33 rfl (show ¬ (1 : Int32) = 0 by decide) ?_
        refine f_iload (M := mX5_readPlots) 40 dX5_readPlots_38 rfl rfl ?_
        refine f_iload_n (M := mX5_readPlots) 41 dX5_readPlots_40 rfl rfl ?_
        refine e_icmp_neT (M := mX5_readPlots) 53 dX5_readPlots_41 rfl (by rw [n_eq (by omega) (by omega)]; omega) ?_
        refine f_iconst (M := mX5_readPlots) 54 dX5_readPlots_53 ki_0 rfl ?_
        refine f_istore (M := mX5_readPlots) (ls' := [_, _, _, _, _, _, _]) 56 dX5_readPlots_54 rfl rfl rfl ?_
        exact ev
      | inr w =>
        rw [e3] at L3
        obtain ⟨I3, ev, fr3, q3, kp3, C3⟩ := L3
        have C4 := RC_9 (v := Int32.ofNat m + 1) C3
        generalize hJ : va_up I3 (δ + 5) (va_up (I3 (δ + 5)) 0 (Int32.ofNat m + 1)) = J at C4
        have u : ∀ q, ¬ q = δ + 5 → J q = I3 q := fun q hq => by rw [← hJ]; exact x_up_ne _ _ hq
        rw [n_inc] at C4
        have qJ : y_QS J n g w.1 := QS_c q3 (u 1 (by omega)) (u 2 (by omega))
        have kqJ : y_kp I J := kp_c (kp_t kq2 kp3) (u 1 (by omega))
        have frJ : ∀ q, ¬ q = 1 → ¬ q = δ + 5 → ¬ q = δ + 6 → J q = I q := fun q z1 z2 z3 => (u q z2).trans ((fr3 q z1 z3).trans (fr2 q z1))
        unfold y_bd
        dsimp only
        unfold y_sm
        by_cases c2 : y_rg g n 59 59 w.1
        · rw [if_pos c2]
          dsimp only
          obtain ⟨I8, k8, f8, q8, kp8⟩ := k_semi_ok (X := X) (L := L) hR qJ c2
          obtain ⟨I', b, e, fr, co⟩ := ih (m + 1) I8 _ _ (some (.int (Int32.ofNat s))) (some (.int (Int32.ofNat k))) (by omega) q8 (by rw [f8 _ (by omega), frJ _ (by omega) (by omega) (by omega)]; exact h8) (RC_1 C4 (fun k z1 z2 => f8 _ (by omega)))
          refine ⟨I', b, ?_, fun q z1 z2 z3 => (fr q z1 z2 z3).trans ((f8 q z1).trans (frJ q z1 z2 z3)), CO_t (kp_t kqJ kp8) co⟩
          refine f_iload (M := mX5_readPlots) 17 dX5_readPlots_15 rfl rfl ?_
          refine f_iload_n (M := mX5_readPlots) 18 dX5_readPlots_17 rfl rfl ?_
          refine e_icmp_gtF (M := mX5_readPlots) 124 dX5_readPlots_18 rfl (by rw [n_lt (by omega) (by omega)]; omega) ?_
          refine f_aload_n (M := mX5_readPlots) 22 dX5_readPlots_21 rfl rfl ?_
          refine e_cV (M := mX5_readPlots) [_] 0 0 dX5_readPlots_22 pa_5095 pb_5095 cc_5095 rfl rfl rfl rfl rfl (x_kk rfl) (x_kk rfl) rfl (k1) rfl ?_
          refine f_istore (M := mX5_readPlots) (ls' := [_, _, _, _, _, _, _]) 27 dX5_readPlots_25 rfl rfl rfl ?_
          refine f_aload_n (M := mX5_readPlots) 28 dX5_readPlots_27 rfl rfl ?_
          refine f_ldcR (M := mX5_readPlots) 30 dX5_readPlots_28 (x_kk rfl) csn_5117 csr_5117 rfl ?_
          refine e_cV (M := mX5_readPlots) [_] 0 0 dX5_readPlots_30 pa_5066 pb_5066 cc_5066 rfl rfl rfl rfl rfl (x_kk rfl) (x_kk rfl) rfl (k2) rfl ?_
          refine e_if_neT (M := mX5_readPlots) 38 dX5_readPlots_33 rfl (show ¬ (1 : Int32) = 0 by decide) ?_
          refine f_iload (M := mX5_readPlots) 40 dX5_readPlots_38 rfl rfl ?_
          refine f_iload_n (M := mX5_readPlots) 41 dX5_readPlots_40 rfl rfl ?_
          refine e_icmp_neT (M := mX5_readPlots) 53 dX5_readPlots_41 rfl (by rw [n_eq (by omega) (by omega)]; omega) ?_
          refine f_iconst (M := mX5_readPlots) 54 dX5_readPlots_53 ki_0 rfl ?_
          refine f_istore (M := mX5_readPlots) (ls' := [_, _, _, _, _, _, _]) 56 dX5_readPlots_54 rfl rfl rfl ?_
          refine ev _ ?_
          refine f_aload_n (M := mX5_readPlots) 102 dX5_readPlots_101 rfl rfl ?_
          refine f_iload (M := mX5_readPlots) 104 dX5_readPlots_102 rfl rfl ?_
          refine f_iconst (M := mX5_readPlots) 105 dX5_readPlots_104 ki_1 rfl ?_
          refine f_iadd (M := mX5_readPlots) 106 dX5_readPlots_105 rfl ?_
          refine e_putI (M := mX5_readPlots) dX5_readPlots_106 fl_5059 (x_kk rfl) (sl_lt hδ 5 rfl) (sl_s hδ 5 rfl rfl) (fun q9 => Bool.noConfusion q9) ?_
          rw [hJ]
          refine f_aload_n (M := mX5_readPlots) 110 dX5_readPlots_109 rfl rfl ?_
          refine e_cV (M := mX5_readPlots) [_] 0 0 dX5_readPlots_110 pa_5092 pb_5092 cc_5092 rfl rfl rfl rfl rfl (x_kk rfl) (x_kk rfl) rfl (k8) rfl ?_
          refine e_if_neT (M := mX5_readPlots) 118 dX5_readPlots_113 rfl (show ¬ (1 : Int32) = 0 by decide) ?_
          refine f_iinc (M := mX5_readPlots) (ls' := [_, _, _, _, _, _, _]) 121 dX5_readPlots_118 ki_1 rfl rfl rfl rfl ?_
          refine f_goto (M := mX5_readPlots) 15 dX5_readPlots_121 rfl ?_
          rw [n_inc (s := m)]; exact e
        · rw [if_neg c2]
          obtain ⟨I8, k8, f8, fl⟩ := k_semi_no (X := X) (L := L) hR qJ c2
          refine ⟨I8, 0, ?_, fun q z1 z2 z3 => (f8 q z1).trans (frJ q z1 z2 z3), ⟨rfl, fl_t kqJ fl⟩⟩
          refine f_iload (M := mX5_readPlots) 17 dX5_readPlots_15 rfl rfl ?_
          refine f_iload_n (M := mX5_readPlots) 18 dX5_readPlots_17 rfl rfl ?_
          refine e_icmp_gtF (M := mX5_readPlots) 124 dX5_readPlots_18 rfl (by rw [n_lt (by omega) (by omega)]; omega) ?_
          refine f_aload_n (M := mX5_readPlots) 22 dX5_readPlots_21 rfl rfl ?_
          refine e_cV (M := mX5_readPlots) [_] 0 0 dX5_readPlots_22 pa_5095 pb_5095 cc_5095 rfl rfl rfl rfl rfl (x_kk rfl) (x_kk rfl) rfl (k1) rfl ?_
          refine f_istore (M := mX5_readPlots) (ls' := [_, _, _, _, _, _, _]) 27 dX5_readPlots_25 rfl rfl rfl ?_
          refine f_aload_n (M := mX5_readPlots) 28 dX5_readPlots_27 rfl rfl ?_
          refine f_ldcR (M := mX5_readPlots) 30 dX5_readPlots_28 (x_kk rfl) csn_5117 csr_5117 rfl ?_
          refine e_cV (M := mX5_readPlots) [_] 0 0 dX5_readPlots_30 pa_5066 pb_5066 cc_5066 rfl rfl rfl rfl rfl (x_kk rfl) (x_kk rfl) rfl (k2) rfl ?_
          refine e_if_neT (M := mX5_readPlots) 38 dX5_readPlots_33 rfl (show ¬ (1 : Int32) = 0 by decide) ?_
          refine f_iload (M := mX5_readPlots) 40 dX5_readPlots_38 rfl rfl ?_
          refine f_iload_n (M := mX5_readPlots) 41 dX5_readPlots_40 rfl rfl ?_
          refine e_icmp_neT (M := mX5_readPlots) 53 dX5_readPlots_41 rfl (by rw [n_eq (by omega) (by omega)]; omega) ?_
          refine f_iconst (M := mX5_readPlots) 54 dX5_readPlots_53 ki_0 rfl ?_
          refine f_istore (M := mX5_readPlots) (ls' := [_, _, _, _, _, _, _]) 56 dX5_readPlots_54 rfl rfl rfl ?_
          refine ev _ ?_
          refine f_aload_n (M := mX5_readPlots) 102 dX5_readPlots_101 rfl rfl ?_
          refine f_iload (M := mX5_readPlots) 104 dX5_readPlots_102 rfl rfl ?_
          refine f_iconst (M := mX5_readPlots) 105 dX5_readPlots_104 ki_1 rfl ?_
          refine f_iadd (M := mX5_readPlots) 106 dX5_readPlots_105 rfl ?_
          refine e_putI (M := mX5_readPlots) dX5_readPlots_106 fl_5059 (x_kk rfl) (sl_lt hδ 5 rfl) (sl_s hδ 5 rfl rfl) (fun q9 => Bool.noConfusion q9) ?_
          rw [hJ]
          refine f_aload_n (M := mX5_readPlots) 110 dX5_readPlots_109 rfl rfl ?_
          refine e_cV (M := mX5_readPlots) [_] 0 0 dX5_readPlots_110 pa_5092 pb_5092 cc_5092 rfl rfl rfl rfl rfl (x_kk rfl) (x_kk rfl) rfl (k8) rfl ?_
          refine e_if_neF (M := mX5_readPlots) 118 dX5_readPlots_113 rfl (show ¬ (¬ (0 : Int32) = 0) by decide) ?_
          refine f_iconst (M := mX5_readPlots) 117 dX5_readPlots_116 ki_0 rfl ?_
          refine e_rb (M := mX5_readPlots) dX5_readPlots_117 rfl (x_kk rfl) (x_kk rfl) (by decide) ?_
          rfl
    · rw [if_neg c]
      obtain ⟨I2, k2, f2, q2, hp5, kp2⟩ := k_word_no (X := X) (L := L) hR q1 (w := 1012) (by decide) (by decide) c
      refine ⟨I2, 1, ?_, fun q z1 z2 z3 => (f2 q z1).trans (f1 q z1), ⟨rfl, q2, kp_t kp1 kp2, RC_1 hC (fun k z1 z2 => (f2 _ (by omega)).trans (f1 _ (by omega)))⟩⟩
      refine f_iload (M := mX5_readPlots) 17 dX5_readPlots_15 rfl rfl ?_
      refine f_iload_n (M := mX5_readPlots) 18 dX5_readPlots_17 rfl rfl ?_
      refine e_icmp_gtF (M := mX5_readPlots) 124 dX5_readPlots_18 rfl (by rw [n_lt (by omega) (by omega)]; omega) ?_
      refine f_aload_n (M := mX5_readPlots) 22 dX5_readPlots_21 rfl rfl ?_
      refine e_cV (M := mX5_readPlots) [_] 0 0 dX5_readPlots_22 pa_5095 pb_5095 cc_5095 rfl rfl rfl rfl rfl (x_kk rfl) (x_kk rfl) rfl (k1) rfl ?_
      refine f_istore (M := mX5_readPlots) (ls' := [_, _, _, _, _, _, _]) 27 dX5_readPlots_25 rfl rfl rfl ?_
      refine f_aload_n (M := mX5_readPlots) 28 dX5_readPlots_27 rfl rfl ?_
      refine f_ldcR (M := mX5_readPlots) 30 dX5_readPlots_28 (x_kk rfl) csn_5117 csr_5117 rfl ?_
      refine e_cV (M := mX5_readPlots) [_] 0 0 dX5_readPlots_30 pa_5066 pb_5066 cc_5066 rfl rfl rfl rfl rfl (x_kk rfl) (x_kk rfl) rfl (k2) rfl ?_
      refine e_if_neF (M := mX5_readPlots) 38 dX5_readPlots_33 rfl (show ¬ (¬ (0 : Int32) = 0) by decide) ?_
      refine f_iconst (M := mX5_readPlots) 37 dX5_readPlots_36 ki_1 rfl ?_
      refine e_rb (M := mX5_readPlots) dX5_readPlots_37 rfl (x_kk rfl) (x_kk rfl) (by decide) ?_
      rfl
theorem k_plots (hR : x_wf R) {δ : Nat} (hδ : x_sl δ) {g : Nat → Int32} {n s : Nat} (Q : y_QS I n g s) {a : Nat → Int32} (hT : y_RT I δ a) (hC : y_RC I δ a) {z k : Nat} (hz : z ≤ 200) (h1 : a 1 = Int32.ofNat z) (hk : k ≤ 6) (h8 : a 8 = Int32.ofNat k) : ∃ I' b, x_Cv X mX5_readPlots [.ref 1, .ref (δ + 5), .ref (δ + 1)] (I, L, R) 233 (.inl (some (.int b)), (I', L, R), 233) ∧ (∀ q, ¬ q = 1 → ¬ q = δ + 5 → ¬ q = δ + 6 → I' q = I q) ∧ y_CO I I' n g (y_plots g n s a) b (y_RC I' δ) := by
  unfold y_plots
  rw [h1, h8, n_cl (by omega), n_cl (by omega)]
  obtain ⟨I', b, e, fr, co⟩ := l_plots (X := X) (L := L) hR hδ (cap := min 30 z) (by omega) hk (min 30 z) 0 I s a none none (by omega) Q (by rw [hT.1]; exact h8) hC
  refine ⟨I', b, ?_, fr, co⟩
  show x_Ev X mX5_readPlots 0 [some (.ref 1), some (.ref (δ + 5)), some (.ref (δ + 1)), none, none, none, none] [] ((I, L, R), 233, 0, 0) _
  have hm : (if I (δ + 2) 0 < 30 then I (δ + 2) 0 else 30) = Int32.ofNat (min 30 z) := by
    have e0 : I (δ + 2) 0 = Int32.ofNat z := (hT.2.1 0 (by decide)).trans h1
    rw [e0]
    by_cases c : z < 30
    · rw [if_pos (by rw [kn_30, n_lt (by omega) (by omega)]; exact c), show min 30 z = z by omega]
    · rw [if_neg (by rw [kn_30, n_lt (by omega) (by omega)]; exact c), show min 30 z = 30 by omega]; rfl
  refine f_bipush (M := mX5_readPlots) 2 dX5_readPlots_0 kb_30 rfl ?_
  refine f_aload_n (M := mX5_readPlots) 3 dX5_readPlots_2 rfl rfl ?_
  refine e_getR (M := mX5_readPlots) dX5_readPlots_3 fl_5084 (x_kk rfl) (sl_lt hδ 1 rfl) (sl_s hδ 1 rfl rfl) (wf_7_1 hR hδ) ?_
  refine f_iconst (M := mX5_readPlots) 7 dX5_readPlots_6 ki_0 rfl ?_
  refine e_ild (M := mX5_readPlots) (w := 7) (j := 0) dX5_readPlots_7 (sl_lt hδ 2 rfl) (sl_shp hδ 2 rfl) kn_0 (by omega) (by omega) ?_
  refine e_cS (M := mX5_readPlots) [_] 0 0 dX5_readPlots_8 pa_5111 cc_5111 rfl rfl rfl rfl rfl (x_kk rfl) (x_kk rfl) rfl (c_J9_min_7cf53) rfl ?_
  refine f_istore_n (M := mX5_readPlots) (ls' := [_, _, _, _, _, _, _]) 12 dX5_readPlots_11 rfl rfl rfl ?_
  refine f_iconst (M := mX5_readPlots) 13 dX5_readPlots_12 ki_0 rfl ?_
  refine f_istore (M := mX5_readPlots) (ls' := [_, _, _, _, _, _, _]) 15 dX5_readPlots_13 rfl rfl rfl ?_
  rw [hm]; exact e
end

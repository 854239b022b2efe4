/-! ===== the model's reader, fifth: plots, all (laid by wip/whole/src/rd13.py) ===== -/
section
variable {X : x_X} {I : Nat → Nat → Int32} {L : Nat → Nat → Int64} {R : Nat → Nat → Option Nat} {N : Nat}
section
variable {g : Nat → Int32} {n s : Nat} {I1 I2 : Nat → Nat → Int32} {L1 L2 : Nat → Nat → Int64}
theorem m_plotF (hR : x_wf R) {a : Nat → Int32} {m : Nat} (S : y_MS I L n g (.inr (s, a))) (hm : m ≤ 30) (h9 : a 9 = Int32.ofNat m) (hc : m = 30 ∨ a 1 = Int32.ofNat m) : ∃ I' L', x_Cv X mX9_readsPlot [.ref 225] (I, L, R) 233 (.inl none, (I', L', R), 233) ∧ y_m6 I L I' L' ∧ y_MS I' L' n g (.inl (-4, s)) := by
  have f9 : I 227 9 = Int32.ofNat m := (S.2 9 (by decide)).trans h9
  obtain ⟨I1, k1, f1, W1⟩ := m_fails (X := X) (R := R) S.1 (c := -4) (by decide)
  obtain ⟨I2, L2, k2, f2, S2⟩ := m_must (X := X) (I := I1) (L := L) (g := g) (n := n) hR (r := .inl (-4, s)) W1 2
  refine ⟨I2, L2, ?_, m6_5 (m5_t f1 f2), S2⟩
  by_cases c : m = 30
  · show x_Ev X mX9_readsPlot 0 [some (.ref 225), none, none] [] ((I, L, R), 233, 0, 0) _
    refine f_aload_n (M := mX9_readsPlot) 1 dX9_readsPlot_0 rfl rfl ?_
    refine e_getR (M := mX9_readsPlot) dX9_readsPlot_1 fl_9013 (x_kk rfl) (x_kk rfl) rfl (wf_9_1 hR) ?_
    refine f_bipush (M := mX9_readsPlot) 6 dX9_readsPlot_4 kb_9 rfl ?_
    refine e_ild (M := mX9_readsPlot) (w := 606) (j := 9) dX9_readsPlot_6 (x_kk rfl) rfl kn_9 (by omega) (by omega) ?_
    refine f_istore_n (M := mX9_readsPlot) (ls' := [_, _, _]) 8 dX9_readsPlot_7 rfl rfl rfl ?_
    refine f_iload_n (M := mX9_readsPlot) 9 dX9_readsPlot_8 rfl rfl ?_
    refine f_bipush (M := mX9_readsPlot) 11 dX9_readsPlot_9 kb_30 rfl ?_
    refine e_icmp_eqT (M := mX9_readsPlot) 24 dX9_readsPlot_11 rfl (by rw [f9, c]; rfl) ?_
    refine f_aload_n (M := mX9_readsPlot) 25 dX9_readsPlot_24 rfl rfl ?_
    refine f_bipush (M := mX9_readsPlot) 27 dX9_readsPlot_25 kb_m4 rfl ?_
    refine e_cV (M := mX9_readsPlot) [] 0 0 dX9_readsPlot_27 pa_9103 pb_9103 cc_9103 rfl rfl rfl rfl rfl (x_kk rfl) (x_kk rfl) rfl (k1) rfl ?_
    refine f_aload_n (M := mX9_readsPlot) 31 dX9_readsPlot_30 rfl rfl ?_
    refine f_iconst (M := mX9_readsPlot) 32 dX9_readsPlot_31 ki_2 rfl ?_
    refine e_cV (M := mX9_readsPlot) [] 0 0 dX9_readsPlot_32 pa_9110 pb_9110 cc_9110 rfl rfl rfl rfl rfl (x_kk rfl) (x_kk rfl) rfl (k2) rfl ?_
    refine f_aload_n (M := mX9_readsPlot) 36 dX9_readsPlot_35 rfl rfl ?_
    refine e_getI (M := mX9_readsPlot) dX9_readsPlot_36 fl_9093 (x_kk rfl) (x_kk rfl) rfl ?_
    refine e_if_eqF (M := mX9_readsPlot) 43 dX9_readsPlot_39 rfl S2.1 ?_
    refine e_rv (M := mX9_readsPlot) dX9_readsPlot_42 rfl (x_kk rfl) (x_kk rfl) ?_
    rfl
  · have h1 : I 227 1 = Int32.ofNat m := (S.2 1 (by decide)).trans (hc.resolve_left c)
    show x_Ev X mX9_readsPlot 0 [some (.ref 225), none, none] [] ((I, L, R), 233, 0, 0) _
    refine f_aload_n (M := mX9_readsPlot) 1 dX9_readsPlot_0 rfl rfl ?_
    refine e_getR (M := mX9_readsPlot) dX9_readsPlot_1 fl_9013 (x_kk rfl) (x_kk rfl) rfl (wf_9_1 hR) ?_
    refine f_bipush (M := mX9_readsPlot) 6 dX9_readsPlot_4 kb_9 rfl ?_
    refine e_ild (M := mX9_readsPlot) (w := 606) (j := 9) dX9_readsPlot_6 (x_kk rfl) rfl kn_9 (by omega) (by omega) ?_
    refine f_istore_n (M := mX9_readsPlot) (ls' := [_, _, _]) 8 dX9_readsPlot_7 rfl rfl rfl ?_
    refine f_iload_n (M := mX9_readsPlot) 9 dX9_readsPlot_8 rfl rfl ?_
    refine f_bipush (M := mX9_readsPlot) 11 dX9_readsPlot_9 kb_30 rfl ?_
    refine e_icmp_eqF (M := mX9_readsPlot) 24 dX9_readsPlot_11 rfl (by rw [f9, kn_30, n_eq (by omega) (by omega)]; exact c) ?_
    refine f_iload_n (M := mX9_readsPlot) 15 dX9_readsPlot_14 rfl rfl ?_
    refine f_aload_n (M := mX9_readsPlot) 16 dX9_readsPlot_15 rfl rfl ?_
    refine e_getR (M := mX9_readsPlot) dX9_readsPlot_16 fl_9013 (x_kk rfl) (x_kk rfl) rfl (wf_9_1 hR) ?_
    refine f_iconst (M := mX9_readsPlot) 20 dX9_readsPlot_19 ki_1 rfl ?_
    refine e_ild (M := mX9_readsPlot) (w := 606) (j := 1) dX9_readsPlot_20 (x_kk rfl) rfl kn_1 (by omega) (by omega) ?_
    refine e_icmp_neF (M := mX9_readsPlot) 30 dX9_readsPlot_21 rfl (fun z => z (by rw [f9, h1])) ?_
    refine f_aload_n (M := mX9_readsPlot) 25 dX9_readsPlot_24 rfl rfl ?_
    refine f_bipush (M := mX9_readsPlot) 27 dX9_readsPlot_25 kb_m4 rfl ?_
    refine e_cV (M := mX9_readsPlot) [] 0 0 dX9_readsPlot_27 pa_9103 pb_9103 cc_9103 rfl rfl rfl rfl rfl (x_kk rfl) (x_kk rfl) rfl (k1) rfl ?_
    refine f_aload_n (M := mX9_readsPlot) 31 dX9_readsPlot_30 rfl rfl ?_
    refine f_iconst (M := mX9_readsPlot) 32 dX9_readsPlot_31 ki_2 rfl ?_
    refine e_cV (M := mX9_readsPlot) [] 0 0 dX9_readsPlot_32 pa_9110 pb_9110 cc_9110 rfl rfl rfl rfl rfl (x_kk rfl) (x_kk rfl) rfl (k2) rfl ?_
    refine f_aload_n (M := mX9_readsPlot) 36 dX9_readsPlot_35 rfl rfl ?_
    refine e_getI (M := mX9_readsPlot) dX9_readsPlot_36 fl_9093 (x_kk rfl) (x_kk rfl) rfl ?_
    refine e_if_eqF (M := mX9_readsPlot) 43 dX9_readsPlot_39 rfl S2.1 ?_
    refine e_rv (M := mX9_readsPlot) dX9_readsPlot_42 rfl (x_kk rfl) (x_kk rfl) ?_
    rfl
theorem l_pl9 (hR : x_wf R) {m k : Nat} (hm : m < 30) (hk : k ≤ 6) : ∀ d i I L r, i + d = k → y_MS I L n g r → I 227 8 = Int32.ofNat k → ∃ I' L', (∀ w, x_Ev X mX9_readsPlot 84 [some (.ref 225), some (.int (Int32.ofNat m)), some (.int (Int32.ofNat k))] [] ((I', L', R), 233, 0, 0) w → x_Ev X mX9_readsPlot 45 [some (.ref 225), some (.int (Int32.ofNat m)), some (.int (Int32.ofNat i))] [] ((I, L, R), 233, 0, 0) w) ∧ y_m6 I L I' L' ∧ I' 227 9 = I 227 9 ∧ y_MS I' L' n g (y_bd r (fun s a => y_ns g n (fun _ => 0) (fun _ => 500) (fun i => 44 + 6 * m + i) d i s a)) := by
  intro d
  induction d with
  | zero =>
    intro i I L r hd S h8
    obtain rfl : i = k := by omega
    refine ⟨I, L, fun w hw => ?_, m6_r, rfl, ?_⟩
    · refine f_iload_n (M := mX9_readsPlot) 46 dX9_readsPlot_45 rfl rfl ?_
      refine f_aload_n (M := mX9_readsPlot) 47 dX9_readsPlot_46 rfl rfl ?_
      refine e_getR (M := mX9_readsPlot) dX9_readsPlot_47 fl_9013 (x_kk rfl) (x_kk rfl) rfl (wf_9_1 hR) ?_
      refine f_bipush (M := mX9_readsPlot) 52 dX9_readsPlot_50 kb_8 rfl ?_
      refine e_ild (M := mX9_readsPlot) (w := 606) (j := 8) dX9_readsPlot_52 (x_kk rfl) rfl kn_8 (by omega) (by omega) ?_
      refine e_icmp_geT (M := mX9_readsPlot) 84 dX9_readsPlot_53 rfl (by rw [h8]; exact Int32.le_refl _) ?_
      exact hw
    · rw [bd_c (f := fun s a => y_ns g n (fun _ => 0) (fun _ => 500) (fun i => 44 + 6 * m + i) 0 i s a) (h := fun s a => .inr (s, a)) (fun s a => rfl), bd_id]; exact S
  | succ d ih =>
    intro i I L r hd S h8
    obtain ⟨v1, I1, L1, k1, f1, S1⟩ := m_takes (X := X) hR S (lo := 0) (hi := 500) (t := 44 + 6 * m + i) (by decide) (by decide)
    have f81 : (va_up I1 227 (va_up (I1 227) (44 + 6 * m + i) v1)) 227 8 = Int32.ofNat k := by rw [x_up_self, x_up_ne _ _ (by omega), (f1.1 227 (by decide)).1]; exact h8
    have f91 : (va_up I1 227 (va_up (I1 227) (44 + 6 * m + i) v1)) 227 9 = I 227 9 := by rw [x_up_self, x_up_ne _ _ (by omega), (f1.1 227 (by decide)).1]
    have g1 := m6_s (f := va_up (I1 227) (44 + 6 * m + i) v1) (m6_5 f1)
    generalize hJ : va_up I1 227 (va_up (I1 227) (44 + 6 * m + i) v1) = J at S1 f81 f91 g1
    obtain ⟨I', L', ev, f2, f9, S2⟩ := ih (i + 1) J L1 _ (by omega) S1 f81
    refine ⟨I', L', fun w hw => ?_, m6_t g1 f2, f9.trans f91, ?_⟩
    · refine f_iload_n (M := mX9_readsPlot) 46 dX9_readsPlot_45 rfl rfl ?_
      refine f_aload_n (M := mX9_readsPlot) 47 dX9_readsPlot_46 rfl rfl ?_
      refine e_getR (M := mX9_readsPlot) dX9_readsPlot_47 fl_9013 (x_kk rfl) (x_kk rfl) rfl (wf_9_1 hR) ?_
      refine f_bipush (M := mX9_readsPlot) 52 dX9_readsPlot_50 kb_8 rfl ?_
      refine e_ild (M := mX9_readsPlot) (w := 606) (j := 8) dX9_readsPlot_52 (x_kk rfl) rfl kn_8 (by omega) (by omega) ?_
      refine e_icmp_geF (M := mX9_readsPlot) 84 dX9_readsPlot_53 rfl (by rw [h8, n_le (by omega) (by omega)]; omega) ?_
      refine f_aload_n (M := mX9_readsPlot) 57 dX9_readsPlot_56 rfl rfl ?_
      refine e_getR (M := mX9_readsPlot) dX9_readsPlot_57 fl_9013 (x_kk rfl) (x_kk rfl) rfl (wf_9_1 hR) ?_
      refine f_bipush (M := mX9_readsPlot) 62 dX9_readsPlot_60 kb_44 rfl ?_
      refine f_bipush (M := mX9_readsPlot) 64 dX9_readsPlot_62 kb_6 rfl ?_
      refine f_iload_n (M := mX9_readsPlot) 65 dX9_readsPlot_64 rfl rfl ?_
      refine f_imul (M := mX9_readsPlot) 66 dX9_readsPlot_65 rfl ?_
      refine f_iadd (M := mX9_readsPlot) 67 dX9_readsPlot_66 rfl ?_
      refine f_iload_n (M := mX9_readsPlot) 68 dX9_readsPlot_67 rfl rfl ?_
      refine f_iadd (M := mX9_readsPlot) 69 dX9_readsPlot_68 rfl ?_
      refine f_aload_n (M := mX9_readsPlot) 70 dX9_readsPlot_69 rfl rfl ?_
      refine f_iconst (M := mX9_readsPlot) 71 dX9_readsPlot_70 ki_0 rfl ?_
      refine f_sipush (M := mX9_readsPlot) 74 dX9_readsPlot_71 ks_500 rfl ?_
      refine e_cV (M := mX9_readsPlot) [_, _, _] 0 0 dX9_readsPlot_74 pa_9114 pb_9114 cc_9114 rfl rfl rfl rfl rfl (x_kk rfl) (x_kk rfl) rfl (k1) rfl ?_
      refine e_ist (M := mX9_readsPlot) (w := 606) (j := 44 + 6 * m + i) dX9_readsPlot_77 (x_kk rfl) rfl (ix_add (ix_add kn_44 (ix_mul kn_6 rfl)) rfl) (by omega) (by omega) ?_
      rw [hJ]
      refine f_iinc (M := mX9_readsPlot) (ls' := [_, _, _]) 81 dX9_readsPlot_78 ki_1 rfl rfl rfl rfl ?_
      refine f_goto (M := mX9_readsPlot) 45 dX9_readsPlot_81 rfl ?_
      rw [n_inc (s := i)]; exact ev w hw
    · rw [bd_as] at S2
      rw [bd_c (fun s a => ns_c)]
      exact S2
theorem m_plot (hR : x_wf R) {a : Nat → Int32} {m z k : Nat} (S : y_MS I L n g (.inr (s, a))) (hw : y_wd g n 1012 s) (hm : m < 30) (h9 : a 9 = Int32.ofNat m) (hz : z ≤ 200) (h1 : a 1 = Int32.ofNat z) (hmz : ¬ m = z) (hk : k ≤ 6) (h8 : a 8 = Int32.ofNat k) : ∃ I' L', x_Cv X mX9_readsPlot [.ref 225] (I, L, R) 233 (.inl none, (I', L', R), 233) ∧ y_m6 I L I' L' ∧ y_MS I' L' n g (y_bd (y_bd (y_ns g n (fun _ => 0) (fun _ => 500) (fun i => 44 + 6 * m + i) k 0 (y_sk g n (s + 4)) a) (y_sm g n)) (fun s' a' => .inr (s', va_up a' 9 (Int32.ofNat (m + 1))))) := by
  have f9 : I 227 9 = Int32.ofNat m := (S.2 9 (by decide)).trans h9
  have e1 : I 227 1 = Int32.ofNat z := (S.2 1 (by decide)).trans h1
  have f8 : I 227 8 = Int32.ofNat k := (S.2 8 (by decide)).trans h8
  obtain ⟨I1, L1, k1, f1, S1⟩ := m_must (X := X) hR S 2
  rw [show y_bd (.inr (s, a)) (y_mu g n 2) = .inr (y_sk g n (s + 4), a) from mu_w (kd_2.mpr hw) (by decide) (by decide) rfl hw] at S1
  have z13 := S1.1.2.2.2.2.2.2.2.2.2
  obtain ⟨I2, L2, ev, f2, f92, S2⟩ := l_pl9 (X := X) hR hm hk k 0 I1 L1 _ (by omega) S1 (by rw [(f1.1 227 (by decide)).1]; exact f8)
  have g2 := m6_t (m6_5 f1) f2
  obtain ⟨I4, L4, k4, f4, S4⟩ := m_must (X := X) hR S2 5
  have f94 : I4 227 9 = Int32.ofNat m := by rw [(f4.1 227 (by decide)).1, f92, (f1.1 227 (by decide)).1]; exact f9
  have S5 := MS_8 (t := 9) (v := Int32.ofNat (m + 1)) S4
  refine ⟨_, L4, ?_, m6_s (f := va_up (I4 227) 9 (Int32.ofNat (m + 1))) (m6_t g2 (m6_5 f4)), ?_⟩
  · show x_Ev X mX9_readsPlot 0 [some (.ref 225), none, none] [] ((I, L, R), 233, 0, 0) _
    refine f_aload_n (M := mX9_readsPlot) 1 dX9_readsPlot_0 rfl rfl ?_
    refine e_getR (M := mX9_readsPlot) dX9_readsPlot_1 fl_9013 (x_kk rfl) (x_kk rfl) rfl (wf_9_1 hR) ?_
    refine f_bipush (M := mX9_readsPlot) 6 dX9_readsPlot_4 kb_9 rfl ?_
    refine e_ild (M := mX9_readsPlot) (w := 606) (j := 9) dX9_readsPlot_6 (x_kk rfl) rfl kn_9 (by omega) (by omega) ?_
    refine f_istore_n (M := mX9_readsPlot) (ls' := [_, _, _]) 8 dX9_readsPlot_7 rfl rfl rfl ?_
    refine f_iload_n (M := mX9_readsPlot) 9 dX9_readsPlot_8 rfl rfl ?_
    refine f_bipush (M := mX9_readsPlot) 11 dX9_readsPlot_9 kb_30 rfl ?_
    refine e_icmp_eqF (M := mX9_readsPlot) 24 dX9_readsPlot_11 rfl (by rw [f9, kn_30, n_eq (by omega) (by omega)]; omega) ?_
    refine f_iload_n (M := mX9_readsPlot) 15 dX9_readsPlot_14 rfl rfl ?_
    refine f_aload_n (M := mX9_readsPlot) 16 dX9_readsPlot_15 rfl rfl ?_
    refine e_getR (M := mX9_readsPlot) dX9_readsPlot_16 fl_9013 (x_kk rfl) (x_kk rfl) rfl (wf_9_1 hR) ?_
    refine f_iconst (M := mX9_readsPlot) 20 dX9_readsPlot_19 ki_1 rfl ?_
    refine e_ild (M := mX9_readsPlot) (w := 606) (j := 1) dX9_readsPlot_20 (x_kk rfl) rfl kn_1 (by omega) (by omega) ?_
    refine e_icmp_neT (M := mX9_readsPlot) 30 dX9_readsPlot_21 rfl (by rw [f9, e1, n_eq (by omega) (by omega)]; exact hmz) ?_
    refine f_aload_n (M := mX9_readsPlot) 31 dX9_readsPlot_30 rfl rfl ?_
    refine f_iconst (M := mX9_readsPlot) 32 dX9_readsPlot_31 ki_2 rfl ?_
    refine e_cV (M := mX9_readsPlot) [] 0 0 dX9_readsPlot_32 pa_9110 pb_9110 cc_9110 rfl rfl rfl rfl rfl (x_kk rfl) (x_kk rfl) rfl (k1) rfl ?_
    refine f_aload_n (M := mX9_readsPlot) 36 dX9_readsPlot_35 rfl rfl ?_
    refine e_getI (M := mX9_readsPlot) dX9_readsPlot_36 fl_9093 (x_kk rfl) (x_kk rfl) rfl ?_
    refine e_if_eqT (M := mX9_readsPlot) 43 dX9_readsPlot_39 rfl z13 ?_
    refine f_iconst (M := mX9_readsPlot) 44 dX9_readsPlot_43 ki_0 rfl ?_
    refine f_istore_n (M := mX9_readsPlot) (ls' := [_, _, _]) 45 dX9_readsPlot_44 rfl rfl rfl ?_
    rw [f9]; refine ev _ ?_
    refine f_aload_n (M := mX9_readsPlot) 85 dX9_readsPlot_84 rfl rfl ?_
    refine f_iconst (M := mX9_readsPlot) 86 dX9_readsPlot_85 ki_5 rfl ?_
    refine e_cV (M := mX9_readsPlot) [] 0 0 dX9_readsPlot_86 pa_9110 pb_9110 cc_9110 rfl rfl rfl rfl rfl (x_kk rfl) (x_kk rfl) rfl (k4) rfl ?_
    refine f_aload_n (M := mX9_readsPlot) 90 dX9_readsPlot_89 rfl rfl ?_
    refine e_getR (M := mX9_readsPlot) dX9_readsPlot_90 fl_9013 (x_kk rfl) (x_kk rfl) rfl (wf_9_1 hR) ?_
    refine f_bipush (M := mX9_readsPlot) 95 dX9_readsPlot_93 kb_9 rfl ?_
    refine f_dup2 (M := mX9_readsPlot) 96 dX9_readsPlot_95 rfl rfl rfl ?_
    refine e_ild (M := mX9_readsPlot) (w := 606) (j := 9) dX9_readsPlot_96 (x_kk rfl) rfl kn_9 (by omega) (by omega) ?_
    refine f_iconst (M := mX9_readsPlot) 98 dX9_readsPlot_97 ki_1 rfl ?_
    refine f_iadd (M := mX9_readsPlot) 99 dX9_readsPlot_98 rfl ?_
    refine e_ist (M := mX9_readsPlot) (w := 606) (j := 9) dX9_readsPlot_99 (x_kk rfl) rfl kn_9 (by omega) (by omega) ?_
    refine e_rv (M := mX9_readsPlot) dX9_readsPlot_100 rfl (x_kk rfl) (x_kk rfl) ?_
    exact (by rw [f94, n_inc])
  · rw [bd_c (h := y_sm g n) (fun s a => mu_5)] at S5
    exact S5
theorem l_pls9 (hR : x_wf R) {z k cap : Nat} (hz : z ≤ 200) (hk : k ≤ 6) (hcap : cap = min 30 z) : ∀ d m I L s a, m + d = cap → y_MS I L n g (.inr (s, a)) → a 1 = Int32.ofNat z → a 8 = Int32.ofNat k → a 9 = Int32.ofNat m → ∃ I' L', (∀ r, x_Ev X mX9_readsAll 134 [some (.ref 225)] [] ((I', L', R), 233, 0, 0) r → x_Ev X mX9_readsAll 119 [some (.ref 225)] [] ((I, L, R), 233, 0, 0) r) ∧ y_m6 I L I' L' ∧ y_MS I' L' n g (y_pls g n k d m s a) := by
  intro d
  induction d with
  | zero =>
    intro m I L s a hd S h1 h8 h9
    obtain rfl : m = cap := by omega
    unfold y_pls
    have m12 := S.1.2.2.2.2.2.2.2.1
    have m13 := S.1.2.2.2.2.2.2.2.2.2
    by_cases c : y_wd g n 1012 s
    · rw [if_pos c]
      have hq : m = 30 ∨ a 1 = Int32.ofNat m := by
        by_cases q : m = 30
        · exact Or.inl q
        · exact Or.inr (by rw [h1, show z = m by omega])
      obtain ⟨I1, L1, k1, f1, S1⟩ := m_plotF (X := X) hR S (show m ≤ 30 by omega) h9 hq
      refine ⟨I1, L1, fun r hr => ?_, f1, S1⟩
      refine f_aload_n (M := mX9_readsAll) 120 dX9_readsAll_119 rfl rfl ?_
      refine f_iconst (M := mX9_readsAll) 121 dX9_readsAll_120 ki_2 rfl ?_
      refine e_cV (M := mX9_readsAll) [_] 0 0 dX9_readsAll_121 pa_9099 pb_9099 cc_9099 rfl rfl rfl rfl rfl (x_kk rfl) (x_kk rfl) rfl (c_X9_is) rfl ?_
      refine e_if_eqF (M := mX9_readsAll) 134 dX9_readsAll_124 rfl (x_bn ⟨m13, m12.trans (kd_2.mpr c)⟩) ?_
      refine f_aload_n (M := mX9_readsAll) 128 dX9_readsAll_127 rfl rfl ?_
      refine e_cV (M := mX9_readsAll) [] 0 0 dX9_readsAll_128 pa_9122 pb_9122 cc_9122 rfl rfl rfl rfl rfl (x_kk rfl) (x_kk rfl) rfl (k1) rfl ?_
      refine f_goto (M := mX9_readsAll) 119 dX9_readsAll_131 rfl ?_
      refine f_aload_n (M := mX9_readsAll) 120 dX9_readsAll_119 rfl rfl ?_
      refine f_iconst (M := mX9_readsAll) 121 dX9_readsAll_120 ki_2 rfl ?_
      refine e_cV (M := mX9_readsAll) [_] 0 0 dX9_readsAll_121 pa_9099 pb_9099 cc_9099 rfl rfl rfl rfl rfl (x_kk rfl) (x_kk rfl) rfl (c_X9_is) rfl ?_
      refine e_if_eqT (M := mX9_readsAll) 134 dX9_readsAll_124 rfl (x_b0 (fun z => S1.1 z.1)) ?_
      exact hr
    · rw [if_neg c]
      refine ⟨I, L, fun r hr => ?_, m6_r, S⟩
      refine f_aload_n (M := mX9_readsAll) 120 dX9_readsAll_119 rfl rfl ?_
      refine f_iconst (M := mX9_readsAll) 121 dX9_readsAll_120 ki_2 rfl ?_
      refine e_cV (M := mX9_readsAll) [_] 0 0 dX9_readsAll_121 pa_9099 pb_9099 cc_9099 rfl rfl rfl rfl rfl (x_kk rfl) (x_kk rfl) rfl (c_X9_is) rfl ?_
      refine e_if_eqT (M := mX9_readsAll) 134 dX9_readsAll_124 rfl (x_b0 (fun z => c (kd_2.mp (m12.symm.trans z.2)))) ?_
      exact hr
  | succ d ih =>
    intro m I L s a hd S h1 h8 h9
    unfold y_pls
    have m12 := S.1.2.2.2.2.2.2.2.1
    have m13 := S.1.2.2.2.2.2.2.2.2.2
    by_cases c : y_wd g n 1012 s
    · rw [if_pos c]
      obtain ⟨I1, L1, k1, f1, S1⟩ := m_plot (X := X) hR S c (show m < 30 by omega) h9 hz h1 (by omega) hk h8
      cases e : y_bd (y_ns g n (fun _ => 0) (fun _ => 500) (fun i => 44 + 6 * m + i) k 0 (y_sk g n (s + 4)) a) (y_sm g n) with
      | inl q =>
        rw [e] at S1
        refine ⟨I1, L1, fun r hr => ?_, f1, S1⟩
        refine f_aload_n (M := mX9_readsAll) 120 dX9_readsAll_119 rfl rfl ?_
        refine f_iconst (M := mX9_readsAll) 121 dX9_readsAll_120 ki_2 rfl ?_
        refine e_cV (M := mX9_readsAll) [_] 0 0 dX9_readsAll_121 pa_9099 pb_9099 cc_9099 rfl rfl rfl rfl rfl (x_kk rfl) (x_kk rfl) rfl (c_X9_is) rfl ?_
        refine e_if_eqF (M := mX9_readsAll) 134 dX9_readsAll_124 rfl (x_bn ⟨m13, m12.trans (kd_2.mpr c)⟩) ?_
        refine f_aload_n (M := mX9_readsAll) 128 dX9_readsAll_127 rfl rfl ?_
        refine e_cV (M := mX9_readsAll) [] 0 0 dX9_readsAll_128 pa_9122 pb_9122 cc_9122 rfl rfl rfl rfl rfl (x_kk rfl) (x_kk rfl) rfl (k1) rfl ?_
        refine f_goto (M := mX9_readsAll) 119 dX9_readsAll_131 rfl ?_
        refine f_aload_n (M := mX9_readsAll) 120 dX9_readsAll_119 rfl rfl ?_
        refine f_iconst (M := mX9_readsAll) 121 dX9_readsAll_120 ki_2 rfl ?_
        refine e_cV (M := mX9_readsAll) [_] 0 0 dX9_readsAll_121 pa_9099 pb_9099 cc_9099 rfl rfl rfl rfl rfl (x_kk rfl) (x_kk rfl) rfl (c_X9_is) rfl ?_
        refine e_if_eqT (M := mX9_readsAll) 134 dX9_readsAll_124 rfl (x_b0 (fun z => S1.1 z.1)) ?_
        exact hr
      | inr w =>
        rw [e] at S1
        obtain ⟨u, e1, e2⟩ := bd_r e
        have kq := ns_inv (P := fun b i => i ≤ k → b 1 = a 1 ∧ b 8 = a 8) (fun i b v p _ _ hi => by
          rw [x_up_ne _ _ (by omega), x_up_ne _ _ (by omega)]
          exact p (by omega)) k 0 _ _ u e1 (fun _ => ⟨rfl, rfl⟩) (by omega)
        have ew := sm_r e2
        obtain ⟨I', L', ev, f2, S2⟩ := ih (m + 1) I1 L1 w.1 (va_up w.2 9 (Int32.ofNat (m + 1))) (by omega) S1 (by rw [x_up_ne _ _ (by decide), ew, kq.1]; exact h1) (by rw [x_up_ne _ _ (by decide), ew, kq.2]; exact h8) (x_up_self _ _ _)
        refine ⟨I', L', fun r hr => ?_, m6_t f1 f2, S2⟩
        refine f_aload_n (M := mX9_readsAll) 120 dX9_readsAll_119 rfl rfl ?_
        refine f_iconst (M := mX9_readsAll) 121 dX9_readsAll_120 ki_2 rfl ?_
        refine e_cV (M := mX9_readsAll) [_] 0 0 dX9_readsAll_121 pa_9099 pb_9099 cc_9099 rfl rfl rfl rfl rfl (x_kk rfl) (x_kk rfl) rfl (c_X9_is) rfl ?_
        refine e_if_eqF (M := mX9_readsAll) 134 dX9_readsAll_124 rfl (x_bn ⟨m13, m12.trans (kd_2.mpr c)⟩) ?_
        refine f_aload_n (M := mX9_readsAll) 128 dX9_readsAll_127 rfl rfl ?_
        refine e_cV (M := mX9_readsAll) [] 0 0 dX9_readsAll_128 pa_9122 pb_9122 cc_9122 rfl rfl rfl rfl rfl (x_kk rfl) (x_kk rfl) rfl (k1) rfl ?_
        refine f_goto (M := mX9_readsAll) 119 dX9_readsAll_131 rfl ?_
        exact ev r hr
    · rw [if_neg c]
      refine ⟨I, L, fun r hr => ?_, m6_r, S⟩
      refine f_aload_n (M := mX9_readsAll) 120 dX9_readsAll_119 rfl rfl ?_
      refine f_iconst (M := mX9_readsAll) 121 dX9_readsAll_120 ki_2 rfl ?_
      refine e_cV (M := mX9_readsAll) [_] 0 0 dX9_readsAll_121 pa_9099 pb_9099 cc_9099 rfl rfl rfl rfl rfl (x_kk rfl) (x_kk rfl) rfl (c_X9_is) rfl ?_
      refine e_if_eqT (M := mX9_readsAll) 134 dX9_readsAll_124 rfl (x_b0 (fun z => c (kd_2.mp (m12.symm.trans z.2)))) ?_
      exact hr
theorem nums_ch {s : Nat} : y_bd (y_bd (y_bd (y_bd (y_bd (y_bd (y_bd (y_bd (y_bd (.inr (s, y_0)) (y_mu g n 0)) (y_tk g n 2 200 1)) (y_tk g n 1 35 2)) (y_tk g n 0 50 3)) (y_tk g n 0 100 4)) (y_tk g n 0 20 5)) (y_tk g n 0 50 6)) (y_tk g n 0 1000000 7)) (y_mu g n 5) = y_nums g n s y_0 := by
  unfold y_nums
  by_cases c : y_wd g n 1010 s
  · rw [if_pos c, show y_bd (.inr (s, y_0)) (y_mu g n 0) = .inr (y_sk g n (s + 4), y_0) from mu_w (kd_0.mpr c) (by decide) (by decide) rfl c, bd_c (h := y_sm g n) (fun s a => mu_5), ns_sn, ns_sn, ns_sn, ns_sn, ns_sn, ns_sn, ns_sn]
    rfl
  · rw [if_neg c, show y_bd (.inr (s, y_0)) (y_mu g n 0) = .inl (-2, s) from if_neg (fun z => c (kd_0.mp z))]
    rfl
theorem m_nums (hR : x_wf R) (S : y_MS I L n g (.inr (s, y_0))) : ∃ I' L', (∀ r, x_Ev X mX9_readsAll 104 [some (.ref 225)] [] ((I', L', R), 233, 0, 0) r → x_Ev X mX9_readsAll 0 [some (.ref 225)] [] ((I, L, R), 233, 0, 0) r) ∧ y_m6 I L I' L' ∧ y_MS I' L' n g (y_nums g n s y_0) := by
  obtain ⟨I0, L0, k0, f0, S0⟩ := m_must (X := X) hR S 0
  have g0 := m6_5 f0
  have J0 : True := trivial
  obtain ⟨v1, I1, L1, k1, f1, S1⟩ := m_takes (X := X) hR S0 (lo := 2) (hi := 200) (t := 1) (by decide) (by decide)
  have g1 := m6_s (f := va_up (I1 227) 1 v1) (m6_t g0 (m6_5 f1))
  generalize hJ1 : va_up I1 227 (va_up (I1 227) 1 v1) = J1 at S1 g1
  obtain ⟨v2, I2, L2, k2, f2, S2⟩ := m_takes (X := X) hR S1 (lo := 1) (hi := 35) (t := 2) (by decide) (by decide)
  have g2 := m6_s (f := va_up (I2 227) 2 v2) (m6_t g1 (m6_5 f2))
  generalize hJ2 : va_up I2 227 (va_up (I2 227) 2 v2) = J2 at S2 g2
  obtain ⟨v3, I3, L3, k3, f3, S3⟩ := m_takes (X := X) hR S2 (lo := 0) (hi := 50) (t := 3) (by decide) (by decide)
  have g3 := m6_s (f := va_up (I3 227) 3 v3) (m6_t g2 (m6_5 f3))
  generalize hJ3 : va_up I3 227 (va_up (I3 227) 3 v3) = J3 at S3 g3
  obtain ⟨v4, I4, L4, k4, f4, S4⟩ := m_takes (X := X) hR S3 (lo := 0) (hi := 100) (t := 4) (by decide) (by decide)
  have g4 := m6_s (f := va_up (I4 227) 4 v4) (m6_t g3 (m6_5 f4))
  generalize hJ4 : va_up I4 227 (va_up (I4 227) 4 v4) = J4 at S4 g4
  obtain ⟨v5, I5, L5, k5, f5, S5⟩ := m_takes (X := X) hR S4 (lo := 0) (hi := 20) (t := 5) (by decide) (by decide)
  have g5 := m6_s (f := va_up (I5 227) 5 v5) (m6_t g4 (m6_5 f5))
  generalize hJ5 : va_up I5 227 (va_up (I5 227) 5 v5) = J5 at S5 g5
  obtain ⟨v6, I6, L6, k6, f6, S6⟩ := m_takes (X := X) hR S5 (lo := 0) (hi := 50) (t := 6) (by decide) (by decide)
  have g6 := m6_s (f := va_up (I6 227) 6 v6) (m6_t g5 (m6_5 f6))
  generalize hJ6 : va_up I6 227 (va_up (I6 227) 6 v6) = J6 at S6 g6
  obtain ⟨v7, I7, L7, k7, f7, S7⟩ := m_takes (X := X) hR S6 (lo := 0) (hi := 1000000) (t := 7) (by decide) (by decide)
  have g7 := m6_s (f := va_up (I7 227) 7 v7) (m6_t g6 (m6_5 f7))
  generalize hJ7 : va_up I7 227 (va_up (I7 227) 7 v7) = J7 at S7 g7
  obtain ⟨I8, L8, k8, f8, S8⟩ := m_must (X := X) hR S7 5
  rw [nums_ch] at S8
  refine ⟨I8, L8, fun r hr => ?_, m6_t g7 (m6_5 f8), S8⟩
  refine f_aload_n (M := mX9_readsAll) 1 dX9_readsAll_0 rfl rfl ?_
  refine f_iconst (M := mX9_readsAll) 2 dX9_readsAll_1 ki_0 rfl ?_
  refine e_cV (M := mX9_readsAll) [] 0 0 dX9_readsAll_2 pa_9110 pb_9110 cc_9110 rfl rfl rfl rfl rfl (x_kk rfl) (x_kk rfl) rfl (k0) rfl ?_
  refine f_aload_n (M := mX9_readsAll) 6 dX9_readsAll_5 rfl rfl ?_
  refine e_getR (M := mX9_readsAll) dX9_readsAll_6 fl_9013 (x_kk rfl) (x_kk rfl) rfl (wf_9_1 hR) ?_
  refine f_iconst (M := mX9_readsAll) 10 dX9_readsAll_9 ki_1 rfl ?_
  refine f_aload_n (M := mX9_readsAll) 11 dX9_readsAll_10 rfl rfl ?_
  refine f_iconst (M := mX9_readsAll) 12 dX9_readsAll_11 ki_2 rfl ?_
  refine f_sipush (M := mX9_readsAll) 15 dX9_readsAll_12 ks_200 rfl ?_
  refine e_cV (M := mX9_readsAll) [_, _, _] 0 0 dX9_readsAll_15 pa_9114 pb_9114 cc_9114 rfl rfl rfl rfl rfl (x_kk rfl) (x_kk rfl) rfl (k1) rfl ?_
  refine e_ist (M := mX9_readsAll) (w := 606) (j := 1) dX9_readsAll_18 (x_kk rfl) rfl kn_1 (by omega) (by omega) ?_
  rw [hJ1]
  refine f_aload_n (M := mX9_readsAll) 20 dX9_readsAll_19 rfl rfl ?_
  refine e_getR (M := mX9_readsAll) dX9_readsAll_20 fl_9013 (x_kk rfl) (x_kk rfl) rfl (wf_9_1 hR) ?_
  refine f_iconst (M := mX9_readsAll) 24 dX9_readsAll_23 ki_2 rfl ?_
  refine f_aload_n (M := mX9_readsAll) 25 dX9_readsAll_24 rfl rfl ?_
  refine f_iconst (M := mX9_readsAll) 26 dX9_readsAll_25 ki_1 rfl ?_
  refine f_bipush (M := mX9_readsAll) 28 dX9_readsAll_26 kb_35 rfl ?_
  refine e_cV (M := mX9_readsAll) [_, _, _] 0 0 dX9_readsAll_28 pa_9114 pb_9114 cc_9114 rfl rfl rfl rfl rfl (x_kk rfl) (x_kk rfl) rfl (k2) rfl ?_
  refine e_ist (M := mX9_readsAll) (w := 606) (j := 2) dX9_readsAll_31 (x_kk rfl) rfl kn_2 (by omega) (by omega) ?_
  rw [hJ2]
  refine f_aload_n (M := mX9_readsAll) 33 dX9_readsAll_32 rfl rfl ?_
  refine e_getR (M := mX9_readsAll) dX9_readsAll_33 fl_9013 (x_kk rfl) (x_kk rfl) rfl (wf_9_1 hR) ?_
  refine f_iconst (M := mX9_readsAll) 37 dX9_readsAll_36 ki_3 rfl ?_
  refine f_aload_n (M := mX9_readsAll) 38 dX9_readsAll_37 rfl rfl ?_
  refine f_iconst (M := mX9_readsAll) 39 dX9_readsAll_38 ki_0 rfl ?_
  refine f_bipush (M := mX9_readsAll) 41 dX9_readsAll_39 kb_50 rfl ?_
  refine e_cV (M := mX9_readsAll) [_, _, _] 0 0 dX9_readsAll_41 pa_9114 pb_9114 cc_9114 rfl rfl rfl rfl rfl (x_kk rfl) (x_kk rfl) rfl (k3) rfl ?_
  refine e_ist (M := mX9_readsAll) (w := 606) (j := 3) dX9_readsAll_44 (x_kk rfl) rfl kn_3 (by omega) (by omega) ?_
  rw [hJ3]
  refine f_aload_n (M := mX9_readsAll) 46 dX9_readsAll_45 rfl rfl ?_
  refine e_getR (M := mX9_readsAll) dX9_readsAll_46 fl_9013 (x_kk rfl) (x_kk rfl) rfl (wf_9_1 hR) ?_
  refine f_iconst (M := mX9_readsAll) 50 dX9_readsAll_49 ki_4 rfl ?_
  refine f_aload_n (M := mX9_readsAll) 51 dX9_readsAll_50 rfl rfl ?_
  refine f_iconst (M := mX9_readsAll) 52 dX9_readsAll_51 ki_0 rfl ?_
  refine f_bipush (M := mX9_readsAll) 54 dX9_readsAll_52 kb_100 rfl ?_
  refine e_cV (M := mX9_readsAll) [_, _, _] 0 0 dX9_readsAll_54 pa_9114 pb_9114 cc_9114 rfl rfl rfl rfl rfl (x_kk rfl) (x_kk rfl) rfl (k4) rfl ?_
  refine e_ist (M := mX9_readsAll) (w := 606) (j := 4) dX9_readsAll_57 (x_kk rfl) rfl kn_4 (by omega) (by omega) ?_
  rw [hJ4]
  refine f_aload_n (M := mX9_readsAll) 59 dX9_readsAll_58 rfl rfl ?_
  refine e_getR (M := mX9_readsAll) dX9_readsAll_59 fl_9013 (x_kk rfl) (x_kk rfl) rfl (wf_9_1 hR) ?_
  refine f_iconst (M := mX9_readsAll) 63 dX9_readsAll_62 ki_5 rfl ?_
  refine f_aload_n (M := mX9_readsAll) 64 dX9_readsAll_63 rfl rfl ?_
  refine f_iconst (M := mX9_readsAll) 65 dX9_readsAll_64 ki_0 rfl ?_
  refine f_bipush (M := mX9_readsAll) 67 dX9_readsAll_65 kb_20 rfl ?_
  refine e_cV (M := mX9_readsAll) [_, _, _] 0 0 dX9_readsAll_67 pa_9114 pb_9114 cc_9114 rfl rfl rfl rfl rfl (x_kk rfl) (x_kk rfl) rfl (k5) rfl ?_
  refine e_ist (M := mX9_readsAll) (w := 606) (j := 5) dX9_readsAll_70 (x_kk rfl) rfl kn_5 (by omega) (by omega) ?_
  rw [hJ5]
  refine f_aload_n (M := mX9_readsAll) 72 dX9_readsAll_71 rfl rfl ?_
  refine e_getR (M := mX9_readsAll) dX9_readsAll_72 fl_9013 (x_kk rfl) (x_kk rfl) rfl (wf_9_1 hR) ?_
  refine f_bipush (M := mX9_readsAll) 77 dX9_readsAll_75 kb_6 rfl ?_
  refine f_aload_n (M := mX9_readsAll) 78 dX9_readsAll_77 rfl rfl ?_
  refine f_iconst (M := mX9_readsAll) 79 dX9_readsAll_78 ki_0 rfl ?_
  refine f_bipush (M := mX9_readsAll) 81 dX9_readsAll_79 kb_50 rfl ?_
  refine e_cV (M := mX9_readsAll) [_, _, _] 0 0 dX9_readsAll_81 pa_9114 pb_9114 cc_9114 rfl rfl rfl rfl rfl (x_kk rfl) (x_kk rfl) rfl (k6) rfl ?_
  refine e_ist (M := mX9_readsAll) (w := 606) (j := 6) dX9_readsAll_84 (x_kk rfl) rfl kn_6 (by omega) (by omega) ?_
  rw [hJ6]
  refine f_aload_n (M := mX9_readsAll) 86 dX9_readsAll_85 rfl rfl ?_
  refine e_getR (M := mX9_readsAll) dX9_readsAll_86 fl_9013 (x_kk rfl) (x_kk rfl) rfl (wf_9_1 hR) ?_
  refine f_bipush (M := mX9_readsAll) 91 dX9_readsAll_89 kb_7 rfl ?_
  refine f_aload_n (M := mX9_readsAll) 92 dX9_readsAll_91 rfl rfl ?_
  refine f_iconst (M := mX9_readsAll) 93 dX9_readsAll_92 ki_0 rfl ?_
  refine f_ldcI (M := mX9_readsAll) 95 dX9_readsAll_93 (x_kk rfl) cst_9118 rfl ?_
  refine e_cV (M := mX9_readsAll) [_, _, _] 0 0 dX9_readsAll_95 pa_9114 pb_9114 cc_9114 rfl rfl rfl rfl rfl (x_kk rfl) (x_kk rfl) rfl (k7) rfl ?_
  refine e_ist (M := mX9_readsAll) (w := 606) (j := 7) dX9_readsAll_98 (x_kk rfl) rfl kn_7 (by omega) (by omega) ?_
  rw [hJ7]
  refine f_aload_n (M := mX9_readsAll) 100 dX9_readsAll_99 rfl rfl ?_
  refine f_iconst (M := mX9_readsAll) 101 dX9_readsAll_100 ki_5 rfl ?_
  refine e_cV (M := mX9_readsAll) [] 0 0 dX9_readsAll_101 pa_9110 pb_9110 cc_9110 rfl rfl rfl rfl rfl (x_kk rfl) (x_kk rfl) rfl (k8) rfl ?_
  exact hr
theorem m_all (hR : x_wf R) (S : y_MS I L n g (.inr (y_sk g n 0, y_0))) : ∃ I' L', x_Cv X mX9_readsAll [.ref 225] (I, L, R) 233 (.inl none, (I', L', R), 233) ∧ y_m6 I L I' L' ∧ y_MS I' L' n g (y_all g n) := by
  obtain ⟨I1, L1, ev1, g1, S1⟩ := m_nums (X := X) hR S
  cases e1 : y_nums g n (y_sk g n 0) y_0 with
  | inl e =>
    rw [e1] at S1
    rw [all_1 e1]
    refine ⟨I1, L1, ev1 _ ?_, g1, S1⟩
    refine f_aload_n (M := mX9_readsAll) 105 dX9_readsAll_104 rfl rfl ?_
    refine f_iconst (M := mX9_readsAll) 106 dX9_readsAll_105 ki_1 rfl ?_
    refine e_cV (M := mX9_readsAll) [_] 0 0 dX9_readsAll_106 pa_9099 pb_9099 cc_9099 rfl rfl rfl rfl rfl (x_kk rfl) (x_kk rfl) rfl (c_X9_is) rfl ?_
    refine e_if_eqT (M := mX9_readsAll) 119 dX9_readsAll_109 rfl (x_b0 (fun z => S1.1 z.1)) ?_
    refine f_aload_n (M := mX9_readsAll) 120 dX9_readsAll_119 rfl rfl ?_
    refine f_iconst (M := mX9_readsAll) 121 dX9_readsAll_120 ki_2 rfl ?_
    refine e_cV (M := mX9_readsAll) [_] 0 0 dX9_readsAll_121 pa_9099 pb_9099 cc_9099 rfl rfl rfl rfl rfl (x_kk rfl) (x_kk rfl) rfl (c_X9_is) rfl ?_
    refine e_if_eqT (M := mX9_readsAll) 134 dX9_readsAll_124 rfl (x_b0 (fun z => S1.1 z.1)) ?_
    refine f_aload_n (M := mX9_readsAll) 135 dX9_readsAll_134 rfl rfl ?_
    refine e_getI (M := mX9_readsAll) dX9_readsAll_135 fl_9093 (x_kk rfl) (x_kk rfl) rfl ?_
    refine e_if_neT (M := mX9_readsAll) 156 dX9_readsAll_138 rfl S1.1 ?_
    refine e_rv (M := mX9_readsAll) dX9_readsAll_156 rfl (x_kk rfl) (x_kk rfl) ?_
    rfl
  | inr w =>
    rw [e1] at S1
    obtain ⟨Z2, N2, S2p, C2, zz⟩ := nums_r e1
    obtain ⟨I2, L2, ev2, g2, S2⟩ := l_sps9 (X := X) hR 6 0 I1 L1 w.1 w.2 rfl S1 S2p.2.1
    cases e2 : y_sps g n 6 0 w.1 w.2 with
    | inl e =>
      rw [e2] at S2
      rw [all_2 e1 e2]
      refine ⟨I2, L2, ev1 _ (ev2 _ ?_), m6_t g1 g2, S2⟩
      refine f_aload_n (M := mX9_readsAll) 120 dX9_readsAll_119 rfl rfl ?_
      refine f_iconst (M := mX9_readsAll) 121 dX9_readsAll_120 ki_2 rfl ?_
      refine e_cV (M := mX9_readsAll) [_] 0 0 dX9_readsAll_121 pa_9099 pb_9099 cc_9099 rfl rfl rfl rfl rfl (x_kk rfl) (x_kk rfl) rfl (c_X9_is) rfl ?_
      refine e_if_eqT (M := mX9_readsAll) 134 dX9_readsAll_124 rfl (x_b0 (fun z => S2.1 z.1)) ?_
      refine f_aload_n (M := mX9_readsAll) 135 dX9_readsAll_134 rfl rfl ?_
      refine e_getI (M := mX9_readsAll) dX9_readsAll_135 fl_9093 (x_kk rfl) (x_kk rfl) rfl ?_
      refine e_if_neT (M := mX9_readsAll) 156 dX9_readsAll_138 rfl S2.1 ?_
      refine e_rv (M := mX9_readsAll) dX9_readsAll_156 rfl (x_kk rfl) (x_kk rfl) ?_
      rfl
    | inr w2 =>
      rw [e2] at S2
      obtain ⟨ks, Z3, N3, S3p, C3⟩ := sps_r 6 0 _ _ _ rfl e2 ⟨Z2, N2, S2p, C2⟩
      obtain ⟨z, hz2, hz, hz1⟩ := PN_1 N3
      obtain ⟨I3, L3, ev3, g3, S3⟩ := l_pls9 (X := X) hR hz S3p.1 rfl (min 30 z) 0 I2 L2 w2.1 w2.2 (by omega) S2 hz1 S3p.2.1 C3.1
      have ep : y_plots g n w2.1 w2.2 = y_pls g n ks (min 30 z) 0 w2.1 w2.2 := by unfold y_plots; rw [hz1, S3p.2.1, n_cl (by have := S3p.1; omega), n_cl (by omega)]
      rw [← ep] at S3
      have g13 := m6_t g1 (m6_t g2 g3)
      cases e3 : y_plots g n w2.1 w2.2 with
      | inl e =>
        rw [e3] at S3
        rw [all_3 e1 e2 e3]
        refine ⟨I3, L3, ev1 _ (ev2 _ (ev3 _ ?_)), g13, S3⟩
        refine f_aload_n (M := mX9_readsAll) 135 dX9_readsAll_134 rfl rfl ?_
        refine e_getI (M := mX9_readsAll) dX9_readsAll_135 fl_9093 (x_kk rfl) (x_kk rfl) rfl ?_
        refine e_if_neT (M := mX9_readsAll) 156 dX9_readsAll_138 rfl S3.1 ?_
        refine e_rv (M := mX9_readsAll) dX9_readsAll_156 rfl (x_kk rfl) (x_kk rfl) ?_
        rfl
      | inr w3 =>
        rw [e3] at S3
        rw [all_4 e1 e2 e3]
        have m12 := S3.1.2.2.2.2.2.2.2.1
        have m13 := S3.1.2.2.2.2.2.2.2.2.2
        unfold y_fin
        by_cases c : w3.1 = n
        · rw [if_pos c]
          refine ⟨I3, L3, ev1 _ (ev2 _ (ev3 _ ?_)), g13, S3⟩
          refine f_aload_n (M := mX9_readsAll) 135 dX9_readsAll_134 rfl rfl ?_
          refine e_getI (M := mX9_readsAll) dX9_readsAll_135 fl_9093 (x_kk rfl) (x_kk rfl) rfl ?_
          refine e_if_neF (M := mX9_readsAll) 156 dX9_readsAll_138 rfl (fun z => z m13) ?_
          refine f_aload_n (M := mX9_readsAll) 142 dX9_readsAll_141 rfl rfl ?_
          refine e_getI (M := mX9_readsAll) dX9_readsAll_142 fl_9067 (x_kk rfl) (x_kk rfl) rfl ?_
          refine f_bipush (M := mX9_readsAll) 147 dX9_readsAll_145 kb_6 rfl ?_
          refine e_icmp_eqT (M := mX9_readsAll) 156 dX9_readsAll_147 rfl (m12.trans ((kd_6 S3.1.2.2.2.2.1).mpr c)) ?_
          refine e_rv (M := mX9_readsAll) dX9_readsAll_156 rfl (x_kk rfl) (x_kk rfl) ?_
          rfl
        · rw [if_neg c]
          obtain ⟨I4, k4, f4, W4⟩ := m_fails (X := X) (R := R) S3.1 (c := -2) (by decide)
          refine ⟨I4, L3, ev1 _ (ev2 _ (ev3 _ ?_)), m6_t g13 (m6_5 f4), W4⟩
          refine f_aload_n (M := mX9_readsAll) 135 dX9_readsAll_134 rfl rfl ?_
          refine e_getI (M := mX9_readsAll) dX9_readsAll_135 fl_9093 (x_kk rfl) (x_kk rfl) rfl ?_
          refine e_if_neF (M := mX9_readsAll) 156 dX9_readsAll_138 rfl (fun z => z m13) ?_
          refine f_aload_n (M := mX9_readsAll) 142 dX9_readsAll_141 rfl rfl ?_
          refine e_getI (M := mX9_readsAll) dX9_readsAll_142 fl_9067 (x_kk rfl) (x_kk rfl) rfl ?_
          refine f_bipush (M := mX9_readsAll) 147 dX9_readsAll_145 kb_6 rfl ?_
          refine e_icmp_eqF (M := mX9_readsAll) 156 dX9_readsAll_147 rfl (fun z => c ((kd_6 S3.1.2.2.2.2.1).mp (m12.symm.trans z))) ?_
          refine f_aload_n (M := mX9_readsAll) 151 dX9_readsAll_150 rfl rfl ?_
          refine f_bipush (M := mX9_readsAll) 153 dX9_readsAll_151 kb_m2 rfl ?_
          refine e_cV (M := mX9_readsAll) [] 0 0 dX9_readsAll_153 pa_9103 pb_9103 cc_9103 rfl rfl rfl rfl rfl (x_kk rfl) (x_kk rfl) rfl (k4) rfl ?_
          refine e_rv (M := mX9_readsAll) dX9_readsAll_156 rfl (x_kk rfl) (x_kk rfl) ?_
          rfl
end
end

/-! ===== the model's reader, fourth: species, plots, all (laid by wip/whole/src/rd12.py) ===== -/
section
variable {X : x_X} {I : Nat → Nat → Int32} {L : Nat → Nat → Int64} {R : Nat → Nat → Option Nat} {N : Nat}
section
variable {g : Nat → Int32} {n s : Nat}
theorem bd_as {r : y_PR} {f h : Nat → (Nat → Int32) → y_PR} : y_bd (y_bd r f) h = y_bd r (fun s a => y_bd (f s a) h) := by
  cases r with
  | inl e => rfl
  | inr w => rfl
theorem bd_id {r : y_PR} : y_bd r (fun s a => .inr (s, a)) = r := by
  cases r with
  | inl e => rfl
  | inr w => rfl
theorem bd_c {r : y_PR} {f h : Nat → (Nat → Int32) → y_PR} (e : ∀ s a, f s a = h s a) : y_bd r f = y_bd r h := by
  cases r with
  | inl e => rfl
  | inr w => exact e _ _
theorem ns_c {lo hi t : Nat → Nat} {d i : Nat} {a : Nat → Int32} : y_ns g n lo hi t (d + 1) i s a = y_bd (y_tk g n (lo i) (hi i) (t i) s a) (fun s a => y_ns g n lo hi t d (i + 1) s a) := by
  unfold y_tk
  rw [y_ns]
  cases y_n1 g n (lo i) (hi i) s with
  | inl e => rfl
  | inr w => rfl
theorem ns_sn {lo hi t : Nat → Nat} : ∀ {d i s : Nat} {a : Nat → Int32}, y_ns g n lo hi t (d + 1) i s a = y_bd (y_ns g n lo hi t d i s a) (fun s a => y_tk g n (lo (i + d)) (hi (i + d)) (t (i + d)) s a)
  | 0, i, s, a => by
    rw [ns_c]
    show y_bd (y_tk g n (lo i) (hi i) (t i) s a) (fun s a => .inr (s, a)) = y_tk g n (lo (i + 0)) (hi (i + 0)) (t (i + 0)) s a
    rw [bd_id]
    rfl
  | d + 1, i, s, a => by
    rw [ns_c, ns_c (d := d), bd_as]
    refine bd_c (fun s a => ?_)
    rw [ns_sn (d := d), show i + 1 + d = i + (d + 1) by omega]
theorem mu_5 {a : Nat → Int32} : y_mu g n 5 s a = y_sm g n s a := by
  unfold y_mu y_sm
  by_cases c : y_rg g n 59 59 s
  · rw [if_pos c, if_pos (kd_5.mpr c), bh_5 c]
  · rw [if_neg c, if_neg (fun z => c (kd_5.mp z))]
theorem mu_w {a : Nat → Int32} {c : Int32} {w l : Nat} (hk : y_kd g n s = c) (w1 : 1010 ≤ w) (w2 : w ≤ 1012) (hl : (x_txt w).length = l) (h : y_wd g n w s) : y_mu g n c s a = .inr (y_sk g n (s + l), a) := by
  unfold y_mu
  rw [if_pos hk, bh_w w1 w2 h, hl]
end
def y_m6 (I : Nat → Nat → Int32) (L : Nat → Nat → Int64) (I' : Nat → Nat → Int32) (L' : Nat → Nat → Int64) : Prop := (∀ q, ¬ q = 225 → ¬ q = 227 → I' q = I q) ∧ (∀ q, ¬ q = 225 → L' q = L q) ∧ (∀ j, j < 10 ∨ j = 15 → I' 225 j = I 225 j)
section
variable {g : Nat → Int32} {n s : Nat} {I1 I2 : Nat → Nat → Int32} {L1 L2 : Nat → Nat → Int64}
theorem m6_r : y_m6 I L I L := ⟨fun _ _ _ => rfl, fun _ _ => rfl, fun _ _ => rfl⟩
theorem m6_5 (h : y_m5 I L I1 L1) : y_m6 I L I1 L1 := ⟨fun q h1 _ => (h.1 q h1).1, fun q h1 => (h.1 q h1).2, h.2⟩
theorem m6_t (h : y_m6 I L I1 L1) (k : y_m6 I1 L1 I2 L2) : y_m6 I L I2 L2 := ⟨fun q h1 h2 => (k.1 q h1 h2).trans (h.1 q h1 h2), fun q h1 => (k.2.1 q h1).trans (h.2.1 q h1), fun j hj => (k.2.2 j hj).trans (h.2.2 j hj)⟩
theorem m6_s {f : Nat → Int32} (h : y_m6 I L I1 L1) : y_m6 I L (va_up I1 227 f) L1 := ⟨fun q h1 h2 => (x_up_ne _ _ h2).trans (h.1 q h1 h2), h.2.1, fun j hj => by rw [x_up_ne _ _ (by decide)]; exact h.2.2 j hj⟩
theorem ML_s {f : Nat → Int32} (M : y_ML I L n g s) : y_ML (va_up I 227 f) L n g s := by
  obtain ⟨m1, m2, m3, m4, m5, m10, m11, m12, m16, m13⟩ := M
  exact ⟨m1, by rw [x_up_ne _ _ (by decide)]; exact m2, by rw [x_up_ne _ _ (by decide)]; exact m3, m4, m5, by rw [x_up_ne _ _ (by decide)]; exact m10, by rw [x_up_ne _ _ (by decide)]; exact m11, by rw [x_up_ne _ _ (by decide)]; exact m12, m16, by rw [x_up_ne _ _ (by decide)]; exact m13⟩
theorem MS_8 {r : y_PR} {t : Nat} {v : Int32} (S : y_MS I L n g r) : y_MS (va_up I 227 (va_up (I 227) t v)) L n g (y_bd r (fun s a => .inr (s, va_up a t v))) := by
  cases r with
  | inl e => exact MS_st S
  | inr w =>
    refine ⟨ML_s S.1, fun j hj => ?_⟩
    rw [x_up_self]
    dsimp only
    by_cases z : j = t
    · rw [z, x_up_self, x_up_self]
    · rw [x_up_ne _ _ z, x_up_ne _ _ z]; exact S.2 j hj
theorem MS_13 {r : y_PR} {e : Int32 × Nat} (hr : r = .inl e) (S : y_MS I L n g r) : ¬ I 225 13 = 0 := by
  subst hr
  exact S.1
theorem m_species6 (hR : x_wf R) {a : Nat → Int32} (S : y_MS I L n g (.inr (s, a))) (h8 : a 8 = Int32.ofNat 6) : ∃ I' L', x_Cv X mX9_readsSpecies [.ref 225] (I, L, R) 233 (.inl none, (I', L', R), 233) ∧ y_m6 I L I' L' ∧ y_MS I' L' n g (.inl (-4, s)) := by
  have f8 : I 227 8 = Int32.ofNat 6 := (S.2 8 (by decide)).trans h8
  obtain ⟨I1, k1, f1, W1⟩ := m_fails (X := X) (R := R) S.1 (c := -4) (by decide)
  obtain ⟨I2, L2, k2, f2, S2⟩ := m_must (X := X) (I := I1) (L := L) (g := g) (n := n) hR (r := .inl (-4, s)) W1 1
  refine ⟨I2, L2, ?_, m6_5 (m5_t f1 f2), S2⟩
  show x_Ev X mX9_readsSpecies 0 [some (.ref 225), none] [] ((I, L, R), 233, 0, 0) _
  refine f_aload_n (M := mX9_readsSpecies) 1 dX9_readsSpecies_0 rfl rfl ?_
  refine e_getR (M := mX9_readsSpecies) dX9_readsSpecies_1 fl_9013 (x_kk rfl) (x_kk rfl) rfl (wf_9_1 hR) ?_
  refine f_bipush (M := mX9_readsSpecies) 6 dX9_readsSpecies_4 kb_8 rfl ?_
  refine e_ild (M := mX9_readsSpecies) (w := 606) (j := 8) dX9_readsSpecies_6 (x_kk rfl) rfl kn_8 (by omega) (by omega) ?_
  refine f_istore_n (M := mX9_readsSpecies) (ls' := [_, _]) 8 dX9_readsSpecies_7 rfl rfl rfl ?_
  refine f_iload_n (M := mX9_readsSpecies) 9 dX9_readsSpecies_8 rfl rfl ?_
  refine f_bipush (M := mX9_readsSpecies) 11 dX9_readsSpecies_9 kb_6 rfl ?_
  refine e_icmp_neF (M := mX9_readsSpecies) 20 dX9_readsSpecies_11 rfl (fun z => z f8) ?_
  refine f_aload_n (M := mX9_readsSpecies) 15 dX9_readsSpecies_14 rfl rfl ?_
  refine f_bipush (M := mX9_readsSpecies) 17 dX9_readsSpecies_15 kb_m4 rfl ?_
  refine e_cV (M := mX9_readsSpecies) [] 0 0 dX9_readsSpecies_17 pa_9103 pb_9103 cc_9103 rfl rfl rfl rfl rfl (x_kk rfl) (x_kk rfl) rfl (k1) rfl ?_
  refine f_aload_n (M := mX9_readsSpecies) 21 dX9_readsSpecies_20 rfl rfl ?_
  refine f_iconst (M := mX9_readsSpecies) 22 dX9_readsSpecies_21 ki_1 rfl ?_
  refine e_cV (M := mX9_readsSpecies) [] 0 0 dX9_readsSpecies_22 pa_9110 pb_9110 cc_9110 rfl rfl rfl rfl rfl (x_kk rfl) (x_kk rfl) rfl (k2) rfl ?_
  refine f_aload_n (M := mX9_readsSpecies) 26 dX9_readsSpecies_25 rfl rfl ?_
  refine e_getI (M := mX9_readsSpecies) dX9_readsSpecies_26 fl_9093 (x_kk rfl) (x_kk rfl) rfl ?_
  refine e_if_eqF (M := mX9_readsSpecies) 33 dX9_readsSpecies_29 rfl S2.1 ?_
  refine e_rv (M := mX9_readsSpecies) dX9_readsSpecies_32 rfl (x_kk rfl) (x_kk rfl) ?_
  rfl
theorem m_species (hR : x_wf R) {a : Nat → Int32} {m : Nat} (S : y_MS I L n g (.inr (s, a))) (hw : y_wd g n 1011 s) (hm : m < 6) (h8 : a 8 = Int32.ofNat m) : ∃ I' L', x_Cv X mX9_readsSpecies [.ref 225] (I, L, R) 233 (.inl none, (I', L', R), 233) ∧ y_m6 I L I' L' ∧ y_MS I' L' n g (y_bd (y_bd (y_ns g n (fun i => i) (fun i => if i = 0 then 100000 else 10000) (fun i => if i = 0 then 20 + m else 26 + m) 2 0 (y_sk g n (s + 7)) a) (y_sm g n)) (fun s' a' => .inr (s', va_up a' 8 (Int32.ofNat (m + 1))))) := by
  have f8 : I 227 8 = Int32.ofNat m := (S.2 8 (by decide)).trans h8
  obtain ⟨I1, L1, k1, f1, S1⟩ := m_must (X := X) hR S 1
  rw [show y_bd (.inr (s, a)) (y_mu g n 1) = .inr (y_sk g n (s + 7), a) from mu_w (kd_1.mpr hw) (by decide) (by decide) rfl hw] at S1
  have z13 := S1.1.2.2.2.2.2.2.2.2.2
  have f81 : I1 227 8 = Int32.ofNat m := by rw [(f1.1 227 (by decide)).1]; exact f8
  obtain ⟨v2, I2, L2, k2, f2, S2⟩ := m_takes (X := X) hR S1 (lo := 0) (hi := 100000) (t := 20 + m) (by decide) (by decide)
  have f82 : (va_up I2 227 (va_up (I2 227) (20 + m) v2)) 227 8 = Int32.ofNat m := by rw [x_up_self, x_up_ne _ _ (by omega), (f2.1 227 (by decide)).1]; exact f81
  have g2 := m6_s (f := va_up (I2 227) (20 + m) v2) (m6_5 (m5_t f1 f2))
  generalize hJ2 : va_up I2 227 (va_up (I2 227) (20 + m) v2) = J2 at S2 f82 g2
  obtain ⟨v3, I3, L3, k3, f3, S3⟩ := m_takes (X := X) hR S2 (lo := 1) (hi := 10000) (t := 26 + m) (by decide) (by decide)
  have f83 : (va_up I3 227 (va_up (I3 227) (26 + m) v3)) 227 8 = Int32.ofNat m := by rw [x_up_self, x_up_ne _ _ (by omega), (f3.1 227 (by decide)).1]; exact f82
  have g3 := m6_s (f := va_up (I3 227) (26 + m) v3) (m6_t g2 (m6_5 f3))
  generalize hJ3 : va_up I3 227 (va_up (I3 227) (26 + m) v3) = J3 at S3 f83 g3
  obtain ⟨I4, L4, k4, f4, S4⟩ := m_must (X := X) hR S3 5
  have f84 : I4 227 8 = Int32.ofNat m := by rw [(f4.1 227 (by decide)).1]; exact f83
  have S5 := MS_8 (t := 8) (v := Int32.ofNat (m + 1)) S4
  refine ⟨_, L4, ?_, m6_s (f := va_up (I4 227) 8 (Int32.ofNat (m + 1))) (m6_t g3 (m6_5 f4)), ?_⟩
  · show x_Ev X mX9_readsSpecies 0 [some (.ref 225), none] [] ((I, L, R), 233, 0, 0) _
    refine f_aload_n (M := mX9_readsSpecies) 1 dX9_readsSpecies_0 rfl rfl ?_
    refine e_getR (M := mX9_readsSpecies) dX9_readsSpecies_1 fl_9013 (x_kk rfl) (x_kk rfl) rfl (wf_9_1 hR) ?_
    refine f_bipush (M := mX9_readsSpecies) 6 dX9_readsSpecies_4 kb_8 rfl ?_
    refine e_ild (M := mX9_readsSpecies) (w := 606) (j := 8) dX9_readsSpecies_6 (x_kk rfl) rfl kn_8 (by omega) (by omega) ?_
    refine f_istore_n (M := mX9_readsSpecies) (ls' := [_, _]) 8 dX9_readsSpecies_7 rfl rfl rfl ?_
    refine f_iload_n (M := mX9_readsSpecies) 9 dX9_readsSpecies_8 rfl rfl ?_
    refine f_bipush (M := mX9_readsSpecies) 11 dX9_readsSpecies_9 kb_6 rfl ?_
    refine e_icmp_neT (M := mX9_readsSpecies) 20 dX9_readsSpecies_11 rfl (by rw [f8, kn_6, n_eq (by omega) (by omega)]; omega) ?_
    refine f_aload_n (M := mX9_readsSpecies) 21 dX9_readsSpecies_20 rfl rfl ?_
    refine f_iconst (M := mX9_readsSpecies) 22 dX9_readsSpecies_21 ki_1 rfl ?_
    refine e_cV (M := mX9_readsSpecies) [] 0 0 dX9_readsSpecies_22 pa_9110 pb_9110 cc_9110 rfl rfl rfl rfl rfl (x_kk rfl) (x_kk rfl) rfl (k1) rfl ?_
    refine f_aload_n (M := mX9_readsSpecies) 26 dX9_readsSpecies_25 rfl rfl ?_
    refine e_getI (M := mX9_readsSpecies) dX9_readsSpecies_26 fl_9093 (x_kk rfl) (x_kk rfl) rfl ?_
    refine e_if_eqT (M := mX9_readsSpecies) 33 dX9_readsSpecies_29 rfl z13 ?_
    refine f_aload_n (M := mX9_readsSpecies) 34 dX9_readsSpecies_33 rfl rfl ?_
    refine e_getR (M := mX9_readsSpecies) dX9_readsSpecies_34 fl_9013 (x_kk rfl) (x_kk rfl) rfl (wf_9_1 hR) ?_
    refine f_bipush (M := mX9_readsSpecies) 39 dX9_readsSpecies_37 kb_20 rfl ?_
    refine f_iload_n (M := mX9_readsSpecies) 40 dX9_readsSpecies_39 rfl rfl ?_
    refine f_iadd (M := mX9_readsSpecies) 41 dX9_readsSpecies_40 rfl ?_
    refine f_aload_n (M := mX9_readsSpecies) 42 dX9_readsSpecies_41 rfl rfl ?_
    refine f_iconst (M := mX9_readsSpecies) 43 dX9_readsSpecies_42 ki_0 rfl ?_
    refine f_ldcI (M := mX9_readsSpecies) 45 dX9_readsSpecies_43 (x_kk rfl) cst_9113 rfl ?_
    refine e_cV (M := mX9_readsSpecies) [_, _, _] 0 0 dX9_readsSpecies_45 pa_9114 pb_9114 cc_9114 rfl rfl rfl rfl rfl (x_kk rfl) (x_kk rfl) rfl (k2) rfl ?_
    refine e_ist (M := mX9_readsSpecies) (w := 606) (j := 20 + m) dX9_readsSpecies_48 (x_kk rfl) rfl (by rw [f8]; exact ix_add kn_20 rfl) (by omega) (by omega) ?_
    rw [hJ2]
    refine f_aload_n (M := mX9_readsSpecies) 50 dX9_readsSpecies_49 rfl rfl ?_
    refine e_getR (M := mX9_readsSpecies) dX9_readsSpecies_50 fl_9013 (x_kk rfl) (x_kk rfl) rfl (wf_9_1 hR) ?_
    refine f_bipush (M := mX9_readsSpecies) 55 dX9_readsSpecies_53 kb_26 rfl ?_
    refine f_iload_n (M := mX9_readsSpecies) 56 dX9_readsSpecies_55 rfl rfl ?_
    refine f_iadd (M := mX9_readsSpecies) 57 dX9_readsSpecies_56 rfl ?_
    refine f_aload_n (M := mX9_readsSpecies) 58 dX9_readsSpecies_57 rfl rfl ?_
    refine f_iconst (M := mX9_readsSpecies) 59 dX9_readsSpecies_58 ki_1 rfl ?_
    refine f_sipush (M := mX9_readsSpecies) 62 dX9_readsSpecies_59 ks_10000 rfl ?_
    refine e_cV (M := mX9_readsSpecies) [_, _, _] 0 0 dX9_readsSpecies_62 pa_9114 pb_9114 cc_9114 rfl rfl rfl rfl rfl (x_kk rfl) (x_kk rfl) rfl (k3) rfl ?_
    refine e_ist (M := mX9_readsSpecies) (w := 606) (j := 26 + m) dX9_readsSpecies_65 (x_kk rfl) rfl (by rw [f8]; exact ix_add kn_26 rfl) (by omega) (by omega) ?_
    rw [hJ3]
    refine f_aload_n (M := mX9_readsSpecies) 67 dX9_readsSpecies_66 rfl rfl ?_
    refine f_iconst (M := mX9_readsSpecies) 68 dX9_readsSpecies_67 ki_5 rfl ?_
    refine e_cV (M := mX9_readsSpecies) [] 0 0 dX9_readsSpecies_68 pa_9110 pb_9110 cc_9110 rfl rfl rfl rfl rfl (x_kk rfl) (x_kk rfl) rfl (k4) rfl ?_
    refine f_aload_n (M := mX9_readsSpecies) 72 dX9_readsSpecies_71 rfl rfl ?_
    refine e_getR (M := mX9_readsSpecies) dX9_readsSpecies_72 fl_9013 (x_kk rfl) (x_kk rfl) rfl (wf_9_1 hR) ?_
    refine f_bipush (M := mX9_readsSpecies) 77 dX9_readsSpecies_75 kb_8 rfl ?_
    refine f_dup2 (M := mX9_readsSpecies) 78 dX9_readsSpecies_77 rfl rfl rfl ?_
    refine e_ild (M := mX9_readsSpecies) (w := 606) (j := 8) dX9_readsSpecies_78 (x_kk rfl) rfl kn_8 (by omega) (by omega) ?_
    refine f_iconst (M := mX9_readsSpecies) 80 dX9_readsSpecies_79 ki_1 rfl ?_
    refine f_iadd (M := mX9_readsSpecies) 81 dX9_readsSpecies_80 rfl ?_
    refine e_ist (M := mX9_readsSpecies) (w := 606) (j := 8) dX9_readsSpecies_81 (x_kk rfl) rfl kn_8 (by omega) (by omega) ?_
    refine e_rv (M := mX9_readsSpecies) dX9_readsSpecies_82 rfl (x_kk rfl) (x_kk rfl) ?_
    exact (by rw [f84, n_inc])
  · rw [show (y_ns g n (fun i => i) (fun i => if i = 0 then 100000 else 10000) (fun i => if i = 0 then 20 + m else 26 + m) 2 0 (y_sk g n (s + 7)) a) = y_bd (y_bd (.inr (y_sk g n (s + 7), a)) (y_tk g n 0 100000 (20 + m))) (y_tk g n 1 10000 (26 + m)) from by rw [ns_sn, ns_sn]; rfl]
    rw [bd_c (h := y_sm g n) (fun s a => mu_5)] at S5
    exact S5
theorem l_sps9 (hR : x_wf R) : ∀ d m I L s a, m + d = 6 → y_MS I L n g (.inr (s, a)) → a 8 = Int32.ofNat m → ∃ I' L', (∀ r, x_Ev X mX9_readsAll 119 [some (.ref 225)] [] ((I', L', R), 233, 0, 0) r → x_Ev X mX9_readsAll 104 [some (.ref 225)] [] ((I, L, R), 233, 0, 0) r) ∧ y_m6 I L I' L' ∧ y_MS I' L' n g (y_sps g n d m s a) := by
  intro d
  induction d with
  | zero =>
    intro m I L s a hd S h8
    obtain rfl : m = 6 := by omega
    unfold y_sps
    have m12 := S.1.2.2.2.2.2.2.2.1
    have m13 := S.1.2.2.2.2.2.2.2.2.2
    by_cases c : y_wd g n 1011 s
    · rw [if_pos c]
      obtain ⟨I1, L1, k1, f1, S1⟩ := m_species6 (X := X) hR S h8
      refine ⟨I1, L1, fun r hr => ?_, f1, S1⟩
      refine f_aload_n (M := mX9_readsAll) 105 dX9_readsAll_104 rfl rfl ?_
      refine f_iconst (M := mX9_readsAll) 106 dX9_readsAll_105 ki_1 rfl ?_
      refine e_cV (M := mX9_readsAll) [_] 0 0 dX9_readsAll_106 pa_9099 pb_9099 cc_9099 rfl rfl rfl rfl rfl (x_kk rfl) (x_kk rfl) rfl (c_X9_is) rfl ?_
      refine e_if_eqF (M := mX9_readsAll) 119 dX9_readsAll_109 rfl (x_bn ⟨m13, m12.trans (kd_1.mpr c)⟩) ?_
      refine f_aload_n (M := mX9_readsAll) 113 dX9_readsAll_112 rfl rfl ?_
      refine e_cV (M := mX9_readsAll) [] 0 0 dX9_readsAll_113 pa_9119 pb_9119 cc_9119 rfl rfl rfl rfl rfl (x_kk rfl) (x_kk rfl) rfl (k1) rfl ?_
      refine f_goto (M := mX9_readsAll) 104 dX9_readsAll_116 rfl ?_
      refine f_aload_n (M := mX9_readsAll) 105 dX9_readsAll_104 rfl rfl ?_
      refine f_iconst (M := mX9_readsAll) 106 dX9_readsAll_105 ki_1 rfl ?_
      refine e_cV (M := mX9_readsAll) [_] 0 0 dX9_readsAll_106 pa_9099 pb_9099 cc_9099 rfl rfl rfl rfl rfl (x_kk rfl) (x_kk rfl) rfl (c_X9_is) rfl ?_
      refine e_if_eqT (M := mX9_readsAll) 119 dX9_readsAll_109 rfl (x_b0 (fun z => S1.1 z.1)) ?_
      exact hr
    · rw [if_neg c]
      refine ⟨I, L, fun r hr => ?_, m6_r, S⟩
      refine f_aload_n (M := mX9_readsAll) 105 dX9_readsAll_104 rfl rfl ?_
      refine f_iconst (M := mX9_readsAll) 106 dX9_readsAll_105 ki_1 rfl ?_
      refine e_cV (M := mX9_readsAll) [_] 0 0 dX9_readsAll_106 pa_9099 pb_9099 cc_9099 rfl rfl rfl rfl rfl (x_kk rfl) (x_kk rfl) rfl (c_X9_is) rfl ?_
      refine e_if_eqT (M := mX9_readsAll) 119 dX9_readsAll_109 rfl (x_b0 (fun z => c (kd_1.mp (m12.symm.trans z.2)))) ?_
      exact hr
  | succ d ih =>
    intro m I L s a hd S h8
    unfold y_sps
    have m12 := S.1.2.2.2.2.2.2.2.1
    have m13 := S.1.2.2.2.2.2.2.2.2.2
    by_cases c : y_wd g n 1011 s
    · rw [if_pos c]
      obtain ⟨I1, L1, k1, f1, S1⟩ := m_species (X := X) hR S c (show m < 6 by omega) h8
      cases e : y_bd (y_ns g n (fun i => i) (fun i => if i = 0 then 100000 else 10000) (fun i => if i = 0 then 20 + m else 26 + m) 2 0 (y_sk g n (s + 7)) a) (y_sm g n) with
      | inl q =>
        rw [e] at S1
        refine ⟨I1, L1, fun r hr => ?_, f1, S1⟩
        refine f_aload_n (M := mX9_readsAll) 105 dX9_readsAll_104 rfl rfl ?_
        refine f_iconst (M := mX9_readsAll) 106 dX9_readsAll_105 ki_1 rfl ?_
        refine e_cV (M := mX9_readsAll) [_] 0 0 dX9_readsAll_106 pa_9099 pb_9099 cc_9099 rfl rfl rfl rfl rfl (x_kk rfl) (x_kk rfl) rfl (c_X9_is) rfl ?_
        refine e_if_eqF (M := mX9_readsAll) 119 dX9_readsAll_109 rfl (x_bn ⟨m13, m12.trans (kd_1.mpr c)⟩) ?_
        refine f_aload_n (M := mX9_readsAll) 113 dX9_readsAll_112 rfl rfl ?_
        refine e_cV (M := mX9_readsAll) [] 0 0 dX9_readsAll_113 pa_9119 pb_9119 cc_9119 rfl rfl rfl rfl rfl (x_kk rfl) (x_kk rfl) rfl (k1) rfl ?_
        refine f_goto (M := mX9_readsAll) 104 dX9_readsAll_116 rfl ?_
        refine f_aload_n (M := mX9_readsAll) 105 dX9_readsAll_104 rfl rfl ?_
        refine f_iconst (M := mX9_readsAll) 106 dX9_readsAll_105 ki_1 rfl ?_
        refine e_cV (M := mX9_readsAll) [_] 0 0 dX9_readsAll_106 pa_9099 pb_9099 cc_9099 rfl rfl rfl rfl rfl (x_kk rfl) (x_kk rfl) rfl (c_X9_is) rfl ?_
        refine e_if_eqT (M := mX9_readsAll) 119 dX9_readsAll_109 rfl (x_b0 (fun z => S1.1 z.1)) ?_
        exact hr
      | inr w =>
        rw [e] at S1
        obtain ⟨I', L', ev, f2, S2⟩ := ih (m + 1) I1 L1 w.1 (va_up w.2 8 (Int32.ofNat (m + 1))) (by omega) S1 (x_up_self _ _ _)
        refine ⟨I', L', fun r hr => ?_, m6_t f1 f2, S2⟩
        refine f_aload_n (M := mX9_readsAll) 105 dX9_readsAll_104 rfl rfl ?_
        refine f_iconst (M := mX9_readsAll) 106 dX9_readsAll_105 ki_1 rfl ?_
        refine e_cV (M := mX9_readsAll) [_] 0 0 dX9_readsAll_106 pa_9099 pb_9099 cc_9099 rfl rfl rfl rfl rfl (x_kk rfl) (x_kk rfl) rfl (c_X9_is) rfl ?_
        refine e_if_eqF (M := mX9_readsAll) 119 dX9_readsAll_109 rfl (x_bn ⟨m13, m12.trans (kd_1.mpr c)⟩) ?_
        refine f_aload_n (M := mX9_readsAll) 113 dX9_readsAll_112 rfl rfl ?_
        refine e_cV (M := mX9_readsAll) [] 0 0 dX9_readsAll_113 pa_9119 pb_9119 cc_9119 rfl rfl rfl rfl rfl (x_kk rfl) (x_kk rfl) rfl (k1) rfl ?_
        refine f_goto (M := mX9_readsAll) 104 dX9_readsAll_116 rfl ?_
        exact ev r hr
    · rw [if_neg c]
      refine ⟨I, L, fun r hr => ?_, m6_r, S⟩
      refine f_aload_n (M := mX9_readsAll) 105 dX9_readsAll_104 rfl rfl ?_
      refine f_iconst (M := mX9_readsAll) 106 dX9_readsAll_105 ki_1 rfl ?_
      refine e_cV (M := mX9_readsAll) [_] 0 0 dX9_readsAll_106 pa_9099 pb_9099 cc_9099 rfl rfl rfl rfl rfl (x_kk rfl) (x_kk rfl) rfl (c_X9_is) rfl ?_
      refine e_if_eqT (M := mX9_readsAll) 119 dX9_readsAll_109 rfl (x_b0 (fun z => c (kd_1.mp (m12.symm.trans z.2)))) ?_
      exact hr
end
end

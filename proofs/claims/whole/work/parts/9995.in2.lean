/-! ===== the beginning, second (laid by wip/whole/src/in2.py) ===== -/
section
variable {X : x_X} {I : Nat → Nat → Int32} {L : Nat → Nat → Int64} {R : Nat → Nat → Option Nat} {N : Nat}
theorem i_X5 : ∃ I' L' R', x_Cv X mX5_init [.ref 1] (I, L, R) 2 (.inl none, (I', L', R'), 3) ∧ (∀ q, ¬ q = 1 → ¬ q = 2 → I' q = I q ∧ R' q = R q) ∧ I' 1 1 = I 1 1 ∧ I' 1 2 = -1 ∧ R' 1 0 = some 2 := by
  show y_Ex X mX5_init 0 [some (.ref 1)] [] ((I, L, R), 2, 0, 0) 3 (fun I' L' R' => (∀ q, ¬ q = 1 → ¬ q = 2 → I' q = I q ∧ R' q = R q) ∧ I' 1 1 = I 1 1 ∧ I' 1 2 = -1 ∧ R' 1 0 = some 2)
  refine ex_l (fun _ kk => f_aload_n (M := mX5_init) 1 dX5_init_0 rfl rfl kk) ?_
  refine ex_l (fun _ kk => e_obi (M := mX5_init) dX5_init_1 ob_5003 (x_kk rfl) (x_kk rfl) kk) ?_
  refine ex_l (fun _ kk => f_aload_n (M := mX5_init) 5 dX5_init_4 rfl rfl kk) ?_
  refine ex_l (fun _ kk => f_sipush (M := mX5_init) 8 dX5_init_5 ks_800 rfl kk) ?_
  refine ex_l (fun _ kk => e_naN (M := mX5_init) (w := 800) (3) 1 800 dX5_init_8 kn_800 (by decide) rfl rfl rfl (x_kk rfl) (x_kk rfl) (by omega) rfl kk) ?_
  refine ex_l (fun _ kk => e_putR (M := mX5_init) dX5_init_10 fl_5009 (x_kk rfl) (by omega) rfl (fun _ => ⟨rfl, rfl⟩) kk) ?_
  refine ex_l (fun _ kk => f_aload_n (M := mX5_init) 14 dX5_init_13 rfl rfl kk) ?_
  refine ex_l (fun _ kk => f_iconst (M := mX5_init) 15 dX5_init_14 ki_m1 rfl kk) ?_
  refine ex_l (fun _ kk => e_putI (M := mX5_init) dX5_init_15 fl_5015 (x_kk rfl) (by omega) rfl (fun q9 => Bool.noConfusion q9) kk) ?_
  refine ⟨_, _, _, e_rv (M := mX5_init) dX5_init_18 rfl (x_kk rfl) (x_kk rfl) rfl, ?_⟩
  refine ⟨fun q h1 h2 => ⟨?_, ?_⟩, ?_, ?_, ?_⟩
  · repeat (first | rw [x_up_self] | rw [x_up_ne _ _ (by omega)])
  · repeat (first | rw [x_up_self] | rw [x_up_ne _ _ (by omega)])
  · repeat (first | rw [x_up_self] | rw [x_up_ne _ _ (by omega)])
  · repeat (first | rw [x_up_self] | rw [x_up_ne _ _ (by omega)])
  · repeat (first | rw [x_up_self] | rw [x_up_ne _ _ (by omega)])
theorem wb_c {R' : Nat → Nat → Option Nat} {β : Nat} (h : ∀ k, k < 22 → R' (β + k) = R (β + k)) (w : y_wb R β) : y_wb R' β := by
  unfold y_wb
  rw [h 7 (by decide), h 12 (by decide), h 5 (by decide), h 17 (by decide), h 0 (by decide), h 1 (by decide)]
  exact w
theorem l_X3 {I0 : Nat → Nat → Int32} {L0 : Nat → Nat → Int64} {R0 : Nat → Nat → Option Nat} : ∀ d j I L R, j + d = 8 → (∀ q, q < 3 ∨ 181 ≤ q → I q = I0 q ∧ L q = L0 q ∧ R q = R0 q) → I 3 = I0 3 → R 3 0 = some 4 → (∀ i, i < j → R 4 i = some (5 + 22 * i)) → (∀ i, i < j → y_wb R (5 + 22 * i)) → y_Ex X mX3_init 15 [some (.ref 3), some (.int (Int32.ofNat j))] [] ((I, L, R), 5 + 22 * j, 1 + 22 * j, 8 + 662 * j) 181 (fun I' L' R' => (∀ q, q < 3 ∨ 181 ≤ q → I' q = I0 q ∧ L' q = L0 q ∧ R' q = R0 q) ∧ I' 3 = I0 3 ∧ R' 3 0 = some 4 ∧ (∀ i, i < 8 → R' 4 i = some (5 + 22 * i)) ∧ (∀ i, i < 8 → y_wb R' (5 + 22 * i))) := by
  intro d
  induction d with
  | zero =>
    intro j I L R hd f0 f3 r3 r4 wb
    obtain rfl : j = 8 := by omega
    refine ex_l (fun _ kk => f_iload_n (M := mX3_init) 16 dX3_init_15 rfl rfl kk) ?_
    refine ex_l (fun _ kk => f_bipush (M := mX3_init) 18 dX3_init_16 kb_8 rfl kk) ?_
    refine ex_l (fun _ kk => e_icmp_geT (M := mX3_init) 40 dX3_init_18 rfl (by decide) kk) ?_
    refine ⟨_, _, _, e_rv (M := mX3_init) dX3_init_40 rfl (x_kk rfl) (x_kk rfl) rfl, ?_⟩
    exact ⟨f0, f3, r3, r4, wb⟩
  | succ d ih =>
    intro j I L R hd f0 f3 r3 r4 wb
    have hβ : x_sl (5 + 22 * j) := ⟨j, by omega, rfl⟩
    obtain ⟨I1, L1, R1, k1, a1, b1, w1, _⟩ := i_X6 (X := X) (I := va_up I (5 + 22 * j) (fun _ => 0)) (L := va_up L (5 + 22 * j) (fun _ => 0)) (R := va_up R (5 + 22 * j) (fun _ => none)) hβ
    refine ex_l (fun _ kk => f_iload_n (M := mX3_init) 16 dX3_init_15 rfl rfl kk) ?_
    refine ex_l (fun _ kk => f_bipush (M := mX3_init) 18 dX3_init_16 kb_8 rfl kk) ?_
    refine ex_l (fun _ kk => e_icmp_geF (M := mX3_init) 40 dX3_init_18 rfl (by rw [kn_8, n_le (by omega) (by omega)]; omega) kk) ?_
    refine ex_l (fun _ kk => f_aload_n (M := mX3_init) 22 dX3_init_21 rfl rfl kk) ?_
    refine ex_l (fun _ kk => e_getR (M := mX3_init) dX3_init_22 fl_3011 (x_kk rfl) (by omega) rfl r3 kk) ?_
    refine ex_l (fun _ kk => f_iload_n (M := mX3_init) 26 dX3_init_25 rfl rfl kk) ?_
    refine ex_l (fun _ kk => e_newN (M := mX3_init) (w := 6) (5 + 22 * j + 1) (1 + 22 * j + 1) (8 + 662 * j + 6) dX3_init_26 (x_kk rfl) nt_3009 rfl rfl rfl rfl (show _ ≤ 177 by omega) (show _ ≤ 5304 by omega) (by omega) (sl_s hβ 0 rfl rfl) kk) ?_
    refine ex_l (fun _ kk => f_dup (M := mX3_init) 30 dX3_init_29 rfl rfl kk) ?_
    refine ex_l (fun _ kk => e_cI (M := mX3_init) [_, _, _] (1 + 22 * (j + 1)) (8 + 662 * (j + 1)) dX3_init_30 pa_3017 cc_3017 rfl rfl rfl (show 1 + 22 * j + 1 + 21 = 1 + 22 * (j + 1) by omega) (show 8 + 662 * j + 6 + 656 = 8 + 662 * (j + 1) by omega) (show _ ≤ 177 by omega) (show _ ≤ 5304 by omega) rfl k1 rfl kk) ?_
    refine ex_l (fun _ kk => e_ast (M := mX3_init) (w := 8) (j := j) dX3_init_33 (by omega) rfl rfl (by omega) (by omega) (by omega) (sl_s hβ 0 rfl rfl) kk) ?_
    refine ex_l (fun _ kk => f_iinc (M := mX3_init) (ls' := [_, _]) 37 dX3_init_34 ki_1 rfl rfl rfl rfl kk) ?_
    refine ex_l (fun _ kk => f_goto (M := mX3_init) 15 dX3_init_37 rfl kk) ?_
    rw [n_inc (s := j), show 5 + 22 * j + 22 = 5 + 22 * (j + 1) by omega]
    refine ih (j + 1) I1 L1 _ (by omega) (fun q hq => ⟨?_, ?_, ?_⟩) ?_ ?_ (fun i hi => ?_) (fun i hi => ?_)
    · rw [(a1 q (by omega)).1, x_up_ne _ _ (by omega)]; exact (f0 q hq).1
    · rw [(a1 q (by omega)).2, x_up_ne _ _ (by omega)]; exact (f0 q hq).2.1
    · rw [x_up_ne _ _ (by omega), b1 q (by omega), x_up_ne _ _ (by omega)]; exact (f0 q hq).2.2
    · rw [(a1 3 (by omega)).1, x_up_ne _ _ (by omega)]; exact f3
    · rw [x_up_ne _ _ (by decide), b1 3 (by omega), x_up_ne _ _ (by omega)]; exact r3
    · rw [x_up_self]
      by_cases z : i = j
      · rw [z, x_up_self]
      · rw [x_up_ne _ _ z, b1 4 (by omega), x_up_ne _ _ (by omega)]; exact r4 i (by omega)
    · by_cases z : i = j
      · rw [z]; exact wb_c (fun k hk => x_up_ne _ _ (by omega)) w1
      · exact wb_c (fun k hk => by rw [x_up_ne _ _ (by omega), b1 _ (by omega), x_up_ne _ _ (by omega)]) (wb i (by omega))
theorem i_X3 : ∃ I' L' R', x_Cv X mX3_init [.ref 3] (I, L, R) 4 (.inl none, (I', L', R'), 181) ∧ (∀ q, q < 3 ∨ 181 ≤ q → I' q = I q ∧ L' q = L q ∧ R' q = R q) ∧ I' 3 = I 3 ∧ R' 3 0 = some 4 ∧ (∀ i, i < 8 → R' 4 i = some (5 + 22 * i)) ∧ (∀ i, i < 8 → y_wb R' (5 + 22 * i)) := by
  show y_Ex X mX3_init 0 [some (.ref 3), none] [] ((I, L, R), 4, 0, 0) 181 (fun I' L' R' => (∀ q, q < 3 ∨ 181 ≤ q → I' q = I q ∧ L' q = L q ∧ R' q = R q) ∧ I' 3 = I 3 ∧ R' 3 0 = some 4 ∧ (∀ i, i < 8 → R' 4 i = some (5 + 22 * i)) ∧ (∀ i, i < 8 → y_wb R' (5 + 22 * i)))
  refine ex_l (fun _ kk => f_aload_n (M := mX3_init) 1 dX3_init_0 rfl rfl kk) ?_
  refine ex_l (fun _ kk => e_obi (M := mX3_init) dX3_init_1 ob_3003 (x_kk rfl) (x_kk rfl) kk) ?_
  refine ex_l (fun _ kk => f_aload_n (M := mX3_init) 5 dX3_init_4 rfl rfl kk) ?_
  refine ex_l (fun _ kk => f_bipush (M := mX3_init) 7 dX3_init_5 kb_8 rfl kk) ?_
  refine ex_l (fun _ kk => e_anaN (M := mX3_init) (w := 8) (5) 1 8 dX3_init_7 nt_3009 (x_kk rfl) kn_8 (by decide) rfl rfl rfl (x_kk rfl) (x_kk rfl) (by omega) rfl kk) ?_
  refine ex_l (fun _ kk => e_putR (M := mX3_init) dX3_init_10 fl_3011 (x_kk rfl) (by omega) rfl (fun _ => ⟨rfl, rfl⟩) kk) ?_
  refine ex_l (fun _ kk => f_iconst (M := mX3_init) 14 dX3_init_13 ki_0 rfl kk) ?_
  refine ex_l (fun _ kk => f_istore_n (M := mX3_init) (ls' := [_, _]) 15 dX3_init_14 rfl rfl rfl kk) ?_
  refine l_X3 8 0 _ _ _ rfl (fun q hq => ⟨x_up_ne _ _ (by omega), x_up_ne _ _ (by omega), ?_⟩) (x_up_ne _ _ (by omega)) ?_ (fun i hi => absurd hi (Nat.not_lt_zero _)) (fun i hi => absurd hi (Nat.not_lt_zero _))
  · repeat (first | rw [x_up_self] | rw [x_up_ne _ _ (by omega)])
  · repeat (first | rw [x_up_self] | rw [x_up_ne _ _ (by omega)])
theorem i_X8 : ∃ I' L' R', x_Cv X mX8_init [.ref 0] (I, L, R) 1 (.inl none, (I', L', R'), 225) ∧ I' 1 1 = 0 ∧ I' 1 2 = -1 ∧ I' 3 1 = 0 ∧ I' 3 2 = 0 ∧ R' 0 0 = some 1 ∧ R' 0 1 = some 3 ∧ R' 0 2 = some 181 ∧ R' 0 3 = some 203 ∧ R' 1 0 = some 2 ∧ R' 3 0 = some 4 ∧ (∀ i, i < 8 → R' 4 i = some (5 + 22 * i)) ∧ (∀ i, i < 10 → y_wb R' (5 + 22 * i)) ∧ y_Rep I' L' 181 y_i (fun _ => 0) := by
  have h181 : x_sl 181 := ⟨8, by decide, rfl⟩
  have h203 : x_sl 203 := ⟨9, by decide, rfl⟩
  obtain ⟨I1, L1, R1, k1, f1, e11, e12, r10⟩ := i_X5 (X := X) (I := va_up I 1 (fun _ => 0)) (L := va_up L 1 (fun _ => 0)) (R := va_up R 1 (fun _ => none))
  obtain ⟨I2, L2, R2, k2, f2, e3, r3, r4, wb⟩ := i_X3 (X := X) (I := va_up I1 3 (fun _ => 0)) (L := va_up L1 3 (fun _ => 0)) (R := va_up (va_up R1 0 (va_up (R1 0) 0 (some 1))) 3 (fun _ => none))
  obtain ⟨I3, L3, R3, k3, a3, b3, w3, p3⟩ := i_X6 (X := X) (I := va_up I2 181 (fun _ => 0)) (L := va_up L2 181 (fun _ => 0)) (R := va_up (va_up R2 0 (va_up (R2 0) 1 (some 3))) 181 (fun _ => none)) h181
  obtain ⟨I4, L4, R4, k4, a4, b4, w4, p4⟩ := i_X6 (X := X) (I := va_up I3 203 (fun _ => 0)) (L := va_up L3 203 (fun _ => 0)) (R := va_up (va_up R3 0 (va_up (R3 0) 2 (some 181))) 203 (fun _ => none)) h203
  show y_Ex X mX8_init 0 [some (.ref 0)] [] ((I, L, R), 1, 0, 0) 225 (fun I' L' R' => I' 1 1 = 0 ∧ I' 1 2 = -1 ∧ I' 3 1 = 0 ∧ I' 3 2 = 0 ∧ R' 0 0 = some 1 ∧ R' 0 1 = some 3 ∧ R' 0 2 = some 181 ∧ R' 0 3 = some 203 ∧ R' 1 0 = some 2 ∧ R' 3 0 = some 4 ∧ (∀ i, i < 8 → R' 4 i = some (5 + 22 * i)) ∧ (∀ i, i < 10 → y_wb R' (5 + 22 * i)) ∧ y_Rep I' L' 181 y_i (fun _ => 0))
  refine ex_l (fun _ kk => f_aload_n (M := mX8_init) 1 dX8_init_0 rfl rfl kk) ?_
  refine ex_l (fun _ kk => e_obi (M := mX8_init) dX8_init_1 ob_8001 (x_kk rfl) (x_kk rfl) kk) ?_
  refine ex_l (fun _ kk => f_aload_n (M := mX8_init) 5 dX8_init_4 rfl rfl kk) ?_
  refine ex_l (fun _ kk => e_newN (M := mX8_init) (w := 7) (2) 1 7 dX8_init_5 (x_kk rfl) nt_8007 rfl rfl rfl rfl (x_kk rfl) (x_kk rfl) (by omega) rfl kk) ?_
  refine ex_l (fun _ kk => f_dup (M := mX8_init) 9 dX8_init_8 rfl rfl kk) ?_
  refine ex_l (fun _ kk => e_cI (M := mX8_init) [_, _] 2 807 dX8_init_9 pa_8009 cc_8009 rfl rfl rfl rfl rfl (x_kk rfl) (x_kk rfl) rfl (k1) rfl kk) ?_
  refine ex_l (fun _ kk => e_putR (M := mX8_init) dX8_init_12 fl_8010 (x_kk rfl) (by omega) rfl (fun _ => ⟨rfl, rfl⟩) kk) ?_
  refine ex_l (fun _ kk => f_aload_n (M := mX8_init) 16 dX8_init_15 rfl rfl kk) ?_
  refine ex_l (fun _ kk => e_newN (M := mX8_init) (w := 3) (4) 3 810 dX8_init_16 (x_kk rfl) nt_8016 rfl rfl rfl rfl (x_kk rfl) (x_kk rfl) (by omega) rfl kk) ?_
  refine ex_l (fun _ kk => f_dup (M := mX8_init) 20 dX8_init_19 rfl rfl kk) ?_
  refine ex_l (fun _ kk => e_cI (M := mX8_init) [_, _] 180 6114 dX8_init_20 pa_8018 cc_8018 rfl rfl rfl rfl rfl (x_kk rfl) (x_kk rfl) rfl (k2) rfl kk) ?_
  refine ex_l (fun _ kk => e_putR (M := mX8_init) dX8_init_23 fl_8019 (x_kk rfl) (by omega) rfl (fun _ => ⟨rfl, rfl⟩) kk) ?_
  refine ex_l (fun _ kk => f_aload_n (M := mX8_init) 27 dX8_init_26 rfl rfl kk) ?_
  refine ex_l (fun _ kk => e_newN (M := mX8_init) (w := 6) (182) 181 6120 dX8_init_27 (x_kk rfl) nt_8023 rfl rfl rfl rfl (x_kk rfl) (x_kk rfl) (by omega) rfl kk) ?_
  refine ex_l (fun _ kk => f_dup (M := mX8_init) 31 dX8_init_30 rfl rfl kk) ?_
  refine ex_l (fun _ kk => e_cI (M := mX8_init) [_, _] 202 6776 dX8_init_31 pa_8025 cc_8025 rfl rfl rfl rfl rfl (x_kk rfl) (x_kk rfl) rfl (k3) rfl kk) ?_
  refine ex_l (fun _ kk => e_putR (M := mX8_init) dX8_init_34 fl_8026 (x_kk rfl) (by omega) rfl (fun q9 => Bool.noConfusion q9) kk) ?_
  refine ex_l (fun _ kk => f_aload_n (M := mX8_init) 38 dX8_init_37 rfl rfl kk) ?_
  refine ex_l (fun _ kk => e_newN (M := mX8_init) (w := 6) (204) 203 6782 dX8_init_38 (x_kk rfl) nt_8023 rfl rfl rfl rfl (x_kk rfl) (x_kk rfl) (by omega) rfl kk) ?_
  refine ex_l (fun _ kk => f_dup (M := mX8_init) 42 dX8_init_41 rfl rfl kk) ?_
  refine ex_l (fun _ kk => e_cI (M := mX8_init) [_, _] 224 7438 dX8_init_42 pa_8025 cc_8025 rfl rfl rfl rfl rfl (x_kk rfl) (x_kk rfl) rfl (k4) rfl kk) ?_
  refine ex_l (fun _ kk => e_putR (M := mX8_init) dX8_init_45 fl_8030 (x_kk rfl) (by omega) rfl (fun q9 => Bool.noConfusion q9) kk) ?_
  refine ⟨_, _, _, e_rv (M := mX8_init) dX8_init_48 rfl (x_kk rfl) (x_kk rfl) rfl, ?_⟩
  have i1 : I4 1 = I1 1 := by (repeat (first | rw [x_up_self] | rw [x_up_ne _ _ (by omega)] | rw [(a4 _ (by omega)).1] | rw [(a3 _ (by omega)).1] | rw [(f2 _ (by omega)).1]))
  have i3 : I4 3 = fun _ => 0 := by
    (repeat (first | rw [x_up_self] | rw [x_up_ne _ _ (by omega)] | rw [(a4 _ (by omega)).1] | rw [(a3 _ (by omega)).1] | rw [(f2 _ (by omega)).1]))
    rw [e3, x_up_self]
  refine ⟨?_, ?_, ?_, ?_, ?_, ?_, ?_, ?_, ?_, ?_, fun i hi => ?_, fun i hi => ?_, ?_⟩
  · rw [i1, e11, x_up_self]
  · rw [i1]; exact e12
  · rw [i3]
  · rw [i3]
  · (repeat (first | rw [x_up_self] | rw [x_up_ne _ _ (by omega)] | rw [b4 _ (by omega)] | rw [b3 _ (by omega)] | rw [(f2 _ (by omega)).2.2]))
  · (repeat (first | rw [x_up_self] | rw [x_up_ne _ _ (by omega)] | rw [b4 _ (by omega)] | rw [b3 _ (by omega)] | rw [(f2 _ (by omega)).2.2]))
  · (repeat (first | rw [x_up_self] | rw [x_up_ne _ _ (by omega)] | rw [b4 _ (by omega)] | rw [b3 _ (by omega)] | rw [(f2 _ (by omega)).2.2]))
  · (repeat (first | rw [x_up_self] | rw [x_up_ne _ _ (by omega)] | rw [b4 _ (by omega)] | rw [b3 _ (by omega)] | rw [(f2 _ (by omega)).2.2]))
  · (repeat (first | rw [x_up_self] | rw [x_up_ne _ _ (by omega)] | rw [b4 _ (by omega)] | rw [b3 _ (by omega)] | rw [(f2 _ (by omega)).2.2])); exact r10
  · (repeat (first | rw [x_up_self] | rw [x_up_ne _ _ (by omega)] | rw [b4 _ (by omega)] | rw [b3 _ (by omega)] | rw [(f2 _ (by omega)).2.2])); exact r3
  · (repeat (first | rw [x_up_self] | rw [x_up_ne _ _ (by omega)] | rw [b4 _ (by omega)] | rw [b3 _ (by omega)] | rw [(f2 _ (by omega)).2.2])); exact r4 i hi
  · by_cases z9 : i = 9
    · subst z9; exact wb_c (fun k hk => x_up_ne _ _ (by omega)) w4
    · by_cases z8 : i = 8
      · subst z8; exact wb_c (fun k hk => by rw [x_up_ne _ _ (by omega), b4 _ (by omega), x_up_ne _ _ (by omega), x_up_ne _ _ (by omega)]) w3
      · exact wb_c (fun k hk => by rw [x_up_ne _ _ (by omega), b4 _ (by omega), x_up_ne _ _ (by omega), x_up_ne _ _ (by omega), b3 _ (by omega), x_up_ne _ _ (by omega), x_up_ne _ _ (by omega)]) (wb i (by omega))
  · exact Rep_c (fun k hk => by rw [(a4 _ (by omega)).1, x_up_ne _ _ (by omega)]) (fun k hk => by rw [(a4 _ (by omega)).2, x_up_ne _ _ (by omega)]) (p3 (by rw [x_up_self]))
theorem i_X9 : ∃ I' L' R', x_Cv X mX9_init [.ref 225] (I, L, R) 226 (.inl none, (I', L', R'), 232) ∧ (∀ q, q < 225 → I' q = I q ∧ L' q = L q ∧ R' q = R q) ∧ I' 226 = y_i ∧ L' 229 = (fun _ => 0) ∧ I' 225 5 = I 225 5 ∧ I' 225 8 = I 225 8 ∧ I' 225 15 = -1 ∧ R' 225 0 = some 226 ∧ R' 225 1 = some 227 ∧ R' 225 2 = some 228 ∧ R' 225 3 = some 229 ∧ R' 225 4 = some 230 ∧ R' 225 7 = some 231 := by
  show y_Ex X mX9_init 0 [some (.ref 225)] [] ((I, L, R), 226, 0, 0) 232 (fun I' L' R' => (∀ q, q < 225 → I' q = I q ∧ L' q = L q ∧ R' q = R q) ∧ I' 226 = y_i ∧ L' 229 = (fun _ => 0) ∧ I' 225 5 = I 225 5 ∧ I' 225 8 = I 225 8 ∧ I' 225 15 = -1 ∧ R' 225 0 = some 226 ∧ R' 225 1 = some 227 ∧ R' 225 2 = some 228 ∧ R' 225 3 = some 229 ∧ R' 225 4 = some 230 ∧ R' 225 7 = some 231)
  refine ex_l (fun _ kk => f_aload_n (M := mX9_init) 1 dX9_init_0 rfl rfl kk) ?_
  refine ex_l (fun _ kk => e_obi (M := mX9_init) dX9_init_1 ob_9001 (x_kk rfl) (x_kk rfl) kk) ?_
  refine ex_l (fun _ kk => f_aload_n (M := mX9_init) 5 dX9_init_4 rfl rfl kk) ?_
  refine ex_l (fun _ kk => f_sipush (M := mX9_init) 8 dX9_init_5 ks_606 rfl kk) ?_
  refine ex_l (fun _ kk => e_naN (M := mX9_init) (w := 606) (227) 1 606 dX9_init_8 kn_606 (by decide) rfl rfl rfl (x_kk rfl) (x_kk rfl) (by omega) rfl kk) ?_
  refine ex_l (fun _ kk => e_putR (M := mX9_init) dX9_init_10 fl_9007 (x_kk rfl) (by omega) rfl (fun _ => ⟨rfl, rfl⟩) kk) ?_
  refine ex_l (fun _ kk => f_aload_n (M := mX9_init) 14 dX9_init_13 rfl rfl kk) ?_
  refine ex_l (fun _ kk => f_sipush (M := mX9_init) 17 dX9_init_14 ks_606 rfl kk) ?_
  refine ex_l (fun _ kk => e_naN (M := mX9_init) (w := 606) (228) 2 1212 dX9_init_17 kn_606 (by decide) rfl rfl rfl (x_kk rfl) (x_kk rfl) (by omega) rfl kk) ?_
  refine ex_l (fun _ kk => e_putR (M := mX9_init) dX9_init_19 fl_9013 (x_kk rfl) (by omega) rfl (fun _ => ⟨rfl, rfl⟩) kk) ?_
  refine ex_l (fun _ kk => f_aload_n (M := mX9_init) 23 dX9_init_22 rfl rfl kk) ?_
  refine ex_l (fun _ kk => f_sipush (M := mX9_init) 26 dX9_init_23 ks_4848 rfl kk) ?_
  refine ex_l (fun _ kk => e_naN (M := mX9_init) (w := 4848) (229) 3 6060 dX9_init_26 kn_4848 (by decide) rfl rfl rfl (x_kk rfl) (x_kk rfl) (by omega) rfl kk) ?_
  refine ex_l (fun _ kk => e_putR (M := mX9_init) dX9_init_28 fl_9016 (x_kk rfl) (by omega) rfl (fun _ => ⟨rfl, rfl⟩) kk) ?_
  refine ex_l (fun _ kk => f_aload_n (M := mX9_init) 32 dX9_init_31 rfl rfl kk) ?_
  refine ex_l (fun _ kk => f_bipush (M := mX9_init) 34 dX9_init_32 kb_37 rfl kk) ?_
  refine ex_l (fun _ kk => e_naN (M := mX9_init) (w := 37) (230) 4 6097 dX9_init_34 kn_37 (by decide) rfl rfl rfl (x_kk rfl) (x_kk rfl) (by omega) rfl kk) ?_
  refine ex_l (fun _ kk => e_putR (M := mX9_init) dX9_init_36 fl_9019 (x_kk rfl) (by omega) rfl (fun _ => ⟨rfl, rfl⟩) kk) ?_
  refine ex_l (fun _ kk => f_aload_n (M := mX9_init) 40 dX9_init_39 rfl rfl kk) ?_
  refine ex_l (fun _ kk => f_sipush (M := mX9_init) 43 dX9_init_40 ks_296 rfl kk) ?_
  refine ex_l (fun _ kk => e_naN (M := mX9_init) (w := 296) (231) 5 6393 dX9_init_43 kn_296 (by decide) rfl rfl rfl (x_kk rfl) (x_kk rfl) (by omega) rfl kk) ?_
  refine ex_l (fun _ kk => e_putR (M := mX9_init) dX9_init_45 fl_9023 (x_kk rfl) (by omega) rfl (fun _ => ⟨rfl, rfl⟩) kk) ?_
  refine ex_l (fun _ kk => f_aload_n (M := mX9_init) 49 dX9_init_48 rfl rfl kk) ?_
  refine ex_l (fun _ kk => f_sipush (M := mX9_init) 52 dX9_init_49 ks_800 rfl kk) ?_
  refine ex_l (fun _ kk => e_naN (M := mX9_init) (w := 800) (232) 6 7193 dX9_init_52 kn_800 (by decide) rfl rfl rfl (x_kk rfl) (x_kk rfl) (by omega) rfl kk) ?_
  refine ex_l (fun _ kk => e_putR (M := mX9_init) dX9_init_54 fl_9026 (x_kk rfl) (by omega) rfl (fun _ => ⟨rfl, rfl⟩) kk) ?_
  refine ex_l (fun _ kk => f_aload_n (M := mX9_init) 58 dX9_init_57 rfl rfl kk) ?_
  refine ex_l (fun _ kk => f_iconst (M := mX9_init) 59 dX9_init_58 ki_m1 rfl kk) ?_
  refine ex_l (fun _ kk => e_putI (M := mX9_init) dX9_init_59 fl_9029 (x_kk rfl) (by omega) rfl (fun q9 => Bool.noConfusion q9) kk) ?_
  refine ex_l (fun _ kk => f_aload_n (M := mX9_init) 63 dX9_init_62 rfl rfl kk) ?_
  refine ex_l (fun _ kk => e_getR (M := mX9_init) dX9_init_63 fl_9007 (x_kk rfl) (by omega) rfl (by repeat (first | rw [x_up_self] | rw [x_up_ne _ _ (by omega)])) kk) ?_
  refine ex_l (fun _ kk => f_iconst (M := mX9_init) 67 dX9_init_66 ki_1 rfl kk) ?_
  refine ex_l (fun _ kk => f_iconst (M := mX9_init) 68 dX9_init_67 ki_2 rfl kk) ?_
  refine ex_l (fun _ kk => e_ist (M := mX9_init) (w := 606) (j := 1) dX9_init_68 (by omega) rfl kn_1 (by omega) (by omega) kk) ?_
  refine ex_l (fun _ kk => f_aload_n (M := mX9_init) 70 dX9_init_69 rfl rfl kk) ?_
  refine ex_l (fun _ kk => e_getR (M := mX9_init) dX9_init_70 fl_9007 (x_kk rfl) (by omega) rfl (by repeat (first | rw [x_up_self] | rw [x_up_ne _ _ (by omega)])) kk) ?_
  refine ex_l (fun _ kk => f_iconst (M := mX9_init) 74 dX9_init_73 ki_2 rfl kk) ?_
  refine ex_l (fun _ kk => f_iconst (M := mX9_init) 75 dX9_init_74 ki_1 rfl kk) ?_
  refine ex_l (fun _ kk => e_ist (M := mX9_init) (w := 606) (j := 2) dX9_init_75 (by omega) rfl kn_2 (by omega) (by omega) kk) ?_
  refine ⟨_, _, _, e_rv (M := mX9_init) dX9_init_76 rfl (x_kk rfl) (x_kk rfl) rfl, ?_⟩
  refine ⟨fun q hq => ⟨?_, ?_, ?_⟩, ?_, ?_, ?_, ?_, ?_, ?_, ?_, ?_, ?_, ?_, ?_⟩
  · repeat (first | rw [x_up_self] | rw [x_up_ne _ _ (by omega)])
  · repeat (first | rw [x_up_self] | rw [x_up_ne _ _ (by omega)])
  · repeat (first | rw [x_up_self] | rw [x_up_ne _ _ (by omega)])
  · unfold y_i; repeat (first | rw [x_up_self] | rw [x_up_ne _ _ (by omega)])
  · repeat (first | rw [x_up_self] | rw [x_up_ne _ _ (by omega)])
  · repeat (first | rw [x_up_self] | rw [x_up_ne _ _ (by omega)])
  · repeat (first | rw [x_up_self] | rw [x_up_ne _ _ (by omega)])
  · repeat (first | rw [x_up_self] | rw [x_up_ne _ _ (by omega)])
  · repeat (first | rw [x_up_self] | rw [x_up_ne _ _ (by omega)])
  · repeat (first | rw [x_up_self] | rw [x_up_ne _ _ (by omega)])
  · repeat (first | rw [x_up_self] | rw [x_up_ne _ _ (by omega)])
  · repeat (first | rw [x_up_self] | rw [x_up_ne _ _ (by omega)])
  · repeat (first | rw [x_up_self] | rw [x_up_ne _ _ (by omega)])
  · repeat (first | rw [x_up_self] | rw [x_up_ne _ _ (by omega)])
end

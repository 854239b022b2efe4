/-! ===== the turning point of both (laid by wip/whole/src/q8.py) ===== -/
section
variable {X : x_X} {I : Nat → Nat → Int32} {L : Nat → Nat → Int64} {R : Nat → Nat → Option Nat} {N : Nat}
theorem k_growth {N β : Nat} {a : Nat → Int32} {b : Nat → Int64} (H : y_CS N I L R β a b) {s : Nat} (hs : s < 6) {q : Int32} : x_Cv X mX0_growth [.ref (β + 7), .int (Int32.ofNat s), .int q] (I, L, R) 233 (.inl (some (.int (sp_vol a s * (100 + q) / 100 - sp_vol a s))), (I, L, R), 233) := by
  have hR := h_R H
  have hβ := h_β H
  show x_Ev X mX0_growth 0 [some (.ref (β + 7)), some (.int (Int32.ofNat s)), some (.int q)] [] ((I, L, R), 233, 0, 0) _
  refine f_aload_n (M := mX0_growth) 1 dX0_growth_0 rfl rfl ?_
  refine e_getR (M := mX0_growth) dX0_growth_1 fl_9 (x_kk rfl) (sl_lt hβ 7 rfl) (sl_s hβ 7 rfl rfl) (wf_0_0 hR hβ) ?_
  refine f_iload_n (M := mX0_growth) 5 dX0_growth_4 rfl rfl ?_
  refine e_ild (M := mX0_growth) (w := 6) (j := s) dX0_growth_5 (sl_lt hβ 8 rfl) (sl_shp hβ 8 rfl) rfl (by omega) (by omega) ?_
  refine f_bipush (M := mX0_growth) 8 dX0_growth_6 kb_100 rfl ?_
  refine f_iload_n (M := mX0_growth) 9 dX0_growth_8 rfl rfl ?_
  refine f_iadd (M := mX0_growth) 10 dX0_growth_9 rfl ?_
  refine f_imul (M := mX0_growth) 11 dX0_growth_10 rfl ?_
  refine f_bipush (M := mX0_growth) 13 dX0_growth_11 kb_100 rfl ?_
  refine e_idiv (M := mX0_growth) dX0_growth_13 (by decide) ?_
  refine f_aload_n (M := mX0_growth) 15 dX0_growth_14 rfl rfl ?_
  refine e_getR (M := mX0_growth) dX0_growth_15 fl_9 (x_kk rfl) (sl_lt hβ 7 rfl) (sl_s hβ 7 rfl rfl) (wf_0_0 hR hβ) ?_
  refine f_iload_n (M := mX0_growth) 19 dX0_growth_18 rfl rfl ?_
  refine e_ild (M := mX0_growth) (w := 6) (j := s) dX0_growth_19 (sl_lt hβ 8 rfl) (sl_shp hβ 8 rfl) rfl (by omega) (by omega) ?_
  refine f_isub (M := mX0_growth) 21 dX0_growth_20 rfl ?_
  refine e_ri (M := mX0_growth) dX0_growth_21 rfl (x_kk rfl) (x_kk rfl) ?_
  exact r_i (by rw [(h_B H).1 s hs])
theorem k_goesBefore {N β : Nat} {a : Nat → Int32} {b : Nat → Int64} (H : y_CS N I L R β a b) {q j : Nat} (hq : q < 8) (hj : j < 8) {v : Int64} : x_Cv X mX0_goesBefore [.ref (β + 7), .int (Int32.ofNat q), .int (Int32.ofNat j), .long v] (I, L, R) 233 (.inl (some (.int (x_b (0 < v ∨ (v = 0 ∧ a (224 + 8 * q + 7) < a (224 + 8 * j + 7)))))), (I, L, R), 233) := by
  have e := c_X0_goesBefore (X := X) (L := L) (I := I) (v := v) (h_R H) (h_β H) hq hj
  rw [(h_B H).2.2.2.1 q hq, (h_B H).2.2.2.1 j hj] at e
  exact e
theorem l_X0_turningChange {N β : Nat} {a : Nat → Int32} {b : Nat → Int64} (H : y_CS N I L R β a b) {Ns w o s : Nat} (hw : w < 8) (ho : o < 8) (hs : s < 6) : ∀ d k, k + d = 101 → 1 ≤ k → x_Ev X mX0_turningChange 32 [some (.ref (β + 7)), some (.int (Int32.ofNat w)), some (.int (Int32.ofNat o)), some (.int (Int32.ofNat s)), some (.long (sp_val a o (-1) 100 Ns - sp_val a w (-1) 100 Ns)), none, some (.long ((a (224 + 8 * o + s) - a (224 + 8 * w + s)).toInt64)), none, some (.int (Int32.ofNat k))] [] ((I, L, R), 233, 0, 0) (.inl (some (.int (y_qr (y_sch (fun j => sp_tb a w o s Ns (y_qj j)) (2 * d) (2 * (k - 1)))))), (I, L, R), 233) := by
  have hR := h_R H
  have hβ := h_β H
  intro d
  induction d with
  | zero =>
    intro k hd he
    obtain rfl : 101 = k := by omega
    refine f_iload (M := mX0_turningChange) 34 dX0_turningChange_32 rfl rfl ?_
    refine f_bipush (M := mX0_turningChange) 36 dX0_turningChange_34 kb_100 rfl ?_
    refine e_icmp_gtT (M := mX0_turningChange) 99 dX0_turningChange_36 rfl (by decide) ?_
    refine f_iconst (M := mX0_turningChange) 100 dX0_turningChange_99 ki_0 rfl ?_
    refine e_ri (M := mX0_turningChange) dX0_turningChange_100 rfl (x_kk rfl) (x_kk rfl) ?_
    exact r_i rfl
  | succ d ih =>
    intro k hd he
    refine f_iload (M := mX0_turningChange) 34 dX0_turningChange_32 rfl rfl ?_
    refine f_bipush (M := mX0_turningChange) 36 dX0_turningChange_34 kb_100 rfl ?_
    refine e_icmp_gtF (M := mX0_turningChange) 99 dX0_turningChange_36 rfl (by rw [kn_100, n_lt (by omega) (by omega)]; omega) ?_
    refine f_aload_n (M := mX0_turningChange) 40 dX0_turningChange_39 rfl rfl ?_
    refine f_iload_n (M := mX0_turningChange) 41 dX0_turningChange_40 rfl rfl ?_
    refine f_iload_n (M := mX0_turningChange) 42 dX0_turningChange_41 rfl rfl ?_
    refine f_lload (M := mX0_turningChange) 44 dX0_turningChange_42 rfl rfl ?_
    refine f_lload (M := mX0_turningChange) 46 dX0_turningChange_44 rfl rfl ?_
    refine f_aload_n (M := mX0_turningChange) 47 dX0_turningChange_46 rfl rfl ?_
    refine f_iload_n (M := mX0_turningChange) 48 dX0_turningChange_47 rfl rfl ?_
    refine f_iload (M := mX0_turningChange) 50 dX0_turningChange_48 rfl rfl ?_
    refine f_ineg (M := mX0_turningChange) 51 dX0_turningChange_50 rfl ?_
    refine e_cV (M := mX0_turningChange) [_, _, _, _, _, _] 0 0 dX0_turningChange_51 pa_107 pb_107 cc_107 rfl rfl rfl rfl rfl (x_kk rfl) (x_kk rfl) (x_rcvOK (sl_lt hβ 7 rfl) (sl_s hβ 7 rfl rfl) rfl) (k_growth H hs) rfl ?_
    refine f_i2l (M := mX0_turningChange) 55 dX0_turningChange_54 rfl ?_
    refine f_lmul (M := mX0_turningChange) 56 dX0_turningChange_55 rfl ?_
    refine f_ladd (M := mX0_turningChange) 57 dX0_turningChange_56 rfl ?_
    refine e_cV (M := mX0_turningChange) [_] 0 0 dX0_turningChange_57 pa_86 pb_86 cc_86 rfl rfl rfl rfl rfl (x_kk rfl) (x_kk rfl) (x_rcvOK (sl_lt hβ 7 rfl) (sl_s hβ 7 rfl rfl) rfl) (k_goesBefore H ho hw) rfl ?_
    refine e_if_eq (M := mX0_turningChange) (t := 67) dX0_turningChange_60 rfl (fun h1 => ?_) (fun h1 => ?_)
    · refine f_aload_n (M := mX0_turningChange) 68 dX0_turningChange_67 rfl rfl ?_
      refine f_iload_n (M := mX0_turningChange) 69 dX0_turningChange_68 rfl rfl ?_
      refine f_iload_n (M := mX0_turningChange) 70 dX0_turningChange_69 rfl rfl ?_
      refine f_lload (M := mX0_turningChange) 72 dX0_turningChange_70 rfl rfl ?_
      refine f_lload (M := mX0_turningChange) 74 dX0_turningChange_72 rfl rfl ?_
      refine f_aload_n (M := mX0_turningChange) 75 dX0_turningChange_74 rfl rfl ?_
      refine f_iload_n (M := mX0_turningChange) 76 dX0_turningChange_75 rfl rfl ?_
      refine f_iload (M := mX0_turningChange) 78 dX0_turningChange_76 rfl rfl ?_
      refine e_cV (M := mX0_turningChange) [_, _, _, _, _, _] 0 0 dX0_turningChange_78 pa_107 pb_107 cc_107 rfl rfl rfl rfl rfl (x_kk rfl) (x_kk rfl) (x_rcvOK (sl_lt hβ 7 rfl) (sl_s hβ 7 rfl rfl) rfl) (k_growth H hs) rfl ?_
      refine f_i2l (M := mX0_turningChange) 82 dX0_turningChange_81 rfl ?_
      refine f_lmul (M := mX0_turningChange) 83 dX0_turningChange_82 rfl ?_
      refine f_ladd (M := mX0_turningChange) 84 dX0_turningChange_83 rfl ?_
      refine e_cV (M := mX0_turningChange) [_] 0 0 dX0_turningChange_84 pa_86 pb_86 cc_86 rfl rfl rfl rfl rfl (x_kk rfl) (x_kk rfl) (x_rcvOK (sl_lt hβ 7 rfl) (sl_s hβ 7 rfl rfl) rfl) (k_goesBefore H ho hw) rfl ?_
      refine e_if_eq (M := mX0_turningChange) (t := 93) dX0_turningChange_87 rfl (fun h2 => ?_) (fun h2 => ?_)
      · refine f_iinc (M := mX0_turningChange) (ls' := [_, _, _, _, _, _, _, _, _]) 96 dX0_turningChange_93 ki_1 rfl rfl rfl rfl ?_
        refine f_goto (M := mX0_turningChange) 32 dX0_turningChange_96 rfl ?_
        rw [n_inc (s := k), sch_2, if_neg (show ¬ sp_tb a w o s Ns (y_qj (2 * (k - 1))) by rw [qj_e he]; exact x_bF h1), if_neg (show ¬ sp_tb a w o s Ns (y_qj (2 * (k - 1) + 1)) by rw [qj_o he]; exact x_bF h2)]; have ih1 := ih (k + 1) (by omega) (by omega); rw [show 2 * (k + 1 - 1) = 2 * (k - 1) + 2 by omega] at ih1; exact ih1
      · refine f_iload (M := mX0_turningChange) 92 dX0_turningChange_90 rfl rfl ?_
        refine e_ri (M := mX0_turningChange) dX0_turningChange_92 rfl (x_kk rfl) (x_kk rfl) ?_
        exact r_i (by rw [sch_2, if_neg (show ¬ sp_tb a w o s Ns (y_qj (2 * (k - 1))) by rw [qj_e he]; exact x_bF h1), if_pos (show sp_tb a w o s Ns (y_qj (2 * (k - 1) + 1)) by rw [qj_o he]; exact x_bT h2)]; unfold y_qr; rw [if_pos (by omega), qj_o he])
    · refine f_iload (M := mX0_turningChange) 65 dX0_turningChange_63 rfl rfl ?_
      refine f_ineg (M := mX0_turningChange) 66 dX0_turningChange_65 rfl ?_
      refine e_ri (M := mX0_turningChange) dX0_turningChange_66 rfl (x_kk rfl) (x_kk rfl) ?_
      exact r_i (by rw [sch_2, if_pos (show sp_tb a w o s Ns (y_qj (2 * (k - 1))) by rw [qj_e he]; exact x_bT h1)]; unfold y_qr; rw [if_pos (by omega), qj_e he])
theorem k_turningChange {N β : Nat} {a : Nat → Int32} {b : Nat → Int64} (H : y_CS N I L R β a b) {Ns : Nat} (hNs : Ns ≤ 6) (hn : a 8 = Int32.ofNat Ns) {w o s : Nat} (hw : w < 8) (ho : o < 8) (hs : s < 6) : x_Cv X mX0_turningChange [.ref (β + 7), .int (Int32.ofNat w), .int (Int32.ofNat o), .int (Int32.ofNat s)] (I, L, R) 233 (.inl (some (.int (y_qr (y_sch (fun j => sp_tb a w o s Ns (y_qj j)) 200 0)))), (I, L, R), 233) := by
  have hR := h_R H
  have hβ := h_β H
  show x_Ev X mX0_turningChange 0 [some (.ref (β + 7)), some (.int (Int32.ofNat w)), some (.int (Int32.ofNat o)), some (.int (Int32.ofNat s)), none, none, none, none, none] [] ((I, L, R), 233, 0, 0) _
  refine f_aload_n (M := mX0_turningChange) 1 dX0_turningChange_0 rfl rfl ?_
  refine f_iload_n (M := mX0_turningChange) 2 dX0_turningChange_1 rfl rfl ?_
  refine e_cV (M := mX0_turningChange) [_] 0 0 dX0_turningChange_2 pa_57 pb_57 cc_57 rfl rfl rfl rfl rfl (x_kk rfl) (x_kk rfl) (x_rcvOK (sl_lt hβ 7 rfl) (sl_s hβ 7 rfl rfl) rfl) (k_valueOf H ho hNs hn) rfl ?_
  refine f_aload_n (M := mX0_turningChange) 6 dX0_turningChange_5 rfl rfl ?_
  refine f_iload_n (M := mX0_turningChange) 7 dX0_turningChange_6 rfl rfl ?_
  refine e_cV (M := mX0_turningChange) [_, _] 0 0 dX0_turningChange_7 pa_57 pb_57 cc_57 rfl rfl rfl rfl rfl (x_kk rfl) (x_kk rfl) (x_rcvOK (sl_lt hβ 7 rfl) (sl_s hβ 7 rfl rfl) rfl) (k_valueOf H hw hNs hn) rfl ?_
  refine f_lsub (M := mX0_turningChange) 11 dX0_turningChange_10 rfl ?_
  refine f_lstore (M := mX0_turningChange) (ls' := [_, _, _, _, _, _, _, _, _]) 13 dX0_turningChange_11 rfl rfl rfl ?_
  refine f_aload_n (M := mX0_turningChange) 14 dX0_turningChange_13 rfl rfl ?_
  refine f_iload_n (M := mX0_turningChange) 15 dX0_turningChange_14 rfl rfl ?_
  refine f_iload_n (M := mX0_turningChange) 16 dX0_turningChange_15 rfl rfl ?_
  refine e_cV (M := mX0_turningChange) [_] 0 0 dX0_turningChange_16 pa_45 pb_45 cc_45 rfl rfl rfl rfl rfl (x_kk rfl) (x_kk rfl) (x_rcvOK (sl_lt hβ 7 rfl) (sl_s hβ 7 rfl rfl) rfl) (k_rateOf H ho hs) rfl ?_
  refine f_aload_n (M := mX0_turningChange) 20 dX0_turningChange_19 rfl rfl ?_
  refine f_iload_n (M := mX0_turningChange) 21 dX0_turningChange_20 rfl rfl ?_
  refine f_iload_n (M := mX0_turningChange) 22 dX0_turningChange_21 rfl rfl ?_
  refine e_cV (M := mX0_turningChange) [_, _] 0 0 dX0_turningChange_22 pa_45 pb_45 cc_45 rfl rfl rfl rfl rfl (x_kk rfl) (x_kk rfl) (x_rcvOK (sl_lt hβ 7 rfl) (sl_s hβ 7 rfl rfl) rfl) (k_rateOf H hw hs) rfl ?_
  refine f_isub (M := mX0_turningChange) 26 dX0_turningChange_25 rfl ?_
  refine f_i2l (M := mX0_turningChange) 27 dX0_turningChange_26 rfl ?_
  refine f_lstore (M := mX0_turningChange) (ls' := [_, _, _, _, _, _, _, _, _]) 29 dX0_turningChange_27 rfl rfl rfl ?_
  refine f_iconst (M := mX0_turningChange) 30 dX0_turningChange_29 ki_1 rfl ?_
  refine f_istore (M := mX0_turningChange) (ls' := [_, _, _, _, _, _, _, _, _]) 32 dX0_turningChange_30 rfl rfl rfl ?_
  exact l_X0_turningChange H hw ho hs 100 1 (by omega) (by omega)
theorem k_isLessChange {β : Nat} (hβ : x_sl β) {x y : Int32} : x_Cv X mX0_isLessChange [.ref (β + 7), .int x, .int y] (I, L, R) 233 (.inl (some (.int (x_b ((if 0 ≤ x then x else -x) < (if 0 ≤ y then y else -y) ∨ ((if 0 ≤ x then x else -x) = (if 0 ≤ y then y else -y) ∧ x < y))))), (I, L, R), 233) := by
  show x_Ev X mX0_isLessChange 0 [some (.ref (β + 7)), some (.int x), some (.int y), none, none] [] ((I, L, R), 233, 0, 0) _
  refine f_iload_n (M := mX0_isLessChange) 1 dX0_isLessChange_0 rfl rfl ?_
  refine e_cS (M := mX0_isLessChange) [_] 0 0 dX0_isLessChange_1 pa_101 cc_101 rfl rfl rfl rfl rfl (x_kk rfl) (x_kk rfl) rfl (c_J9_abs_0f7a4) rfl ?_
  refine f_istore_n (M := mX0_isLessChange) (ls' := [_, _, _, _, _]) 5 dX0_isLessChange_4 rfl rfl rfl ?_
  refine f_iload_n (M := mX0_isLessChange) 6 dX0_isLessChange_5 rfl rfl ?_
  refine e_cS (M := mX0_isLessChange) [_] 0 0 dX0_isLessChange_6 pa_101 cc_101 rfl rfl rfl rfl rfl (x_kk rfl) (x_kk rfl) rfl (c_J9_abs_0f7a4) rfl ?_
  refine f_istore (M := mX0_isLessChange) (ls' := [_, _, _, _, _]) 11 dX0_isLessChange_9 rfl rfl rfl ?_
  refine f_iload_n (M := mX0_isLessChange) 12 dX0_isLessChange_11 rfl rfl ?_
  refine f_iload (M := mX0_isLessChange) 14 dX0_isLessChange_12 rfl rfl ?_
  refine e_icmp_lt (M := mX0_isLessChange) (t := 28) dX0_isLessChange_14 rfl (fun h1 => ?_) (fun h1 => ?_)
  · refine f_iconst (M := mX0_isLessChange) 29 dX0_isLessChange_28 ki_1 rfl ?_
    refine f_goto (M := mX0_isLessChange) 33 dX0_isLessChange_29 rfl ?_
    refine e_rb (M := mX0_isLessChange) dX0_isLessChange_33 rfl (x_kk rfl) (x_kk rfl) (by decide) ?_
    exact r_b1 (Or.inl h1)
  · refine f_iload_n (M := mX0_isLessChange) 18 dX0_isLessChange_17 rfl rfl ?_
    refine f_iload (M := mX0_isLessChange) 20 dX0_isLessChange_18 rfl rfl ?_
    refine e_icmp_ne (M := mX0_isLessChange) (t := 32) dX0_isLessChange_20 rfl (fun h2 => ?_) (fun h2 => ?_)
    · refine f_iconst (M := mX0_isLessChange) 33 dX0_isLessChange_32 ki_0 rfl ?_
      refine e_rb (M := mX0_isLessChange) dX0_isLessChange_33 rfl (x_kk rfl) (x_kk rfl) (by decide) ?_
      exact r_b0 (fun z => z.elim h1 (fun y => h2 y.1))
    · refine f_iload_n (M := mX0_isLessChange) 24 dX0_isLessChange_23 rfl rfl ?_
      refine f_iload_n (M := mX0_isLessChange) 25 dX0_isLessChange_24 rfl rfl ?_
      refine e_icmp_ge (M := mX0_isLessChange) (t := 32) dX0_isLessChange_25 rfl (fun h3 => ?_) (fun h3 => ?_)
      · refine f_iconst (M := mX0_isLessChange) 33 dX0_isLessChange_32 ki_0 rfl ?_
        refine e_rb (M := mX0_isLessChange) dX0_isLessChange_33 rfl (x_kk rfl) (x_kk rfl) (by decide) ?_
        exact r_b0 (fun z => z.elim h1 (fun y => absurd y.2 (i_nlt.mpr h3)))
      · refine f_iconst (M := mX0_isLessChange) 29 dX0_isLessChange_28 ki_1 rfl ?_
        refine f_goto (M := mX0_isLessChange) 33 dX0_isLessChange_29 rfl ?_
        refine e_rb (M := mX0_isLessChange) dX0_isLessChange_33 rfl (x_kk rfl) (x_kk rfl) (by decide) ?_
        exact r_b1 (Or.inr ⟨x_dn h2, i_nle.mp h3⟩)
theorem l_X0_leastTurningChange {N β : Nat} {a : Nat → Int32} {b : Nat → Int64} (H : y_CS N I L R β a b) {Ns : Nat} (hNs : Ns ≤ 6) (hn : a 8 = Int32.ofNat Ns) {w s : Nat} (hw : w < 8) (hs : s < 6) {w6 : Option Value} : ∀ d k, k + d = 8 → x_Ev X mX0_leastTurningChange 6 [some (.ref (β + 7)), some (.int (Int32.ofNat w)), some (.int (Int32.ofNat s)), some (.ref (β + 1)), some (.int (y_qr (y_mn (fun o => y_sch (fun j => sp_tb a w o s Ns (y_qj j)) 200 0) (fun o => ¬ o = w ∧ sp_prob a o Ns = 0) k))), some (.int (Int32.ofNat k)), w6] [] ((I, L, R), 233, 0, 0) (.inl (some (.int (y_qr (y_mn (fun o => y_sch (fun j => sp_tb a w o s Ns (y_qj j)) 200 0) (fun o => ¬ o = w ∧ sp_prob a o Ns = 0) 8)))), (I, L, R), 233) := by
  have hR := h_R H
  have hβ := h_β H
  intro d
  induction d generalizing w6 with
  | zero =>
    intro k hd
    obtain rfl : 8 = k := by omega
    refine f_iload (M := mX0_leastTurningChange) 8 dX0_leastTurningChange_6 rfl rfl ?_
    refine f_bipush (M := mX0_leastTurningChange) 10 dX0_leastTurningChange_8 kb_8 rfl ?_
    refine e_icmp_geT (M := mX0_leastTurningChange) 70 dX0_leastTurningChange_10 rfl (by decide) ?_
    refine f_iload (M := mX0_leastTurningChange) 72 dX0_leastTurningChange_70 rfl rfl ?_
    refine e_ri (M := mX0_leastTurningChange) dX0_leastTurningChange_72 rfl (x_kk rfl) (x_kk rfl) ?_
    rfl
  | succ d ih =>
    intro k hd
    have mk := (mn_sp (J := (fun o => y_sch (fun j => sp_tb a w o s Ns (y_qj j)) 200 0)) (f := (fun o => ¬ o = w ∧ sp_prob a o Ns = 0)) k).1
    have sk := (sch_sp (C := fun j => sp_tb a w k s Ns (y_qj j)) 200 0).2.1
    have kt := k_turningChange (X := X) H hNs hn hw (show k < 8 by omega) hs
    by_cases hj : (y_sch (fun j => sp_tb a w k s Ns (y_qj j)) 200 0) < 200
    · rw [show y_qr (y_sch (fun j => sp_tb a w k s Ns (y_qj j)) 200 0) = y_qj (y_sch (fun j => sp_tb a w k s Ns (y_qj j)) 200 0) from if_pos hj] at kt
      by_cases hm : y_mn (fun o => y_sch (fun j => sp_tb a w o s Ns (y_qj j)) 200 0) (fun o => ¬ o = w ∧ sp_prob a o Ns = 0) k < 200
      · rw [show y_qr (y_mn (fun o => y_sch (fun j => sp_tb a w o s Ns (y_qj j)) 200 0) (fun o => ¬ o = w ∧ sp_prob a o Ns = 0) k) = y_qj (y_mn (fun o => y_sch (fun j => sp_tb a w o s Ns (y_qj j)) 200 0) (fun o => ¬ o = w ∧ sp_prob a o Ns = 0) k) from if_pos hm]
        refine f_iload (M := mX0_leastTurningChange) 8 dX0_leastTurningChange_6 rfl rfl ?_
        refine f_bipush (M := mX0_leastTurningChange) 10 dX0_leastTurningChange_8 kb_8 rfl ?_
        refine e_icmp_geF (M := mX0_leastTurningChange) 70 dX0_leastTurningChange_10 rfl (by rw [kn_8, n_le (by omega) (by omega)]; omega) ?_
        refine f_iload (M := mX0_leastTurningChange) 15 dX0_leastTurningChange_13 rfl rfl ?_
        refine f_iload_n (M := mX0_leastTurningChange) 16 dX0_leastTurningChange_15 rfl rfl ?_
        refine e_icmp_eq (M := mX0_leastTurningChange) (t := 64) dX0_leastTurningChange_16 rfl (fun h0 => ?_) (fun h0 => ?_)
        · refine f_iinc (M := mX0_leastTurningChange) (ls' := [_, _, _, _, _, _, _]) 67 dX0_leastTurningChange_64 ki_1 rfl rfl rfl rfl ?_
          refine f_goto (M := mX0_leastTurningChange) 6 dX0_leastTurningChange_67 rfl ?_
          rw [n_inc (s := k)]; have ih1 := fun w6 => ih (w6 := w6) (k + 1) (by omega); rw [show y_mn (fun o => y_sch (fun j => sp_tb a w o s Ns (y_qj j)) 200 0) (fun o => ¬ o = w ∧ sp_prob a o Ns = 0) (k + 1) = _ from if_neg (fun z => z.1.1 ((n_eq (by omega) (by omega)).mp h0)), show y_qr _ = y_qj _ from if_pos hm] at ih1; exact ih1 _
        · refine f_aload_n (M := mX0_leastTurningChange) 20 dX0_leastTurningChange_19 rfl rfl ?_
          refine f_iload (M := mX0_leastTurningChange) 22 dX0_leastTurningChange_20 rfl rfl ?_
          refine f_aload_n (M := mX0_leastTurningChange) 23 dX0_leastTurningChange_22 rfl rfl ?_
          refine e_cV (M := mX0_leastTurningChange) [_] 0 0 dX0_leastTurningChange_23 pa_82 pb_82 cc_82 rfl rfl rfl rfl rfl (x_kk rfl) (x_kk rfl) (x_rcvOK (sl_lt hβ 7 rfl) (sl_s hβ 7 rfl rfl) rfl) (k_isValid H (by omega) hNs hn) rfl ?_
          refine e_if_eq (M := mX0_leastTurningChange) (t := 64) dX0_leastTurningChange_26 rfl (fun h1 => ?_) (fun h1 => ?_)
          · refine f_iinc (M := mX0_leastTurningChange) (ls' := [_, _, _, _, _, _, _]) 67 dX0_leastTurningChange_64 ki_1 rfl rfl rfl rfl ?_
            refine f_goto (M := mX0_leastTurningChange) 6 dX0_leastTurningChange_67 rfl ?_
            rw [n_inc (s := k)]; have ih1 := fun w6 => ih (w6 := w6) (k + 1) (by omega); rw [show y_mn (fun o => y_sch (fun j => sp_tb a w o s Ns (y_qj j)) 200 0) (fun o => ¬ o = w ∧ sp_prob a o Ns = 0) (k + 1) = _ from if_neg (fun z => x_bF h1 z.1.2), show y_qr _ = y_qj _ from if_pos hm] at ih1; exact ih1 _
          · refine f_aload_n (M := mX0_leastTurningChange) 30 dX0_leastTurningChange_29 rfl rfl ?_
            refine f_iload_n (M := mX0_leastTurningChange) 31 dX0_leastTurningChange_30 rfl rfl ?_
            refine f_iload (M := mX0_leastTurningChange) 33 dX0_leastTurningChange_31 rfl rfl ?_
            refine f_iload_n (M := mX0_leastTurningChange) 34 dX0_leastTurningChange_33 rfl rfl ?_
            refine e_cV (M := mX0_leastTurningChange) [_] 0 0 dX0_leastTurningChange_34 pa_94 pb_94 cc_94 rfl rfl rfl rfl rfl (x_kk rfl) (x_kk rfl) (x_rcvOK (sl_lt hβ 7 rfl) (sl_s hβ 7 rfl rfl) rfl) (kt) rfl ?_
            refine f_istore (M := mX0_leastTurningChange) (ls' := [_, _, _, _, _, _, _]) 39 dX0_leastTurningChange_37 rfl rfl rfl ?_
            refine f_iload (M := mX0_leastTurningChange) 41 dX0_leastTurningChange_39 rfl rfl ?_
            refine e_if_eqF (M := mX0_leastTurningChange) 64 dX0_leastTurningChange_41 rfl (qj_0 hj) ?_
            refine f_iload (M := mX0_leastTurningChange) 46 dX0_leastTurningChange_44 rfl rfl ?_
            refine e_if_eqF (M := mX0_leastTurningChange) 60 dX0_leastTurningChange_46 rfl (qj_0 hm) ?_
            refine f_aload_n (M := mX0_leastTurningChange) 50 dX0_leastTurningChange_49 rfl rfl ?_
            refine f_iload (M := mX0_leastTurningChange) 52 dX0_leastTurningChange_50 rfl rfl ?_
            refine f_iload (M := mX0_leastTurningChange) 54 dX0_leastTurningChange_52 rfl rfl ?_
            refine e_cV (M := mX0_leastTurningChange) [_] 0 0 dX0_leastTurningChange_54 pa_98 pb_98 cc_98 rfl rfl rfl rfl rfl (x_kk rfl) (x_kk rfl) (x_rcvOK (sl_lt hβ 7 rfl) (sl_s hβ 7 rfl rfl) rfl) (k_isLessChange hβ) rfl ?_
            refine e_if_eq (M := mX0_leastTurningChange) (t := 64) dX0_leastTurningChange_57 rfl (fun h2 => ?_) (fun h2 => ?_)
            · refine f_iinc (M := mX0_leastTurningChange) (ls' := [_, _, _, _, _, _, _]) 67 dX0_leastTurningChange_64 ki_1 rfl rfl rfl rfl ?_
              refine f_goto (M := mX0_leastTurningChange) 6 dX0_leastTurningChange_67 rfl ?_
              rw [n_inc (s := k)]; have ih1 := fun w6 => ih (w6 := w6) (k + 1) (by omega); rw [show y_mn (fun o => y_sch (fun j => sp_tb a w o s Ns (y_qj j)) 200 0) (fun o => ¬ o = w ∧ sp_prob a o Ns = 0) (k + 1) = _ from if_neg (fun z => x_bF h2 ((less_j hj hm).mpr z.2)), show y_qr _ = y_qj _ from if_pos hm] at ih1; exact ih1 _
            · refine f_iload (M := mX0_leastTurningChange) 62 dX0_leastTurningChange_60 rfl rfl ?_
              refine f_istore (M := mX0_leastTurningChange) (ls' := [_, _, _, _, _, _, _]) 64 dX0_leastTurningChange_62 rfl rfl rfl ?_
              refine f_iinc (M := mX0_leastTurningChange) (ls' := [_, _, _, _, _, _, _]) 67 dX0_leastTurningChange_64 ki_1 rfl rfl rfl rfl ?_
              refine f_goto (M := mX0_leastTurningChange) 6 dX0_leastTurningChange_67 rfl ?_
              rw [n_inc (s := k)]; have ih1 := fun w6 => ih (w6 := w6) (k + 1) (by omega); rw [show y_mn (fun o => y_sch (fun j => sp_tb a w o s Ns (y_qj j)) 200 0) (fun o => ¬ o = w ∧ sp_prob a o Ns = 0) (k + 1) = _ from if_pos ⟨⟨fun z => h0 (by rw [z]), x_bT h1⟩, (less_j hj hm).mp (x_bT h2)⟩, show y_qr _ = y_qj _ from if_pos hj] at ih1; exact ih1 _
      · have hm2 : y_qr (y_mn (fun o => y_sch (fun j => sp_tb a w o s Ns (y_qj j)) 200 0) (fun o => ¬ o = w ∧ sp_prob a o Ns = 0) k) = 0 := if_neg hm
        rw [hm2]
        refine f_iload (M := mX0_leastTurningChange) 8 dX0_leastTurningChange_6 rfl rfl ?_
        refine f_bipush (M := mX0_leastTurningChange) 10 dX0_leastTurningChange_8 kb_8 rfl ?_
        refine e_icmp_geF (M := mX0_leastTurningChange) 70 dX0_leastTurningChange_10 rfl (by rw [kn_8, n_le (by omega) (by omega)]; omega) ?_
        refine f_iload (M := mX0_leastTurningChange) 15 dX0_leastTurningChange_13 rfl rfl ?_
        refine f_iload_n (M := mX0_leastTurningChange) 16 dX0_leastTurningChange_15 rfl rfl ?_
        refine e_icmp_eq (M := mX0_leastTurningChange) (t := 64) dX0_leastTurningChange_16 rfl (fun h0 => ?_) (fun h0 => ?_)
        · refine f_iinc (M := mX0_leastTurningChange) (ls' := [_, _, _, _, _, _, _]) 67 dX0_leastTurningChange_64 ki_1 rfl rfl rfl rfl ?_
          refine f_goto (M := mX0_leastTurningChange) 6 dX0_leastTurningChange_67 rfl ?_
          rw [n_inc (s := k)]; have ih1 := fun w6 => ih (w6 := w6) (k + 1) (by omega); rw [show y_mn (fun o => y_sch (fun j => sp_tb a w o s Ns (y_qj j)) 200 0) (fun o => ¬ o = w ∧ sp_prob a o Ns = 0) (k + 1) = _ from if_neg (fun z => z.1.1 ((n_eq (by omega) (by omega)).mp h0)), hm2] at ih1; exact ih1 _
        · refine f_aload_n (M := mX0_leastTurningChange) 20 dX0_leastTurningChange_19 rfl rfl ?_
          refine f_iload (M := mX0_leastTurningChange) 22 dX0_leastTurningChange_20 rfl rfl ?_
          refine f_aload_n (M := mX0_leastTurningChange) 23 dX0_leastTurningChange_22 rfl rfl ?_
          refine e_cV (M := mX0_leastTurningChange) [_] 0 0 dX0_leastTurningChange_23 pa_82 pb_82 cc_82 rfl rfl rfl rfl rfl (x_kk rfl) (x_kk rfl) (x_rcvOK (sl_lt hβ 7 rfl) (sl_s hβ 7 rfl rfl) rfl) (k_isValid H (by omega) hNs hn) rfl ?_
          refine e_if_eq (M := mX0_leastTurningChange) (t := 64) dX0_leastTurningChange_26 rfl (fun h1 => ?_) (fun h1 => ?_)
          · refine f_iinc (M := mX0_leastTurningChange) (ls' := [_, _, _, _, _, _, _]) 67 dX0_leastTurningChange_64 ki_1 rfl rfl rfl rfl ?_
            refine f_goto (M := mX0_leastTurningChange) 6 dX0_leastTurningChange_67 rfl ?_
            rw [n_inc (s := k)]; have ih1 := fun w6 => ih (w6 := w6) (k + 1) (by omega); rw [show y_mn (fun o => y_sch (fun j => sp_tb a w o s Ns (y_qj j)) 200 0) (fun o => ¬ o = w ∧ sp_prob a o Ns = 0) (k + 1) = _ from if_neg (fun z => x_bF h1 z.1.2), hm2] at ih1; exact ih1 _
          · refine f_aload_n (M := mX0_leastTurningChange) 30 dX0_leastTurningChange_29 rfl rfl ?_
            refine f_iload_n (M := mX0_leastTurningChange) 31 dX0_leastTurningChange_30 rfl rfl ?_
            refine f_iload (M := mX0_leastTurningChange) 33 dX0_leastTurningChange_31 rfl rfl ?_
            refine f_iload_n (M := mX0_leastTurningChange) 34 dX0_leastTurningChange_33 rfl rfl ?_
            refine e_cV (M := mX0_leastTurningChange) [_] 0 0 dX0_leastTurningChange_34 pa_94 pb_94 cc_94 rfl rfl rfl rfl rfl (x_kk rfl) (x_kk rfl) (x_rcvOK (sl_lt hβ 7 rfl) (sl_s hβ 7 rfl rfl) rfl) (kt) rfl ?_
            refine f_istore (M := mX0_leastTurningChange) (ls' := [_, _, _, _, _, _, _]) 39 dX0_leastTurningChange_37 rfl rfl rfl ?_
            refine f_iload (M := mX0_leastTurningChange) 41 dX0_leastTurningChange_39 rfl rfl ?_
            refine e_if_eqF (M := mX0_leastTurningChange) 64 dX0_leastTurningChange_41 rfl (qj_0 hj) ?_
            refine f_iload (M := mX0_leastTurningChange) 46 dX0_leastTurningChange_44 rfl rfl ?_
            refine e_if_eqT (M := mX0_leastTurningChange) 60 dX0_leastTurningChange_46 rfl rfl ?_
            refine f_iload (M := mX0_leastTurningChange) 62 dX0_leastTurningChange_60 rfl rfl ?_
            refine f_istore (M := mX0_leastTurningChange) (ls' := [_, _, _, _, _, _, _]) 64 dX0_leastTurningChange_62 rfl rfl rfl ?_
            refine f_iinc (M := mX0_leastTurningChange) (ls' := [_, _, _, _, _, _, _]) 67 dX0_leastTurningChange_64 ki_1 rfl rfl rfl rfl ?_
            refine f_goto (M := mX0_leastTurningChange) 6 dX0_leastTurningChange_67 rfl ?_
            rw [n_inc (s := k)]; have ih1 := fun w6 => ih (w6 := w6) (k + 1) (by omega); rw [show y_mn (fun o => y_sch (fun j => sp_tb a w o s Ns (y_qj j)) 200 0) (fun o => ¬ o = w ∧ sp_prob a o Ns = 0) (k + 1) = _ from if_pos ⟨⟨fun z => h0 (by rw [z]), x_bT h1⟩, (Nat.lt_of_lt_of_le hj (Nat.le_of_not_lt hm))⟩, show y_qr _ = y_qj _ from if_pos hj] at ih1; exact ih1 _
    · rw [show y_qr (y_sch (fun j => sp_tb a w k s Ns (y_qj j)) 200 0) = 0 from if_neg hj] at kt
      refine f_iload (M := mX0_leastTurningChange) 8 dX0_leastTurningChange_6 rfl rfl ?_
      refine f_bipush (M := mX0_leastTurningChange) 10 dX0_leastTurningChange_8 kb_8 rfl ?_
      refine e_icmp_geF (M := mX0_leastTurningChange) 70 dX0_leastTurningChange_10 rfl (by rw [kn_8, n_le (by omega) (by omega)]; omega) ?_
      refine f_iload (M := mX0_leastTurningChange) 15 dX0_leastTurningChange_13 rfl rfl ?_
      refine f_iload_n (M := mX0_leastTurningChange) 16 dX0_leastTurningChange_15 rfl rfl ?_
      refine e_icmp_eq (M := mX0_leastTurningChange) (t := 64) dX0_leastTurningChange_16 rfl (fun h0 => ?_) (fun h0 => ?_)
      · refine f_iinc (M := mX0_leastTurningChange) (ls' := [_, _, _, _, _, _, _]) 67 dX0_leastTurningChange_64 ki_1 rfl rfl rfl rfl ?_
        refine f_goto (M := mX0_leastTurningChange) 6 dX0_leastTurningChange_67 rfl ?_
        rw [n_inc (s := k)]; have ih1 := fun w6 => ih (w6 := w6) (k + 1) (by omega); rw [show y_mn (fun o => y_sch (fun j => sp_tb a w o s Ns (y_qj j)) 200 0) (fun o => ¬ o = w ∧ sp_prob a o Ns = 0) (k + 1) = _ from if_neg (fun z => z.1.1 ((n_eq (by omega) (by omega)).mp h0))] at ih1; exact ih1 _
      · refine f_aload_n (M := mX0_leastTurningChange) 20 dX0_leastTurningChange_19 rfl rfl ?_
        refine f_iload (M := mX0_leastTurningChange) 22 dX0_leastTurningChange_20 rfl rfl ?_
        refine f_aload_n (M := mX0_leastTurningChange) 23 dX0_leastTurningChange_22 rfl rfl ?_
        refine e_cV (M := mX0_leastTurningChange) [_] 0 0 dX0_leastTurningChange_23 pa_82 pb_82 cc_82 rfl rfl rfl rfl rfl (x_kk rfl) (x_kk rfl) (x_rcvOK (sl_lt hβ 7 rfl) (sl_s hβ 7 rfl rfl) rfl) (k_isValid H (by omega) hNs hn) rfl ?_
        refine e_if_eq (M := mX0_leastTurningChange) (t := 64) dX0_leastTurningChange_26 rfl (fun h1 => ?_) (fun h1 => ?_)
        · refine f_iinc (M := mX0_leastTurningChange) (ls' := [_, _, _, _, _, _, _]) 67 dX0_leastTurningChange_64 ki_1 rfl rfl rfl rfl ?_
          refine f_goto (M := mX0_leastTurningChange) 6 dX0_leastTurningChange_67 rfl ?_
          rw [n_inc (s := k)]; have ih1 := fun w6 => ih (w6 := w6) (k + 1) (by omega); rw [show y_mn (fun o => y_sch (fun j => sp_tb a w o s Ns (y_qj j)) 200 0) (fun o => ¬ o = w ∧ sp_prob a o Ns = 0) (k + 1) = _ from if_neg (fun z => x_bF h1 z.1.2)] at ih1; exact ih1 _
        · refine f_aload_n (M := mX0_leastTurningChange) 30 dX0_leastTurningChange_29 rfl rfl ?_
          refine f_iload_n (M := mX0_leastTurningChange) 31 dX0_leastTurningChange_30 rfl rfl ?_
          refine f_iload (M := mX0_leastTurningChange) 33 dX0_leastTurningChange_31 rfl rfl ?_
          refine f_iload_n (M := mX0_leastTurningChange) 34 dX0_leastTurningChange_33 rfl rfl ?_
          refine e_cV (M := mX0_leastTurningChange) [_] 0 0 dX0_leastTurningChange_34 pa_94 pb_94 cc_94 rfl rfl rfl rfl rfl (x_kk rfl) (x_kk rfl) (x_rcvOK (sl_lt hβ 7 rfl) (sl_s hβ 7 rfl rfl) rfl) (kt) rfl ?_
          refine f_istore (M := mX0_leastTurningChange) (ls' := [_, _, _, _, _, _, _]) 39 dX0_leastTurningChange_37 rfl rfl rfl ?_
          refine f_iload (M := mX0_leastTurningChange) 41 dX0_leastTurningChange_39 rfl rfl ?_
          refine e_if_eqT (M := mX0_leastTurningChange) 64 dX0_leastTurningChange_41 rfl rfl ?_
          refine f_iinc (M := mX0_leastTurningChange) (ls' := [_, _, _, _, _, _, _]) 67 dX0_leastTurningChange_64 ki_1 rfl rfl rfl rfl ?_
          refine f_goto (M := mX0_leastTurningChange) 6 dX0_leastTurningChange_67 rfl ?_
          rw [n_inc (s := k)]; have ih1 := fun w6 => ih (w6 := w6) (k + 1) (by omega); rw [show y_mn (fun o => y_sch (fun j => sp_tb a w o s Ns (y_qj j)) 200 0) (fun o => ¬ o = w ∧ sp_prob a o Ns = 0) (k + 1) = _ from if_neg (fun z => hj (Nat.lt_of_lt_of_le z.2 mk))] at ih1; exact ih1 _
theorem k_leastTurningChange {N β : Nat} {a : Nat → Int32} {b : Nat → Int64} (H : y_CS N I L R β a b) {Ns : Nat} (hNs : Ns ≤ 6) (hn : a 8 = Int32.ofNat Ns) {w s : Nat} (hw : w < 8) (hs : s < 6) : x_Cv X mX0_leastTurningChange [.ref (β + 7), .int (Int32.ofNat w), .int (Int32.ofNat s), .ref (β + 1)] (I, L, R) 233 (.inl (some (.int (y_qr (y_mn (fun o => y_sch (fun j => sp_tb a w o s Ns (y_qj j)) 200 0) (fun o => ¬ o = w ∧ sp_prob a o Ns = 0) 8)))), (I, L, R), 233) := by
  have hR := h_R H
  have hβ := h_β H
  show x_Ev X mX0_leastTurningChange 0 [some (.ref (β + 7)), some (.int (Int32.ofNat w)), some (.int (Int32.ofNat s)), some (.ref (β + 1)), none, none, none] [] ((I, L, R), 233, 0, 0) _
  refine f_iconst (M := mX0_leastTurningChange) 1 dX0_leastTurningChange_0 ki_0 rfl ?_
  refine f_istore (M := mX0_leastTurningChange) (ls' := [_, _, _, _, _, _, _]) 3 dX0_leastTurningChange_1 rfl rfl rfl ?_
  refine f_iconst (M := mX0_leastTurningChange) 4 dX0_leastTurningChange_3 ki_0 rfl ?_
  refine f_istore (M := mX0_leastTurningChange) (ls' := [_, _, _, _, _, _, _]) 6 dX0_leastTurningChange_4 rfl rfl rfl ?_
  exact l_X0_leastTurningChange H hNs hn hw hs 8 0 rfl
theorem tp_D {a : Nat → Int32} (hV : y_IV a) (hB : y_IB N a) {w s n : Nat} (hw : w < 8) (hn : n ≤ 6) (hs : s < n) (hf : sp_prob a w n = 0) {j : Nat} (hj : j < 200) : (¬ sp_win a (Int32.ofNat s) (100 + y_qj j) n 8 = some w) ↔ ∃ o, o < 8 ∧ (¬ o = w ∧ sp_prob a o n = 0) ∧ sp_tb a w o s n (y_qj j) := by
  have e := qj_i hj
  have b1 : -100 ≤ (y_qj j).toInt := by
    rw [e]
    by_cases p : j % 2 = 0
    · rw [if_pos p]; omega
    · rw [if_neg p]; omega
  have b2 : (y_qj j).toInt ≤ 100 := by
    rw [e]
    by_cases p : j % 2 = 0
    · rw [if_pos p]; omega
    · rw [if_neg p]; omega
  rw [bef_iff hB hw hf]
  constructor
  · intro h
    refine Decidable.byContradiction (fun g => h (fun o ho hne hfo hb => g ⟨o, ho, ⟨hne, hfo⟩, ?_⟩))
    exact (tb_iff hV hB hw ho hn hs b1 b2).mpr hb
  · rintro ⟨o, ho, ⟨hne, hfo⟩, ht⟩ h
    exact h o ho hne hfo ((tb_iff hV hB hw ho hn hs b1 b2).mp ht)
theorem tp_eq {a : Nat → Int32} (hV : y_IV a) (hB : y_IB N a) {w s Ns : Nat} (hw : w < 8) (hn : Ns ≤ 6) (hs : s < Ns) (hf : sp_prob a w Ns = 0) : y_mn (fun o => y_sch (fun j => sp_tb a w o s Ns (y_qj j)) 200 0) (fun o => ¬ o = w ∧ sp_prob a o Ns = 0) 8 = y_sch (fun j => ¬ sp_win a (Int32.ofNat s) (100 + y_qj j) Ns 8 = some w) 200 0 :=
  mn_eq (C := fun o j => sp_tb a w o s Ns (y_qj j)) (fun j hj => tp_D hV hB hw hn hs hf hj)
theorem win_v {a : Nat → Int32} {w Ns : Nat} {σ h : Int32} (hw : sp_win a σ h Ns 8 = some w) : w < 8 ∧ sp_prob a w Ns = 0 := by
  refine ⟨sp_fst_lt hw, ?_⟩
  have key : ∀ n, sp_win a σ h Ns n = some w → sp_prob a w Ns = 0 := by
    intro n
    induction n with
    | zero => intro z; cases z
    | succ n ih =>
      intro z
      unfold sp_win at z ih
      rw [sp_fst] at z
      cases hq : sp_fst (fun k => sp_prob a k Ns = 0) (fun k j => sp_bef a k j σ h Ns) n with
      | none =>
        rw [hq] at z
        dsimp only at z
        by_cases c : sp_prob a n Ns = 0
        · rw [if_pos c] at z; cases z; exact c
        · rw [if_neg c] at z; cases z
      | some i =>
        rw [hq] at z
        dsimp only at z
        by_cases c : sp_prob a n Ns = 0 ∧ sp_bef a n i σ h Ns
        · rw [if_pos c] at z; cases z; exact c.1
        · rw [if_neg c] at z; cases z; exact ih hq
  exact key 8 hw
theorem kf_turningPoint_2 {N β : Nat} {a : Nat → Int32} {b : Nat → Int64} (H : y_CS N I L R β a b) {Ns Np Nl Nm : Nat} (Z : y_Z a Ns Np Nl Nm) {s : Nat} (hs : s < Ns) (h1 : 1 < a 0 ∧ ¬ a 0 = 6) (h : sp_win a (-1) 100 Ns 8 = none) : x_Cv X mX8_turningPoint [.ref 0, .int (Int32.ofNat s)] (I, L, R) 233 (.inr 3, (I, L, R), 233) := by
  obtain ⟨hNs, hn, hNp, hp, hNl, hl, hNm, hmm⟩ := Z
  have hR := h_R H
  have hβ := h_β H
  have hS := h_S H
  show x_Ev X mX8_turningPoint 0 [some (.ref 0), some (.int (Int32.ofNat s)), none, none] [] ((I, L, R), 233, 0, 0) _
  refine f_aload_n (M := mX8_turningPoint) 1 dX8_turningPoint_0 rfl rfl ?_
  refine f_iload_n (M := mX8_turningPoint) 2 dX8_turningPoint_1 rfl rfl ?_
  refine e_cV (M := mX8_turningPoint) [_] 0 0 dX8_turningPoint_2 pa_8161 pb_8161 cc_8161 rfl rfl rfl rfl rfl (x_kk rfl) (x_kk rfl) rfl (k_isSpecies H) rfl ?_
  refine e_cS (M := mX8_turningPoint) [] 1 6 dX8_turningPoint_5 pa_8103 cc_8103 rfl rfl rfl rfl rfl (x_kk rfl) (x_kk rfl) rfl (c_X8_requireExisting (x_bn (in_ok hn (by omega) hs))) rfl ?_
  refine f_aload_n (M := mX8_turningPoint) 9 dX8_turningPoint_8 rfl rfl ?_
  refine e_getR (M := mX8_turningPoint) dX8_turningPoint_9 fl_8026 (x_kk rfl) (x_kk rfl) rfl hS ?_
  refine e_cV (M := mX8_turningPoint) [_] 1 6 dX8_turningPoint_12 pa_8195 pb_8195 cc_8195 rfl rfl rfl rfl rfl (x_kk rfl) (x_kk rfl) (x_rcvOK (sl_lt hβ 0 rfl) (sl_s hβ 0 rfl rfl) rfl) (k_hasOpenBids H) rfl ?_
  refine e_cS (M := mX8_turningPoint) [] 2 12 dX8_turningPoint_15 pa_8037 cc_8037 rfl rfl rfl rfl rfl (x_kk rfl) (x_kk rfl) rfl (c_X8_requireState (x_bn h1)) rfl ?_
  refine f_aload_n (M := mX8_turningPoint) 19 dX8_turningPoint_18 rfl rfl ?_
  refine e_getR (M := mX8_turningPoint) dX8_turningPoint_19 fl_8026 (x_kk rfl) (x_kk rfl) rfl hS ?_
  refine e_getR (M := mX8_turningPoint) dX8_turningPoint_22 fl_8148 (x_kk rfl) (sl_lt hβ 0 rfl) (sl_s hβ 0 rfl rfl) (wf_6_3 hR hβ) ?_
  refine f_aload_n (M := mX8_turningPoint) 26 dX8_turningPoint_25 rfl rfl ?_
  refine e_getR (M := mX8_turningPoint) dX8_turningPoint_26 fl_8026 (x_kk rfl) (x_kk rfl) rfl hS ?_
  refine e_getR (M := mX8_turningPoint) dX8_turningPoint_29 fl_8083 (x_kk rfl) (sl_lt hβ 0 rfl) (sl_s hβ 0 rfl rfl) (wf_6_1 hR hβ) ?_
  refine e_cV (M := mX8_turningPoint) [_] 2 12 dX8_turningPoint_32 pa_8208 pb_8208 cc_8208 rfl rfl rfl rfl rfl (x_kk rfl) (x_kk rfl) (x_rcvOK (sl_lt hβ 7 rfl) (sl_s hβ 7 rfl rfl) rfl) ((by have e := k_winner (X := X) H hNs hn; rw [h] at e; exact e)) rfl ?_
  refine f_istore_n (M := mX8_turningPoint) (ls' := [_, _, _, _]) 36 dX8_turningPoint_35 rfl rfl rfl ?_
  refine f_iload_n (M := mX8_turningPoint) 37 dX8_turningPoint_36 rfl rfl ?_
  refine f_iconst (M := mX8_turningPoint) 38 dX8_turningPoint_37 ki_m1 rfl ?_
  refine e_icmp_eqT (M := mX8_turningPoint) 45 dX8_turningPoint_38 rfl rfl ?_
  refine f_iconst (M := mX8_turningPoint) 46 dX8_turningPoint_45 ki_0 rfl ?_
  exact e_cSX (M := mX8_turningPoint) 3 18 dX8_turningPoint_46 pa_8211 cc_8211 rfl rfl rfl rfl rfl (x_kk rfl) (x_kk rfl) rfl (c_X8_requireFound_x rfl) rfl
theorem kf_turningPoint_3 {N β : Nat} {a : Nat → Int32} {b : Nat → Int64} (H : y_CS N I L R β a b) {Ns Np Nl Nm : Nat} (Z : y_Z a Ns Np Nl Nm) {s : Nat} (hs : s < Ns) (h1 : 1 < a 0 ∧ ¬ a 0 = 6) {w : Nat} (h : sp_win a (-1) 100 Ns 8 = some w) (g : ¬ (y_sch (fun j => ¬ sp_win a (Int32.ofNat s) (100 + y_qj j) Ns 8 = some w) 200 0) < 200) : x_Cv X mX8_turningPoint [.ref 0, .int (Int32.ofNat s)] (I, L, R) 233 (.inr 3, (I, L, R), 233) := by
  obtain ⟨hNs, hn, hNp, hp, hNl, hl, hNm, hmm⟩ := Z
  have hR := h_R H
  have hβ := h_β H
  have hS := h_S H
  show x_Ev X mX8_turningPoint 0 [some (.ref 0), some (.int (Int32.ofNat s)), none, none] [] ((I, L, R), 233, 0, 0) _
  refine f_aload_n (M := mX8_turningPoint) 1 dX8_turningPoint_0 rfl rfl ?_
  refine f_iload_n (M := mX8_turningPoint) 2 dX8_turningPoint_1 rfl rfl ?_
  refine e_cV (M := mX8_turningPoint) [_] 0 0 dX8_turningPoint_2 pa_8161 pb_8161 cc_8161 rfl rfl rfl rfl rfl (x_kk rfl) (x_kk rfl) rfl (k_isSpecies H) rfl ?_
  refine e_cS (M := mX8_turningPoint) [] 1 6 dX8_turningPoint_5 pa_8103 cc_8103 rfl rfl rfl rfl rfl (x_kk rfl) (x_kk rfl) rfl (c_X8_requireExisting (x_bn (in_ok hn (by omega) hs))) rfl ?_
  refine f_aload_n (M := mX8_turningPoint) 9 dX8_turningPoint_8 rfl rfl ?_
  refine e_getR (M := mX8_turningPoint) dX8_turningPoint_9 fl_8026 (x_kk rfl) (x_kk rfl) rfl hS ?_
  refine e_cV (M := mX8_turningPoint) [_] 1 6 dX8_turningPoint_12 pa_8195 pb_8195 cc_8195 rfl rfl rfl rfl rfl (x_kk rfl) (x_kk rfl) (x_rcvOK (sl_lt hβ 0 rfl) (sl_s hβ 0 rfl rfl) rfl) (k_hasOpenBids H) rfl ?_
  refine e_cS (M := mX8_turningPoint) [] 2 12 dX8_turningPoint_15 pa_8037 cc_8037 rfl rfl rfl rfl rfl (x_kk rfl) (x_kk rfl) rfl (c_X8_requireState (x_bn h1)) rfl ?_
  refine f_aload_n (M := mX8_turningPoint) 19 dX8_turningPoint_18 rfl rfl ?_
  refine e_getR (M := mX8_turningPoint) dX8_turningPoint_19 fl_8026 (x_kk rfl) (x_kk rfl) rfl hS ?_
  refine e_getR (M := mX8_turningPoint) dX8_turningPoint_22 fl_8148 (x_kk rfl) (sl_lt hβ 0 rfl) (sl_s hβ 0 rfl rfl) (wf_6_3 hR hβ) ?_
  refine f_aload_n (M := mX8_turningPoint) 26 dX8_turningPoint_25 rfl rfl ?_
  refine e_getR (M := mX8_turningPoint) dX8_turningPoint_26 fl_8026 (x_kk rfl) (x_kk rfl) rfl hS ?_
  refine e_getR (M := mX8_turningPoint) dX8_turningPoint_29 fl_8083 (x_kk rfl) (sl_lt hβ 0 rfl) (sl_s hβ 0 rfl rfl) (wf_6_1 hR hβ) ?_
  refine e_cV (M := mX8_turningPoint) [_] 2 12 dX8_turningPoint_32 pa_8208 pb_8208 cc_8208 rfl rfl rfl rfl rfl (x_kk rfl) (x_kk rfl) (x_rcvOK (sl_lt hβ 7 rfl) (sl_s hβ 7 rfl rfl) rfl) ((by have e := k_winner (X := X) H hNs hn; rw [h] at e; exact e)) rfl ?_
  refine f_istore_n (M := mX8_turningPoint) (ls' := [_, _, _, _]) 36 dX8_turningPoint_35 rfl rfl rfl ?_
  refine f_iload_n (M := mX8_turningPoint) 37 dX8_turningPoint_36 rfl rfl ?_
  refine f_iconst (M := mX8_turningPoint) 38 dX8_turningPoint_37 ki_m1 rfl ?_
  refine e_icmp_eqF (M := mX8_turningPoint) 45 dX8_turningPoint_38 rfl (n_ne1 (by have := (win_v h).1; omega)) ?_
  refine f_iconst (M := mX8_turningPoint) 42 dX8_turningPoint_41 ki_1 rfl ?_
  refine f_goto (M := mX8_turningPoint) 46 dX8_turningPoint_42 rfl ?_
  refine e_cS (M := mX8_turningPoint) [] 3 18 dX8_turningPoint_46 pa_8211 cc_8211 rfl rfl rfl rfl rfl (x_kk rfl) (x_kk rfl) rfl (c_X8_requireFound (by decide)) rfl ?_
  refine f_aload_n (M := mX8_turningPoint) 50 dX8_turningPoint_49 rfl rfl ?_
  refine e_getR (M := mX8_turningPoint) dX8_turningPoint_50 fl_8026 (x_kk rfl) (x_kk rfl) rfl hS ?_
  refine e_getR (M := mX8_turningPoint) dX8_turningPoint_53 fl_8148 (x_kk rfl) (sl_lt hβ 0 rfl) (sl_s hβ 0 rfl rfl) (wf_6_3 hR hβ) ?_
  refine f_iload_n (M := mX8_turningPoint) 57 dX8_turningPoint_56 rfl rfl ?_
  refine f_iload_n (M := mX8_turningPoint) 58 dX8_turningPoint_57 rfl rfl ?_
  refine f_aload_n (M := mX8_turningPoint) 59 dX8_turningPoint_58 rfl rfl ?_
  refine e_getR (M := mX8_turningPoint) dX8_turningPoint_59 fl_8026 (x_kk rfl) (x_kk rfl) rfl hS ?_
  refine e_getR (M := mX8_turningPoint) dX8_turningPoint_62 fl_8083 (x_kk rfl) (sl_lt hβ 0 rfl) (sl_s hβ 0 rfl rfl) (wf_6_1 hR hβ) ?_
  refine e_cV (M := mX8_turningPoint) [_] 3 18 dX8_turningPoint_65 pa_8214 pb_8214 cc_8214 rfl rfl rfl rfl rfl (x_kk rfl) (x_kk rfl) (x_rcvOK (sl_lt hβ 7 rfl) (sl_s hβ 7 rfl rfl) rfl) ((by have e := k_leastTurningChange (X := X) H hNs hn (win_v h).1 (show s < 6 by omega); rw [tp_eq (h_IV H) (h_IB H) (win_v h).1 hNs hs (win_v h).2, show y_qr _ = 0 from if_neg g] at e; exact e)) rfl ?_
  refine f_istore_n (M := mX8_turningPoint) (ls' := [_, _, _, _]) 69 dX8_turningPoint_68 rfl rfl rfl ?_
  refine f_iload_n (M := mX8_turningPoint) 70 dX8_turningPoint_69 rfl rfl ?_
  refine e_if_eqT (M := mX8_turningPoint) 77 dX8_turningPoint_70 rfl rfl ?_
  refine f_iconst (M := mX8_turningPoint) 78 dX8_turningPoint_77 ki_0 rfl ?_
  exact e_cSX (M := mX8_turningPoint) 4 24 dX8_turningPoint_78 pa_8211 cc_8211 rfl rfl rfl rfl rfl (x_kk rfl) (x_kk rfl) rfl (c_X8_requireFound_x rfl) rfl
theorem ko_turningPoint {N β : Nat} {a : Nat → Int32} {b : Nat → Int64} (H : y_CS N I L R β a b) {Ns Np Nl Nm : Nat} (Z : y_Z a Ns Np Nl Nm) {s : Nat} (hs : s < Ns) (h1 : 1 < a 0 ∧ ¬ a 0 = 6) {w : Nat} (h : sp_win a (-1) 100 Ns 8 = some w) (g : (y_sch (fun j => ¬ sp_win a (Int32.ofNat s) (100 + y_qj j) Ns 8 = some w) 200 0) < 200) : x_Cv X mX8_turningPoint [.ref 0, .int (Int32.ofNat s)] (I, L, R) 233 (.inl (some (.int (y_qj (y_sch (fun j => ¬ sp_win a (Int32.ofNat s) (100 + y_qj j) Ns 8 = some w) 200 0)))), (I, L, R), 233) := by
  obtain ⟨hNs, hn, hNp, hp, hNl, hl, hNm, hmm⟩ := Z
  have hR := h_R H
  have hβ := h_β H
  have hS := h_S H
  show x_Ev X mX8_turningPoint 0 [some (.ref 0), some (.int (Int32.ofNat s)), none, none] [] ((I, L, R), 233, 0, 0) _
  refine f_aload_n (M := mX8_turningPoint) 1 dX8_turningPoint_0 rfl rfl ?_
  refine f_iload_n (M := mX8_turningPoint) 2 dX8_turningPoint_1 rfl rfl ?_
  refine e_cV (M := mX8_turningPoint) [_] 0 0 dX8_turningPoint_2 pa_8161 pb_8161 cc_8161 rfl rfl rfl rfl rfl (x_kk rfl) (x_kk rfl) rfl (k_isSpecies H) rfl ?_
  refine e_cS (M := mX8_turningPoint) [] 1 6 dX8_turningPoint_5 pa_8103 cc_8103 rfl rfl rfl rfl rfl (x_kk rfl) (x_kk rfl) rfl (c_X8_requireExisting (x_bn (in_ok hn (by omega) hs))) rfl ?_
  refine f_aload_n (M := mX8_turningPoint) 9 dX8_turningPoint_8 rfl rfl ?_
  refine e_getR (M := mX8_turningPoint) dX8_turningPoint_9 fl_8026 (x_kk rfl) (x_kk rfl) rfl hS ?_
  refine e_cV (M := mX8_turningPoint) [_] 1 6 dX8_turningPoint_12 pa_8195 pb_8195 cc_8195 rfl rfl rfl rfl rfl (x_kk rfl) (x_kk rfl) (x_rcvOK (sl_lt hβ 0 rfl) (sl_s hβ 0 rfl rfl) rfl) (k_hasOpenBids H) rfl ?_
  refine e_cS (M := mX8_turningPoint) [] 2 12 dX8_turningPoint_15 pa_8037 cc_8037 rfl rfl rfl rfl rfl (x_kk rfl) (x_kk rfl) rfl (c_X8_requireState (x_bn h1)) rfl ?_
  refine f_aload_n (M := mX8_turningPoint) 19 dX8_turningPoint_18 rfl rfl ?_
  refine e_getR (M := mX8_turningPoint) dX8_turningPoint_19 fl_8026 (x_kk rfl) (x_kk rfl) rfl hS ?_
  refine e_getR (M := mX8_turningPoint) dX8_turningPoint_22 fl_8148 (x_kk rfl) (sl_lt hβ 0 rfl) (sl_s hβ 0 rfl rfl) (wf_6_3 hR hβ) ?_
  refine f_aload_n (M := mX8_turningPoint) 26 dX8_turningPoint_25 rfl rfl ?_
  refine e_getR (M := mX8_turningPoint) dX8_turningPoint_26 fl_8026 (x_kk rfl) (x_kk rfl) rfl hS ?_
  refine e_getR (M := mX8_turningPoint) dX8_turningPoint_29 fl_8083 (x_kk rfl) (sl_lt hβ 0 rfl) (sl_s hβ 0 rfl rfl) (wf_6_1 hR hβ) ?_
  refine e_cV (M := mX8_turningPoint) [_] 2 12 dX8_turningPoint_32 pa_8208 pb_8208 cc_8208 rfl rfl rfl rfl rfl (x_kk rfl) (x_kk rfl) (x_rcvOK (sl_lt hβ 7 rfl) (sl_s hβ 7 rfl rfl) rfl) ((by have e := k_winner (X := X) H hNs hn; rw [h] at e; exact e)) rfl ?_
  refine f_istore_n (M := mX8_turningPoint) (ls' := [_, _, _, _]) 36 dX8_turningPoint_35 rfl rfl rfl ?_
  refine f_iload_n (M := mX8_turningPoint) 37 dX8_turningPoint_36 rfl rfl ?_
  refine f_iconst (M := mX8_turningPoint) 38 dX8_turningPoint_37 ki_m1 rfl ?_
  refine e_icmp_eqF (M := mX8_turningPoint) 45 dX8_turningPoint_38 rfl (n_ne1 (by have := (win_v h).1; omega)) ?_
  refine f_iconst (M := mX8_turningPoint) 42 dX8_turningPoint_41 ki_1 rfl ?_
  refine f_goto (M := mX8_turningPoint) 46 dX8_turningPoint_42 rfl ?_
  refine e_cS (M := mX8_turningPoint) [] 3 18 dX8_turningPoint_46 pa_8211 cc_8211 rfl rfl rfl rfl rfl (x_kk rfl) (x_kk rfl) rfl (c_X8_requireFound (by decide)) rfl ?_
  refine f_aload_n (M := mX8_turningPoint) 50 dX8_turningPoint_49 rfl rfl ?_
  refine e_getR (M := mX8_turningPoint) dX8_turningPoint_50 fl_8026 (x_kk rfl) (x_kk rfl) rfl hS ?_
  refine e_getR (M := mX8_turningPoint) dX8_turningPoint_53 fl_8148 (x_kk rfl) (sl_lt hβ 0 rfl) (sl_s hβ 0 rfl rfl) (wf_6_3 hR hβ) ?_
  refine f_iload_n (M := mX8_turningPoint) 57 dX8_turningPoint_56 rfl rfl ?_
  refine f_iload_n (M := mX8_turningPoint) 58 dX8_turningPoint_57 rfl rfl ?_
  refine f_aload_n (M := mX8_turningPoint) 59 dX8_turningPoint_58 rfl rfl ?_
  refine e_getR (M := mX8_turningPoint) dX8_turningPoint_59 fl_8026 (x_kk rfl) (x_kk rfl) rfl hS ?_
  refine e_getR (M := mX8_turningPoint) dX8_turningPoint_62 fl_8083 (x_kk rfl) (sl_lt hβ 0 rfl) (sl_s hβ 0 rfl rfl) (wf_6_1 hR hβ) ?_
  refine e_cV (M := mX8_turningPoint) [_] 3 18 dX8_turningPoint_65 pa_8214 pb_8214 cc_8214 rfl rfl rfl rfl rfl (x_kk rfl) (x_kk rfl) (x_rcvOK (sl_lt hβ 7 rfl) (sl_s hβ 7 rfl rfl) rfl) ((by have e := k_leastTurningChange (X := X) H hNs hn (win_v h).1 (show s < 6 by omega); rw [tp_eq (h_IV H) (h_IB H) (win_v h).1 hNs hs (win_v h).2, show y_qr _ = y_qj _ from if_pos g] at e; exact e)) rfl ?_
  refine f_istore_n (M := mX8_turningPoint) (ls' := [_, _, _, _]) 69 dX8_turningPoint_68 rfl rfl rfl ?_
  refine f_iload_n (M := mX8_turningPoint) 70 dX8_turningPoint_69 rfl rfl ?_
  refine e_if_eqF (M := mX8_turningPoint) 77 dX8_turningPoint_70 rfl (qj_0 g) ?_
  refine f_iconst (M := mX8_turningPoint) 74 dX8_turningPoint_73 ki_1 rfl ?_
  refine f_goto (M := mX8_turningPoint) 78 dX8_turningPoint_74 rfl ?_
  refine e_cS (M := mX8_turningPoint) [] 4 24 dX8_turningPoint_78 pa_8211 cc_8211 rfl rfl rfl rfl rfl (x_kk rfl) (x_kk rfl) rfl (c_X8_requireFound (by decide)) rfl ?_
  refine f_iload_n (M := mX8_turningPoint) 82 dX8_turningPoint_81 rfl rfl ?_
  refine e_ri (M := mX8_turningPoint) dX8_turningPoint_82 rfl (x_kk rfl) (x_kk rfl) ?_
  rfl
def y_tpo (I : Nat → Nat → Int32) (L : Nat → Nat → Int64) (R : Nat → Nat → Option Nat) (J : Nat) : x_O × x_Mem × Nat := if J < 200 then (.inl (some (.int (y_qj J))), (I, L, R), 233) else (.inl (some (.int 0)), (x_tw I 3, L, R), 233)
theorem on_eq {W : Option Nat} (hW : ∀ j, W = some j → j < 8) {w : Nat} (hw : w < 8) : x_on W = Int32.ofNat w ↔ W = some w := by
  cases W with
  | none => exact ⟨fun z => absurd z.symm (n_ne1 (by omega)), fun z => by cases z⟩
  | some j =>
    have := hW j rfl
    show Int32.ofNat j = Int32.ofNat w ↔ _
    rw [n_eq (by omega) (by omega)]
    exact ⟨fun z => by rw [z], fun z => by cases z; rfl⟩
theorem l_X9_turningPoint (hR : x_wf R) {Ns : Nat} (hNs : Ns ≤ 6) (hn : I 226 8 = Int32.ofNat Ns) {w s : Nat} (hw : w < 8) (hs : s < 6) : ∀ d k, k + d = 101 → 1 ≤ k → x_Ev X mX9_turningPoint 47 [some (.ref 225), some (.int (Int32.ofNat s)), some (.int (Int32.ofNat w)), some (.int (Int32.ofNat k))] [] ((I, L, R), 233, 0, 0) (y_tpo I L R (y_sch (fun j => ¬ sp_win (I 226) (Int32.ofNat s) (100 + y_qj j) Ns 8 = some w) (2 * d) (2 * (k - 1)))) := by
  intro d
  induction d with
  | zero =>
    intro k hd he
    obtain rfl : 101 = k := by omega
    refine f_iload_n (M := mX9_turningPoint) 48 dX9_turningPoint_47 rfl rfl ?_
    refine f_bipush (M := mX9_turningPoint) 50 dX9_turningPoint_48 kb_100 rfl ?_
    refine e_icmp_gtT (M := mX9_turningPoint) 95 dX9_turningPoint_50 rfl (by decide) ?_
    refine f_aload_n (M := mX9_turningPoint) 96 dX9_turningPoint_95 rfl rfl ?_
    refine f_iconst (M := mX9_turningPoint) 97 dX9_turningPoint_96 ki_3 rfl ?_
    refine e_putI (M := mX9_turningPoint) dX9_turningPoint_97 fl_9033 (x_kk rfl) (x_kk rfl) rfl (fun q9 => Bool.noConfusion q9) ?_
    refine f_iconst (M := mX9_turningPoint) 101 dX9_turningPoint_100 ki_0 rfl ?_
    refine e_ri (M := mX9_turningPoint) dX9_turningPoint_101 rfl (x_kk rfl) (x_kk rfl) ?_
    exact (if_neg (show ¬ (200 : Nat) < 200 by decide)).symm
  | succ d ih =>
    intro k hd he
    refine f_iload_n (M := mX9_turningPoint) 48 dX9_turningPoint_47 rfl rfl ?_
    refine f_bipush (M := mX9_turningPoint) 50 dX9_turningPoint_48 kb_100 rfl ?_
    refine e_icmp_gtF (M := mX9_turningPoint) 95 dX9_turningPoint_50 rfl (by rw [kn_100, n_lt (by omega) (by omega)]; omega) ?_
    refine f_iload_n (M := mX9_turningPoint) 54 dX9_turningPoint_53 rfl rfl ?_
    refine f_iconst (M := mX9_turningPoint) 55 dX9_turningPoint_54 ki_m1 rfl ?_
    refine e_icmp_eqF (M := mX9_turningPoint) 95 dX9_turningPoint_55 rfl (n_ne1 (by omega)) ?_
    refine f_aload_n (M := mX9_turningPoint) 59 dX9_turningPoint_58 rfl rfl ?_
    refine f_iload_n (M := mX9_turningPoint) 60 dX9_turningPoint_59 rfl rfl ?_
    refine f_bipush (M := mX9_turningPoint) 62 dX9_turningPoint_60 kb_100 rfl ?_
    refine f_iload_n (M := mX9_turningPoint) 63 dX9_turningPoint_62 rfl rfl ?_
    refine f_isub (M := mX9_turningPoint) 64 dX9_turningPoint_63 rfl ?_
    refine e_cV (M := mX9_turningPoint) [_] 0 0 dX9_turningPoint_64 pa_9221 pb_9221 cc_9221 rfl rfl rfl rfl rfl (x_kk rfl) (x_kk rfl) rfl (c_X9_winnerBy hR hNs hn) rfl ?_
    refine f_iload_n (M := mX9_turningPoint) 68 dX9_turningPoint_67 rfl rfl ?_
    refine e_icmp_eq (M := mX9_turningPoint) (t := 74) dX9_turningPoint_68 rfl (fun h1 => ?_) (fun h1 => ?_)
    · refine f_aload_n (M := mX9_turningPoint) 75 dX9_turningPoint_74 rfl rfl ?_
      refine f_iload_n (M := mX9_turningPoint) 76 dX9_turningPoint_75 rfl rfl ?_
      refine f_bipush (M := mX9_turningPoint) 78 dX9_turningPoint_76 kb_100 rfl ?_
      refine f_iload_n (M := mX9_turningPoint) 79 dX9_turningPoint_78 rfl rfl ?_
      refine f_iadd (M := mX9_turningPoint) 80 dX9_turningPoint_79 rfl ?_
      refine e_cV (M := mX9_turningPoint) [_] 0 0 dX9_turningPoint_80 pa_9221 pb_9221 cc_9221 rfl rfl rfl rfl rfl (x_kk rfl) (x_kk rfl) rfl (c_X9_winnerBy hR hNs hn) rfl ?_
      refine f_iload_n (M := mX9_turningPoint) 84 dX9_turningPoint_83 rfl rfl ?_
      refine e_icmp_eq (M := mX9_turningPoint) (t := 89) dX9_turningPoint_84 rfl (fun h2 => ?_) (fun h2 => ?_)
      · refine f_iinc (M := mX9_turningPoint) (ls' := [_, _, _, _]) 92 dX9_turningPoint_89 ki_1 rfl rfl rfl rfl ?_
        refine f_goto (M := mX9_turningPoint) 47 dX9_turningPoint_92 rfl ?_
        rw [n_inc (s := k), sch_2, if_neg (show ¬ ¬ sp_win (I 226) (Int32.ofNat s) (100 + y_qj (2 * (k - 1))) Ns 8 = some w by rw [qj_e he, ← Int32.sub_eq_add_neg]; exact fun z => z ((on_eq (fun j z => sp_fst_lt z) hw).mp h1)), if_neg (show ¬ ¬ sp_win (I 226) (Int32.ofNat s) (100 + y_qj (2 * (k - 1) + 1)) Ns 8 = some w by rw [qj_o he]; exact fun z => z ((on_eq (fun j z => sp_fst_lt z) hw).mp h2))]; have ih1 := ih (k + 1) (by omega) (by omega); rw [show 2 * (k + 1 - 1) = 2 * (k - 1) + 2 by omega] at ih1; exact ih1
      · refine f_iload_n (M := mX9_turningPoint) 88 dX9_turningPoint_87 rfl rfl ?_
        refine e_ri (M := mX9_turningPoint) dX9_turningPoint_88 rfl (x_kk rfl) (x_kk rfl) ?_
        exact (by rw [sch_2, if_neg (show ¬ ¬ sp_win (I 226) (Int32.ofNat s) (100 + y_qj (2 * (k - 1))) Ns 8 = some w by rw [qj_e he, ← Int32.sub_eq_add_neg]; exact fun z => z ((on_eq (fun j z => sp_fst_lt z) hw).mp h1)), if_pos (show ¬ sp_win (I 226) (Int32.ofNat s) (100 + y_qj (2 * (k - 1) + 1)) Ns 8 = some w by rw [qj_o he]; exact fun z => h2 ((on_eq (fun j z => sp_fst_lt z) hw).mpr z))]; unfold y_tpo; rw [if_pos (by omega), qj_o he])
    · refine f_iload_n (M := mX9_turningPoint) 72 dX9_turningPoint_71 rfl rfl ?_
      refine f_ineg (M := mX9_turningPoint) 73 dX9_turningPoint_72 rfl ?_
      refine e_ri (M := mX9_turningPoint) dX9_turningPoint_73 rfl (x_kk rfl) (x_kk rfl) ?_
      exact (by rw [sch_2, if_pos (show ¬ sp_win (I 226) (Int32.ofNat s) (100 + y_qj (2 * (k - 1))) Ns 8 = some w by rw [qj_e he, ← Int32.sub_eq_add_neg]; exact fun z => h1 ((on_eq (fun j z => sp_fst_lt z) hw).mpr z))]; unfold y_tpo; rw [if_pos (by omega), qj_e he])
theorem mo_turningPoint_2 (hR : x_wf R) {Ns Np Nl Nm : Nat} (Z : y_Z (I 226) Ns Np Nl Nm) {s : Nat} (hs : s < Ns) (h1 : 1 < I 226 0 ∧ ¬ I 226 0 = 6) (h : sp_win (I 226) (-1) 100 Ns 8 = none) : x_Cv X mX9_turningPoint [.ref 225, .int (Int32.ofNat s)] (I, L, R) 233 (.inl (some (.int (0))), (x_tw I 3, L, R), 233) := by
  obtain ⟨hNs, hn, hNp, hp, hNl, hl, hNm, hmm⟩ := Z
  show x_Ev X mX9_turningPoint 0 [some (.ref 225), some (.int (Int32.ofNat s)), none, none] [] ((I, L, R), 233, 0, 0) _
  refine f_aload_n (M := mX9_turningPoint) 1 dX9_turningPoint_0 rfl rfl ?_
  refine f_aload_n (M := mX9_turningPoint) 2 dX9_turningPoint_1 rfl rfl ?_
  refine f_iload_n (M := mX9_turningPoint) 3 dX9_turningPoint_2 rfl rfl ?_
  refine e_cV (M := mX9_turningPoint) [_, _] 0 0 dX9_turningPoint_3 pa_9137 pb_9137 cc_9137 rfl rfl rfl rfl rfl (x_kk rfl) (x_kk rfl) rfl (c_X9_isSpecies hR) rfl ?_
  refine e_if_neT (M := mX9_turningPoint) 13 dX9_turningPoint_6 rfl (x_bn (in_ok hn (by omega) hs)) ?_
  refine f_aload_n (M := mX9_turningPoint) 14 dX9_turningPoint_13 rfl rfl ?_
  refine e_cV (M := mX9_turningPoint) [_, _] 0 0 dX9_turningPoint_14 pa_9215 pb_9215 cc_9215 rfl rfl rfl rfl rfl (x_kk rfl) (x_kk rfl) rfl (c_X9_isOpened hR) rfl ?_
  refine e_if_neT (M := mX9_turningPoint) 24 dX9_turningPoint_17 rfl (x_bn h1) ?_
  refine f_iconst (M := mX9_turningPoint) 25 dX9_turningPoint_24 ki_0 rfl ?_
  refine e_putI (M := mX9_turningPoint) dX9_turningPoint_25 fl_9033 (x_kk rfl) (x_kk rfl) rfl (fun q9 => Bool.noConfusion q9) ?_
  refine f_aload_n (M := mX9_turningPoint) 29 dX9_turningPoint_28 rfl rfl ?_
  refine e_getI (M := mX9_turningPoint) dX9_turningPoint_29 fl_9033 (x_kk rfl) (x_kk rfl) rfl ?_
  refine e_if_leT (M := mX9_turningPoint) 37 dX9_turningPoint_32 rfl (show (0 : Int32) ≤ 0 by decide) ?_
  refine f_aload_n (M := mX9_turningPoint) 38 dX9_turningPoint_37 rfl rfl ?_
  refine f_iconst (M := mX9_turningPoint) 39 dX9_turningPoint_38 ki_m1 rfl ?_
  refine f_bipush (M := mX9_turningPoint) 41 dX9_turningPoint_39 kb_100 rfl ?_
  refine e_cV (M := mX9_turningPoint) [_] 0 0 dX9_turningPoint_41 pa_9221 pb_9221 cc_9221 rfl rfl rfl rfl rfl (x_kk rfl) (x_kk rfl) rfl ((by have e := c_X9_winnerBy (X := X) (I := x_tw I 0) (L := L) (σ := -1) (h := 100) hR hNs hn; rw [show sp_win ((x_tw I 0) 226) (-1) 100 Ns 8 = _ from h] at e; exact e)) rfl ?_
  refine f_istore_n (M := mX9_turningPoint) (ls' := [_, _, _, _]) 45 dX9_turningPoint_44 rfl rfl rfl ?_
  refine f_iconst (M := mX9_turningPoint) 46 dX9_turningPoint_45 ki_1 rfl ?_
  refine f_istore_n (M := mX9_turningPoint) (ls' := [_, _, _, _]) 47 dX9_turningPoint_46 rfl rfl rfl ?_
  refine f_iload_n (M := mX9_turningPoint) 48 dX9_turningPoint_47 rfl rfl ?_
  refine f_bipush (M := mX9_turningPoint) 50 dX9_turningPoint_48 kb_100 rfl ?_
  refine e_icmp_gtF (M := mX9_turningPoint) 95 dX9_turningPoint_50 rfl (by decide) ?_
  refine f_iload_n (M := mX9_turningPoint) 54 dX9_turningPoint_53 rfl rfl ?_
  refine f_iconst (M := mX9_turningPoint) 55 dX9_turningPoint_54 ki_m1 rfl ?_
  refine e_icmp_eqT (M := mX9_turningPoint) 95 dX9_turningPoint_55 rfl rfl ?_
  refine f_aload_n (M := mX9_turningPoint) 96 dX9_turningPoint_95 rfl rfl ?_
  refine f_iconst (M := mX9_turningPoint) 97 dX9_turningPoint_96 ki_3 rfl ?_
  refine e_putI (M := mX9_turningPoint) dX9_turningPoint_97 fl_9033 (x_kk rfl) (x_kk rfl) rfl (fun q9 => Bool.noConfusion q9) ?_
  refine f_iconst (M := mX9_turningPoint) 101 dX9_turningPoint_100 ki_0 rfl ?_
  refine e_ri (M := mX9_turningPoint) dX9_turningPoint_101 rfl (x_kk rfl) (x_kk rfl) ?_
  exact congrArg (fun q9 => ((.inl (some (.int 0)), (q9, L, R), 233) : x_O × x_Mem × Nat)) (tw_tw (I := I) (s := 0) (t := 3))
theorem mo_turningPoint_3 (hR : x_wf R) {Ns Np Nl Nm : Nat} (Z : y_Z (I 226) Ns Np Nl Nm) {s : Nat} (hs : s < Ns) (h1 : 1 < I 226 0 ∧ ¬ I 226 0 = 6) {w : Nat} (h : sp_win (I 226) (-1) 100 Ns 8 = some w) (g : ¬ (y_sch (fun j => ¬ sp_win (I 226) (Int32.ofNat s) (100 + y_qj j) Ns 8 = some w) 200 0) < 200) : x_Cv X mX9_turningPoint [.ref 225, .int (Int32.ofNat s)] (I, L, R) 233 (.inl (some (.int (0))), (x_tw I 3, L, R), 233) := by
  obtain ⟨hNs, hn, hNp, hp, hNl, hl, hNm, hmm⟩ := Z
  show x_Ev X mX9_turningPoint 0 [some (.ref 225), some (.int (Int32.ofNat s)), none, none] [] ((I, L, R), 233, 0, 0) _
  refine f_aload_n (M := mX9_turningPoint) 1 dX9_turningPoint_0 rfl rfl ?_
  refine f_aload_n (M := mX9_turningPoint) 2 dX9_turningPoint_1 rfl rfl ?_
  refine f_iload_n (M := mX9_turningPoint) 3 dX9_turningPoint_2 rfl rfl ?_
  refine e_cV (M := mX9_turningPoint) [_, _] 0 0 dX9_turningPoint_3 pa_9137 pb_9137 cc_9137 rfl rfl rfl rfl rfl (x_kk rfl) (x_kk rfl) rfl (c_X9_isSpecies hR) rfl ?_
  refine e_if_neT (M := mX9_turningPoint) 13 dX9_turningPoint_6 rfl (x_bn (in_ok hn (by omega) hs)) ?_
  refine f_aload_n (M := mX9_turningPoint) 14 dX9_turningPoint_13 rfl rfl ?_
  refine e_cV (M := mX9_turningPoint) [_, _] 0 0 dX9_turningPoint_14 pa_9215 pb_9215 cc_9215 rfl rfl rfl rfl rfl (x_kk rfl) (x_kk rfl) rfl (c_X9_isOpened hR) rfl ?_
  refine e_if_neT (M := mX9_turningPoint) 24 dX9_turningPoint_17 rfl (x_bn h1) ?_
  refine f_iconst (M := mX9_turningPoint) 25 dX9_turningPoint_24 ki_0 rfl ?_
  refine e_putI (M := mX9_turningPoint) dX9_turningPoint_25 fl_9033 (x_kk rfl) (x_kk rfl) rfl (fun q9 => Bool.noConfusion q9) ?_
  refine f_aload_n (M := mX9_turningPoint) 29 dX9_turningPoint_28 rfl rfl ?_
  refine e_getI (M := mX9_turningPoint) dX9_turningPoint_29 fl_9033 (x_kk rfl) (x_kk rfl) rfl ?_
  refine e_if_leT (M := mX9_turningPoint) 37 dX9_turningPoint_32 rfl (show (0 : Int32) ≤ 0 by decide) ?_
  refine f_aload_n (M := mX9_turningPoint) 38 dX9_turningPoint_37 rfl rfl ?_
  refine f_iconst (M := mX9_turningPoint) 39 dX9_turningPoint_38 ki_m1 rfl ?_
  refine f_bipush (M := mX9_turningPoint) 41 dX9_turningPoint_39 kb_100 rfl ?_
  refine e_cV (M := mX9_turningPoint) [_] 0 0 dX9_turningPoint_41 pa_9221 pb_9221 cc_9221 rfl rfl rfl rfl rfl (x_kk rfl) (x_kk rfl) rfl ((by have e := c_X9_winnerBy (X := X) (I := x_tw I 0) (L := L) (σ := -1) (h := 100) hR hNs hn; rw [show sp_win ((x_tw I 0) 226) (-1) 100 Ns 8 = _ from h] at e; exact e)) rfl ?_
  refine f_istore_n (M := mX9_turningPoint) (ls' := [_, _, _, _]) 45 dX9_turningPoint_44 rfl rfl rfl ?_
  refine f_iconst (M := mX9_turningPoint) 46 dX9_turningPoint_45 ki_1 rfl ?_
  refine f_istore_n (M := mX9_turningPoint) (ls' := [_, _, _, _]) 47 dX9_turningPoint_46 rfl rfl rfl ?_
  have l1 := l_X9_turningPoint (X := X) (I := x_tw I 0) (L := L) hR hNs hn (win_v h).1 (show s < 6 by omega) 100 1 (by omega) (by omega); rw [show y_tpo (x_tw I 0) L R (y_sch (fun j => ¬ sp_win ((x_tw I 0) 226) (Int32.ofNat s) (100 + y_qj j) Ns 8 = some w) 200 0) = _ from if_neg g, tw_tw] at l1; exact l1
theorem mo_turningPoint (hR : x_wf R) {Ns Np Nl Nm : Nat} (Z : y_Z (I 226) Ns Np Nl Nm) {s : Nat} (hs : s < Ns) (h1 : 1 < I 226 0 ∧ ¬ I 226 0 = 6) {w : Nat} (h : sp_win (I 226) (-1) 100 Ns 8 = some w) (g : (y_sch (fun j => ¬ sp_win (I 226) (Int32.ofNat s) (100 + y_qj j) Ns 8 = some w) 200 0) < 200) : x_Cv X mX9_turningPoint [.ref 225, .int (Int32.ofNat s)] (I, L, R) 233 (.inl (some (.int (y_qj (y_sch (fun j => ¬ sp_win (I 226) (Int32.ofNat s) (100 + y_qj j) Ns 8 = some w) 200 0)))), (x_tw I 0, L, R), 233) := by
  obtain ⟨hNs, hn, hNp, hp, hNl, hl, hNm, hmm⟩ := Z
  show x_Ev X mX9_turningPoint 0 [some (.ref 225), some (.int (Int32.ofNat s)), none, none] [] ((I, L, R), 233, 0, 0) _
  refine f_aload_n (M := mX9_turningPoint) 1 dX9_turningPoint_0 rfl rfl ?_
  refine f_aload_n (M := mX9_turningPoint) 2 dX9_turningPoint_1 rfl rfl ?_
  refine f_iload_n (M := mX9_turningPoint) 3 dX9_turningPoint_2 rfl rfl ?_
  refine e_cV (M := mX9_turningPoint) [_, _] 0 0 dX9_turningPoint_3 pa_9137 pb_9137 cc_9137 rfl rfl rfl rfl rfl (x_kk rfl) (x_kk rfl) rfl (c_X9_isSpecies hR) rfl ?_
  refine e_if_neT (M := mX9_turningPoint) 13 dX9_turningPoint_6 rfl (x_bn (in_ok hn (by omega) hs)) ?_
  refine f_aload_n (M := mX9_turningPoint) 14 dX9_turningPoint_13 rfl rfl ?_
  refine e_cV (M := mX9_turningPoint) [_, _] 0 0 dX9_turningPoint_14 pa_9215 pb_9215 cc_9215 rfl rfl rfl rfl rfl (x_kk rfl) (x_kk rfl) rfl (c_X9_isOpened hR) rfl ?_
  refine e_if_neT (M := mX9_turningPoint) 24 dX9_turningPoint_17 rfl (x_bn h1) ?_
  refine f_iconst (M := mX9_turningPoint) 25 dX9_turningPoint_24 ki_0 rfl ?_
  refine e_putI (M := mX9_turningPoint) dX9_turningPoint_25 fl_9033 (x_kk rfl) (x_kk rfl) rfl (fun q9 => Bool.noConfusion q9) ?_
  refine f_aload_n (M := mX9_turningPoint) 29 dX9_turningPoint_28 rfl rfl ?_
  refine e_getI (M := mX9_turningPoint) dX9_turningPoint_29 fl_9033 (x_kk rfl) (x_kk rfl) rfl ?_
  refine e_if_leT (M := mX9_turningPoint) 37 dX9_turningPoint_32 rfl (show (0 : Int32) ≤ 0 by decide) ?_
  refine f_aload_n (M := mX9_turningPoint) 38 dX9_turningPoint_37 rfl rfl ?_
  refine f_iconst (M := mX9_turningPoint) 39 dX9_turningPoint_38 ki_m1 rfl ?_
  refine f_bipush (M := mX9_turningPoint) 41 dX9_turningPoint_39 kb_100 rfl ?_
  refine e_cV (M := mX9_turningPoint) [_] 0 0 dX9_turningPoint_41 pa_9221 pb_9221 cc_9221 rfl rfl rfl rfl rfl (x_kk rfl) (x_kk rfl) rfl ((by have e := c_X9_winnerBy (X := X) (I := x_tw I 0) (L := L) (σ := -1) (h := 100) hR hNs hn; rw [show sp_win ((x_tw I 0) 226) (-1) 100 Ns 8 = _ from h] at e; exact e)) rfl ?_
  refine f_istore_n (M := mX9_turningPoint) (ls' := [_, _, _, _]) 45 dX9_turningPoint_44 rfl rfl rfl ?_
  refine f_iconst (M := mX9_turningPoint) 46 dX9_turningPoint_45 ki_1 rfl ?_
  refine f_istore_n (M := mX9_turningPoint) (ls' := [_, _, _, _]) 47 dX9_turningPoint_46 rfl rfl rfl ?_
  have l1 := l_X9_turningPoint (X := X) (I := x_tw I 0) (L := L) hR hNs hn (win_v h).1 (show s < 6 by omega) 100 1 (by omega) (by omega); rw [show y_tpo (x_tw I 0) L R (y_sch (fun j => ¬ sp_win ((x_tw I 0) 226) (Int32.ofNat s) (100 + y_qj j) Ns 8 = some w) 200 0) = _ from if_pos g] at l1; exact l1
theorem sim_turningPoint (T : y_T N I L R) {v : Int32} : y_OI N X mL_turningPoint [.ref 0, .int v, .ref 232] mX9_turningPoint [.ref 225, .int v] I L R := by
  have T0 := T
  obtain ⟨a, b, kn, ks, bf, bn, ep, ⟨β, δ, γ, ν, hB⟩, hM, hI⟩ := T
  have H : y_CS N I L R β a b := ⟨hM.1, hB.1.2.1, hB.1.2.2.2.2.1, hB.2.2.2.2.2.1, hI.1⟩
  obtain ⟨Ns, Np, Nl, Nm, Z⟩ := Z_of hI.1
  have hR := hM.1
  have ha : I 226 = a := hM.2.1
  have hb : L 229 = b := hM.2.2.1
  subst ha
  subst hb
  obtain ⟨hNs, hn, hNp, hp, hNl, hl, hNm, hmm⟩ := id Z
  by_cases h0 : 0 ≤ v ∧ v ≤ I 226 8 - 1
  · obtain ⟨s, hs, rfl⟩ := in_of hn (by omega) h0
    by_cases h1 : 1 < I 226 0 ∧ ¬ I 226 0 = 6
    · skip
      cases h : sp_win (I 226) (-1) 100 Ns 8 with
      | none => exact OI_x T0 (by decide) (w_turningPoint_x3 (kf_turningPoint_2 H Z hs h1 h)) (mo_turningPoint_2 hR Z hs h1 h)
      | some w =>
        by_cases g : (y_sch (fun j => ¬ sp_win (I 226) (Int32.ofNat s) (100 + y_qj j) Ns 8 = some w) 200 0) < 200
        · exact OI_q T0 (w_turningPoint (ko_turningPoint H Z hs h1 h g)) (mo_turningPoint hR Z hs h1 h g)
        · exact OI_x T0 (by decide) (w_turningPoint_x3 (kf_turningPoint_3 H Z hs h1 h g)) (mo_turningPoint_3 hR Z hs h1 h g)
    · exact OI_x T0 (by decide) (w_turningPoint_x0 (kf_turningPoint_1 H Z hs h1)) (mf_turningPoint_1 hR Z hs h1)
  · exact OI_x T0 (by decide) (w_turningPoint_x2 (kf_turningPoint_0 H Z h0)) (mf_turningPoint_0 hR Z h0)
end

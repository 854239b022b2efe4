/-! ===== changes of both, third (laid by wip/whole/src/w3.py) ===== -/
section
variable {X : x_X} {I : Nat → Nat → Int32} {L : Nat → Nat → Int64} {R : Nat → Nat → Option Nat} {N : Nat}
/-- zeros from m on -/
def y_z (f : Nat → Int32) (m k : Nat) : Nat → Int32 := fun j => if m ≤ j ∧ j < m + k then 0 else f j
theorem z_s {f : Nat → Int32} {m k : Nat} : va_up (y_z f m k) (m + k) 0 = y_z f m (k + 1) := by
  funext j
  unfold va_up y_z
  by_cases e : j = m + k
  · rw [if_pos e, if_pos (by omega)]
  · rw [if_neg e]
    by_cases c : m ≤ j ∧ j < m + k
    · rw [if_pos c, if_pos (by omega)]
    · rw [if_neg c, if_neg (by omega)]
theorem z_0 {f : Nat → Int32} {m : Nat} : y_z f m 0 = f := by
  funext j
  unfold y_z
  rw [if_neg (by omega)]
theorem z_o {f : Nat → Int32} {m k j : Nat} (h : ¬ (m ≤ j ∧ j < m + k)) : y_z f m k j = f j := if_neg h
theorem z_i {f : Nat → Int32} {m k j : Nat} (h : m ≤ j ∧ j < m + k) : y_z f m k j = 0 := if_pos h
theorem l_X0_delete (hR : x_wf R) {β : Nat} (hβ : x_sl β) {q : Nat} (hq : q < 8) {r : x_O × x_Mem × Nat} (kk : x_Ev X mX0_delete 21 [some (.ref (β + 7)), some (.int (Int32.ofNat q)), some (.int (Int32.ofNat 6))] [] (((va_up I (β + 9) (y_z (I (β + 9)) (q * 6) 6)), L, R), 233, 0, 0) r) : ∀ d k, k + d = 6 → x_Ev X mX0_delete 2 [some (.ref (β + 7)), some (.int (Int32.ofNat q)), some (.int (Int32.ofNat k))] [] (((va_up I (β + 9) (y_z (I (β + 9)) (q * 6) k)), L, R), 233, 0, 0) r := by
  intro d
  induction d with
  | zero =>
    intro k hd
    obtain rfl : 6 = k := hd.symm
    refine f_iload_n (M := mX0_delete) 3 dX0_delete_2 rfl rfl ?_
    refine f_bipush (M := mX0_delete) 5 dX0_delete_3 kb_6 rfl ?_
    refine e_icmp_geT (M := mX0_delete) 21 dX0_delete_5 rfl (by decide) ?_
    exact kk
  | succ d ih =>
    intro k hd
    refine f_iload_n (M := mX0_delete) 3 dX0_delete_2 rfl rfl ?_
    refine f_bipush (M := mX0_delete) 5 dX0_delete_3 kb_6 rfl ?_
    refine e_icmp_geF (M := mX0_delete) 21 dX0_delete_5 rfl (by rw [kn_6, n_le (by omega) (by omega)]; omega) ?_
    refine f_aload_n (M := mX0_delete) 9 dX0_delete_8 rfl rfl ?_
    refine f_iload_n (M := mX0_delete) 10 dX0_delete_9 rfl rfl ?_
    refine f_iload_n (M := mX0_delete) 11 dX0_delete_10 rfl rfl ?_
    refine f_iconst (M := mX0_delete) 12 dX0_delete_11 ki_0 rfl ?_
    refine e_cV (M := mX0_delete) [] 0 0 dX0_delete_12 pa_41 pb_41 cc_41 rfl rfl rfl rfl rfl (x_kk rfl) (x_kk rfl) (x_rcvOK (sl_lt hβ 7 rfl) (sl_s hβ 7 rfl rfl) rfl) (c_X0_setRate hR hβ hq (by omega)) rfl ?_
    refine f_iinc (M := mX0_delete) (ls' := [_, _, _]) 18 dX0_delete_15 ki_1 rfl rfl rfl rfl ?_
    refine f_goto (M := mX0_delete) 2 dX0_delete_18 rfl ?_
    rw [n_inc (s := k), up_s, up_up, z_s]; exact ih (k + 1) (by omega)
theorem c_X0_delete (hR : x_wf R) {β : Nat} (hβ : x_sl β) {q : Nat} (hq : q < 8) : x_Cv X mX0_delete [.ref (β + 7), .int (Int32.ofNat q)] (I, L, R) 233 (.inl none, ((va_up (va_up (va_up I (β + 9) (y_z (I (β + 9)) (q * 6) 6)) (β + 10) (va_up (I (β + 10)) q 0)) (β + 11) (va_up (I (β + 11)) q 0)), L, R), 233) := by
  show x_Ev X mX0_delete 0 [some (.ref (β + 7)), some (.int (Int32.ofNat q)), none] [] ((I, L, R), 233, 0, 0) _
  refine f_iconst (M := mX0_delete) 1 dX0_delete_0 ki_0 rfl ?_
  refine f_istore_n (M := mX0_delete) (ls' := [_, _, _]) 2 dX0_delete_1 rfl rfl rfl ?_
  have l1 := fun kk => l_X0_delete (X := X) (I := I) (L := L) (r := (.inl none, ((va_up (va_up (va_up I (β + 9) (y_z (I (β + 9)) (q * 6) 6)) (β + 10) (va_up (I (β + 10)) q 0)) (β + 11) (va_up (I (β + 11)) q 0)), L, R), 233)) hR hβ hq kk 6 0 rfl; rw [z_0, up_self] at l1; refine l1 ?_
  refine f_aload_n (M := mX0_delete) 22 dX0_delete_21 rfl rfl ?_
  refine e_getR (M := mX0_delete) dX0_delete_22 fl_18 (x_kk rfl) (sl_lt hβ 7 rfl) (sl_s hβ 7 rfl rfl) (wf_0_2 hR hβ) ?_
  refine f_iload_n (M := mX0_delete) 26 dX0_delete_25 rfl rfl ?_
  refine f_iconst (M := mX0_delete) 27 dX0_delete_26 ki_0 rfl ?_
  refine e_ist (M := mX0_delete) (w := 8) (j := q) dX0_delete_27 (sl_lt hβ 10 rfl) (sl_shp hβ 10 rfl) rfl (by omega) (by omega) ?_
  refine f_aload_n (M := mX0_delete) 29 dX0_delete_28 rfl rfl ?_
  refine e_getR (M := mX0_delete) dX0_delete_29 fl_21 (x_kk rfl) (sl_lt hβ 7 rfl) (sl_s hβ 7 rfl rfl) (wf_0_3 hR hβ) ?_
  refine f_iload_n (M := mX0_delete) 33 dX0_delete_32 rfl rfl ?_
  refine f_iconst (M := mX0_delete) 34 dX0_delete_33 ki_0 rfl ?_
  refine e_ist (M := mX0_delete) (w := 8) (j := q) dX0_delete_34 (sl_lt hβ 11 rfl) (sl_shp hβ 11 rfl) rfl (by omega) (by omega) ?_
  refine e_rv (M := mX0_delete) dX0_delete_35 rfl (x_kk rfl) (x_kk rfl) ?_
  exact (by simp only [x_up_ne _ _ (show β + 10 ≠ β + 9 by omega), x_up_ne _ _ (show β + 11 ≠ β + 10 by omega), x_up_ne _ _ (show β + 11 ≠ β + 9 by omega)])
theorem kx_withdraw {N β : Nat} {a : Nat → Int32} {b : Nat → Int64} (H : y_CS N I L R β a b) {Ns Np Nl Nm : Nat} (Z : y_Z a Ns Np Nl Nm) {I0 : Nat → Nat → Int32} {L0 : Nat → Nat → Int64} (hk : x_Cv X mX3_keep [.ref 3, .ref β] (I, L, R) 233 (.inl none, (I0, L0, R), 233)) (H1 : y_CS N I0 L0 R β a b) {q : Nat} (hq : q < 8) (h1 : a 0 = 1 ∨ a 0 = 6) (h2 : 0 < a (224 + 8 * q + 7))  : x_Cv X mX8_withdraw [.ref 0, .int (Int32.ofNat q)] (I, L, R) 233 (.inl none, ((va_up (va_up (va_up I0 (β + 9) (y_z (I0 (β + 9)) (q * 6) 6)) (β + 10) (va_up (I0 (β + 10)) q 0)) (β + 11) (va_up (I0 (β + 11)) q 0)), L0, R), 233) := by
  obtain ⟨hNs, hn, hNp, hp, hNl, hl, hNm, hmm⟩ := Z
  have hR := h_R H
  have hβ := h_β H
  have hS := h_S H
  show x_Ev X mX8_withdraw 0 [some (.ref 0), some (.int (Int32.ofNat q))] [] ((I, L, R), 233, 0, 0) _
  refine f_iload_n (M := mX8_withdraw) 1 dX8_withdraw_0 rfl rfl ?_
  refine e_cS (M := mX8_withdraw) [_] 0 0 dX8_withdraw_1 pa_8164 cc_8164 rfl rfl rfl rfl rfl (x_kk rfl) (x_kk rfl) rfl (c_X8_isBidder) rfl ?_
  refine e_cS (M := mX8_withdraw) [] 1 6 dX8_withdraw_4 pa_8103 cc_8103 rfl rfl rfl rfl rfl (x_kk rfl) (x_kk rfl) rfl (c_X8_requireExisting (x_bn (ib_ok kn_7 (by omega) (by omega)))) rfl ?_
  refine f_aload_n (M := mX8_withdraw) 8 dX8_withdraw_7 rfl rfl ?_
  refine e_getR (M := mX8_withdraw) dX8_withdraw_8 fl_8026 (x_kk rfl) (x_kk rfl) rfl hS ?_
  refine e_cV (M := mX8_withdraw) [_] 1 6 dX8_withdraw_11 pa_8168 pb_8168 cc_8168 rfl rfl rfl rfl rfl (x_kk rfl) (x_kk rfl) (x_rcvOK (sl_lt hβ 0 rfl) (sl_s hβ 0 rfl rfl) rfl) (k_isBidding H) rfl ?_
  refine e_if_eqF (M := mX8_withdraw) 35 dX8_withdraw_14 rfl (x_bn h1) ?_
  refine f_aload_n (M := mX8_withdraw) 18 dX8_withdraw_17 rfl rfl ?_
  refine e_getR (M := mX8_withdraw) dX8_withdraw_18 fl_8026 (x_kk rfl) (x_kk rfl) rfl hS ?_
  refine e_getR (M := mX8_withdraw) dX8_withdraw_21 fl_8148 (x_kk rfl) (sl_lt hβ 0 rfl) (sl_s hβ 0 rfl rfl) (wf_6_3 hR hβ) ?_
  refine f_iload_n (M := mX8_withdraw) 25 dX8_withdraw_24 rfl rfl ?_
  refine e_cV (M := mX8_withdraw) [_] 1 6 dX8_withdraw_25 pa_8171 pb_8171 cc_8171 rfl rfl rfl rfl rfl (x_kk rfl) (x_kk rfl) (x_rcvOK (sl_lt hβ 7 rfl) (sl_s hβ 7 rfl rfl) rfl) (k_isSealed H hq) rfl ?_
  refine e_if_eqF (M := mX8_withdraw) 35 dX8_withdraw_28 rfl (x_bn h2) ?_
  refine f_iconst (M := mX8_withdraw) 32 dX8_withdraw_31 ki_1 rfl ?_
  refine f_goto (M := mX8_withdraw) 36 dX8_withdraw_32 rfl ?_
  refine e_cS (M := mX8_withdraw) [] 2 12 dX8_withdraw_36 pa_8037 cc_8037 rfl rfl rfl rfl rfl (x_kk rfl) (x_kk rfl) rfl (c_X8_requireState (by decide)) rfl ?_
  refine f_aload_n (M := mX8_withdraw) 40 dX8_withdraw_39 rfl rfl ?_
  refine e_getR (M := mX8_withdraw) dX8_withdraw_40 fl_8019 (x_kk rfl) (x_kk rfl) rfl (wf_8_1 hR) ?_
  refine f_aload_n (M := mX8_withdraw) 44 dX8_withdraw_43 rfl rfl ?_
  refine e_getR (M := mX8_withdraw) dX8_withdraw_44 fl_8026 (x_kk rfl) (x_kk rfl) rfl hS ?_
  refine e_cV (M := mX8_withdraw) [] 2 12 dX8_withdraw_47 pa_8060 pb_8060 cc_8060 rfl rfl rfl rfl rfl (x_kk rfl) (x_kk rfl) rfl (hk) rfl ?_
  refine f_aload_n (M := mX8_withdraw) 51 dX8_withdraw_50 rfl rfl ?_
  refine e_getR (M := mX8_withdraw) dX8_withdraw_51 fl_8026 (x_kk rfl) (x_kk rfl) rfl hS ?_
  refine e_getR (M := mX8_withdraw) dX8_withdraw_54 fl_8148 (x_kk rfl) (sl_lt hβ 0 rfl) (sl_s hβ 0 rfl rfl) (wf_6_3 hR hβ) ?_
  refine f_iload_n (M := mX8_withdraw) 58 dX8_withdraw_57 rfl rfl ?_
  refine e_cV (M := mX8_withdraw) [] 2 12 dX8_withdraw_58 pa_8188 pb_8188 cc_8188 rfl rfl rfl rfl rfl (x_kk rfl) (x_kk rfl) (x_rcvOK (sl_lt hβ 7 rfl) (sl_s hβ 7 rfl rfl) rfl) (c_X0_delete hR hβ hq) rfl ?_
  refine e_rv (M := mX8_withdraw) dX8_withdraw_61 rfl (x_kk rfl) (x_kk rfl) ?_
  rfl
theorem l_X9_withdraw (hR : x_wf R) {q : Nat} (hq : q < 8) : ∀ d k, k + d = 8 → x_Ev X mX9_withdraw 49 [some (.ref 225), some (.int (Int32.ofNat q)), some (.int (Int32.ofNat k))] [] (((va_up I 226 (y_z (I 226) (224 + 8 * q) k)), L, R), 233, 0, 0) (.inl none, ((va_up I 226 (y_z (I 226) (224 + 8 * q) 8)), L, R), 233) := by
  intro d
  induction d with
  | zero =>
    intro k hd
    obtain rfl : 8 = k := hd.symm
    refine f_iload_n (M := mX9_withdraw) 50 dX9_withdraw_49 rfl rfl ?_
    refine f_bipush (M := mX9_withdraw) 52 dX9_withdraw_50 kb_8 rfl ?_
    refine e_icmp_geT (M := mX9_withdraw) 77 dX9_withdraw_52 rfl (by decide) ?_
    refine e_rv (M := mX9_withdraw) dX9_withdraw_77 rfl (x_kk rfl) (x_kk rfl) ?_
    rfl
  | succ d ih =>
    intro k hd
    refine f_iload_n (M := mX9_withdraw) 50 dX9_withdraw_49 rfl rfl ?_
    refine f_bipush (M := mX9_withdraw) 52 dX9_withdraw_50 kb_8 rfl ?_
    refine e_icmp_geF (M := mX9_withdraw) 77 dX9_withdraw_52 rfl (by rw [kn_8, n_le (by omega) (by omega)]; omega) ?_
    refine f_aload_n (M := mX9_withdraw) 56 dX9_withdraw_55 rfl rfl ?_
    refine e_getR (M := mX9_withdraw) dX9_withdraw_56 fl_9007 (x_kk rfl) (x_kk rfl) rfl (wf_9_0 hR) ?_
    refine f_sipush (M := mX9_withdraw) 62 dX9_withdraw_59 ks_224 rfl ?_
    refine f_bipush (M := mX9_withdraw) 64 dX9_withdraw_62 kb_8 rfl ?_
    refine f_iload_n (M := mX9_withdraw) 65 dX9_withdraw_64 rfl rfl ?_
    refine f_imul (M := mX9_withdraw) 66 dX9_withdraw_65 rfl ?_
    refine f_iadd (M := mX9_withdraw) 67 dX9_withdraw_66 rfl ?_
    refine f_iload_n (M := mX9_withdraw) 68 dX9_withdraw_67 rfl rfl ?_
    refine f_iadd (M := mX9_withdraw) 69 dX9_withdraw_68 rfl ?_
    refine f_iconst (M := mX9_withdraw) 70 dX9_withdraw_69 ki_0 rfl ?_
    refine e_ist (M := mX9_withdraw) (w := 606) (j := ((224) + ((8) * (q))) + (k)) dX9_withdraw_70 (x_kk rfl) rfl (ix_add (ix_add kn_224 (ix_mul kn_8 rfl)) rfl) (by omega) (by omega) ?_
    refine f_iinc (M := mX9_withdraw) (ls' := [_, _, _]) 74 dX9_withdraw_71 ki_1 rfl rfl rfl rfl ?_
    refine f_goto (M := mX9_withdraw) 49 dX9_withdraw_74 rfl ?_
    rw [n_inc (s := k), up_s, up_up, z_s]; exact ih (k + 1) (by omega)
theorem mx_withdraw (hR : x_wf R) {a : Nat → Int32} (ha : I 226 = a) {Ns Np Nl Nm : Nat} (Z : y_Z a Ns Np Nl Nm) {I0 : Nat → Nat → Int32} {L0 : Nat → Nat → Int64} (hk : x_Cv X mX9_keeps [.ref 225] (x_tw I 0, L, R) 233 (.inl none, (I0, L0, R), 233)) (ha0 : I0 226 = a) {q : Nat} (hq : q < 8) (h1 : a 0 = 1 ∨ a 0 = 6) (h2 : 0 < a (224 + 8 * q + 7))  : x_Cv X mX9_withdraw [.ref 225, .int (Int32.ofNat q)] (I, L, R) 233 (.inl none, (va_up I0 226 (y_z a (224 + 8 * q) 8), L0, R), 233) := by
  subst ha
  obtain ⟨hNs, hn, hNp, hp, hNl, hl, hNm, hmm⟩ := Z
  show x_Ev X mX9_withdraw 0 [some (.ref 225), some (.int (Int32.ofNat q)), none] [] ((I, L, R), 233, 0, 0) _
  refine f_aload_n (M := mX9_withdraw) 1 dX9_withdraw_0 rfl rfl ?_
  refine f_iload_n (M := mX9_withdraw) 2 dX9_withdraw_1 rfl rfl ?_
  refine e_cS (M := mX9_withdraw) [_, _] 0 0 dX9_withdraw_2 pa_9185 cc_9185 rfl rfl rfl rfl rfl (x_kk rfl) (x_kk rfl) rfl (c_X9_isBidder) rfl ?_
  refine e_if_neT (M := mX9_withdraw) 12 dX9_withdraw_5 rfl (x_bn (ib_ok kn_7 (by omega) (by omega))) ?_
  refine f_aload_n (M := mX9_withdraw) 13 dX9_withdraw_12 rfl rfl ?_
  refine e_cV (M := mX9_withdraw) [_, _] 0 0 dX9_withdraw_13 pa_9190 pb_9190 cc_9190 rfl rfl rfl rfl rfl (x_kk rfl) (x_kk rfl) rfl (c_X9_isBidding hR) rfl ?_
  refine e_if_eqF (M := mX9_withdraw) 27 dX9_withdraw_16 rfl (x_bn h1) ?_
  refine f_aload_n (M := mX9_withdraw) 20 dX9_withdraw_19 rfl rfl ?_
  refine f_iload_n (M := mX9_withdraw) 21 dX9_withdraw_20 rfl rfl ?_
  refine e_cV (M := mX9_withdraw) [_, _] 0 0 dX9_withdraw_21 pa_9193 pb_9193 cc_9193 rfl rfl rfl rfl rfl (x_kk rfl) (x_kk rfl) rfl (c_X9_isSealed hR hq) rfl ?_
  refine e_if_neT (M := mX9_withdraw) 31 dX9_withdraw_24 rfl (x_bn h2) ?_
  refine f_iconst (M := mX9_withdraw) 32 dX9_withdraw_31 ki_0 rfl ?_
  refine e_putI (M := mX9_withdraw) dX9_withdraw_32 fl_9033 (x_kk rfl) (x_kk rfl) rfl (fun q9 => Bool.noConfusion q9) ?_
  refine f_aload_n (M := mX9_withdraw) 36 dX9_withdraw_35 rfl rfl ?_
  refine e_getI (M := mX9_withdraw) dX9_withdraw_36 fl_9033 (x_kk rfl) (x_kk rfl) rfl ?_
  refine e_if_leT (M := mX9_withdraw) 43 dX9_withdraw_39 rfl (show (0 : Int32) ≤ 0 by decide) ?_
  refine f_aload_n (M := mX9_withdraw) 44 dX9_withdraw_43 rfl rfl ?_
  refine e_cV (M := mX9_withdraw) [] 0 0 dX9_withdraw_44 pa_9128 pb_9128 cc_9128 rfl rfl rfl rfl rfl (x_kk rfl) (x_kk rfl) rfl (hk) rfl ?_
  refine f_iconst (M := mX9_withdraw) 48 dX9_withdraw_47 ki_0 rfl ?_
  refine f_istore_n (M := mX9_withdraw) (ls' := [_, _, _]) 49 dX9_withdraw_48 rfl rfl rfl ?_
  have l1 := l_X9_withdraw (X := X) (I := I0) (L := L0) hR hq 8 0 rfl; rw [z_0, up_self, ha0] at l1; exact l1
section
variable {β : Nat} {a : Nat → Int32}
theorem RB_del (h : y_RB I β a) {q : Nat} (hq : q < 8) : y_RB (va_up (va_up (va_up I (β + 9) (y_z (I (β + 9)) (q * 6) 6)) (β + 10) (va_up (I (β + 10)) q 0)) (β + 11) (va_up (I (β + 11)) q 0)) β (y_z a (224 + 8 * q) 8) := by
  obtain ⟨h1, h2, h3, h4, h5, h7⟩ := h
  refine ⟨fun k hk => ?_, fun k hk j hj => ?_, fun k hk => ?_, fun k hk => ?_, ?_, ?_⟩
  · rw [x_up_ne _ _ (show β + 8 ≠ β + 11 by omega), x_up_ne _ _ (show β + 8 ≠ β + 10 by omega), x_up_ne _ _ (show β + 8 ≠ β + 9 by omega), h1 k hk]
    exact (vol_c (by rw [z_o (by omega)]) (fun j hj => z_o (by omega)) hk).symm
  · rw [x_up_ne _ _ (show β + 9 ≠ β + 11 by omega), x_up_ne _ _ (show β + 9 ≠ β + 10 by omega), x_up_self]
    by_cases e : k = q
    · subst e
      rw [z_i (by omega), z_i (by omega)]
    · rw [z_o (by omega), z_o (by omega)]; exact h2 k hk j hj
  · rw [x_up_ne _ _ (show β + 10 ≠ β + 11 by omega), x_up_self]
    by_cases e : k = q
    · subst e
      rw [x_up_self, z_i (by omega)]
    · rw [x_up_ne _ _ e, z_o (by omega)]; exact h3 k hk
  · rw [x_up_self]
    by_cases e : k = q
    · subst e
      rw [x_up_self, z_i (by omega)]
    · rw [x_up_ne _ _ e, z_o (by omega)]; exact h4 k hk
  · rw [x_up_ne _ _ (show β + 7 ≠ β + 11 by omega), x_up_ne _ _ (show β + 7 ≠ β + 10 by omega), x_up_ne _ _ (show β + 7 ≠ β + 9 by omega), z_o (by omega)]; exact h5
  · rw [x_up_ne _ _ (show β + 7 ≠ β + 11 by omega), x_up_ne _ _ (show β + 7 ≠ β + 10 by omega), x_up_ne _ _ (show β + 7 ≠ β + 9 by omega), z_o (by omega), z_o (by omega)]; exact h7
theorem IB_del {M : Nat} (hM : N ≤ M) (h0 : ¬ a 0 = 0) (h : y_IB N a) {q : Nat} (hq : q < 8) : y_IB M (y_z a (224 + 8 * q) 8) := by
  obtain ⟨h1, h2, h3, h4⟩ := h
  unfold y_IB
  rw [z_o (show ¬ (224 + 8 * q ≤ 10 ∧ 10 < 224 + 8 * q + 8) by omega), z_o (show ¬ (224 + 8 * q ≤ 0 ∧ 0 < 224 + 8 * q + 8) by omega)]
  have h11 := h1.1
  have h12 := h1.2
  have z0 : (0 : Int32).toInt = 0 := by decide
  refine ⟨⟨h1.1, by omega⟩, fun k hk => ?_, fun k j hk hj hne hp => ?_, fun z => absurd z h0⟩
  · by_cases e : k = q
    · subst e
      rw [z_i (show _ ∧ 224 + 8 * k + 6 < _ by omega), z_i (show _ ∧ 224 + 8 * k + 7 < _ by omega)]
      exact ⟨fun s hs => by rw [z_i (by omega)]; exact ⟨by decide, by decide⟩, ⟨by decide, by decide⟩, ⟨by rw [z0]; omega, by rw [z0]; omega⟩⟩
    · rw [z_o (show ¬ (_ ∧ 224 + 8 * k + 6 < _) by omega), z_o (show ¬ (_ ∧ 224 + 8 * k + 7 < _) by omega)]
      exact ⟨fun s hs => by rw [z_o (by omega)]; exact (h2 k hk).1 s hs, (h2 k hk).2⟩
  · by_cases e : k = q
    · subst e
      rw [z_i (show _ ∧ 224 + 8 * k + 7 < _ by omega)] at hp
      exact absurd hp (by decide)
    · rw [z_o (show ¬ (_ ∧ 224 + 8 * k + 7 < _) by omega)] at hp ⊢
      by_cases e2 : j = q
      · subst e2
        rw [z_i (show _ ∧ 224 + 8 * j + 7 < _ by omega)]
        intro y
        rw [y] at hp
        exact absurd hp (by decide)
      · rw [z_o (show ¬ (_ ∧ 224 + 8 * j + 7 < _) by omega)]
        exact h3 k j hk hj hne hp
end
theorem sim_withdraw (T : y_T N I L R) {u : Int32} : y_OV N X mL_withdraw [.ref 0, .int u] mX9_withdraw [.ref 225, .int u] I L R := by
  have T0 := T
  obtain ⟨a, b, kn, ks, bf, bn, ep, ⟨β, δ, γ, ν, hB⟩, hM, hI⟩ := T
  have H : y_CS N I L R β a b := ⟨hM.1, hB.1.2.1, hB.1.2.2.2.2.1, hB.2.2.2.2.2.1, hI.1⟩
  obtain ⟨Ns, Np, Nl, Nm, Z⟩ := Z_of hI.1
  have hR := hM.1
  have ha : I 226 = a := hM.2.1
  have hb : L 229 = b := hM.2.2.1
  subst ha
  subst hb
  obtain ⟨hNs, hn, hNp, hp, hNl, hl, hNm, hmm⟩ := id Z
  by_cases h0 : 0 ≤ u ∧ u ≤ 7
  · obtain ⟨q, hq, rfl⟩ := ib_of kn_7 (by omega) h0
    replace hq : q < 8 := by omega
    by_cases h1 : I 226 0 = 1 ∨ I 226 0 = 6
    · skip
      by_cases h2 : 0 < I 226 (224 + 8 * q + 7)
      · skip
        obtain ⟨I0, L0, hk, S1, fr, sm⟩ := keep_ok (X := X) hB (h60_of (h_IL H))
        have H1 : y_CS N I0 L0 R β (I 226) (L 229) := ⟨hR, h_β H, h_S H, S1.2.2.2.2.2.1, hI.1⟩
        have hβ := h_β H
        have k1 := w_withdraw (kx_withdraw H Z hk H1 hq h1 h2 )
        have out : ∀ cc, (∀ j, j < 22 → ¬ cc = β + j) → (va_up (va_up (va_up I0 (β + 9) (y_z (I0 (β + 9)) (q * 6) 6)) (β + 10) (va_up (I0 (β + 10)) q 0)) (β + 11) (va_up (I0 (β + 11)) q 0)) cc = I0 cc ∧ L0 cc = L0 cc := fun cc ho => ⟨(by rw [x_up_ne _ _ (ho 11 (by decide)), x_up_ne _ _ (ho 10 (by decide)), x_up_ne _ _ (ho 9 (by decide))]), rfl⟩
        have M1 := SM_f (I' := (va_up (va_up (va_up I0 (β + 9) (y_z (I0 (β + 9)) (q * 6) 6)) (β + 10) (va_up (I0 (β + 10)) q 0)) (β + 11) (va_up (I0 (β + 11)) q 0))) (L' := L0) hM hR (fun cc z1 z2 => ⟨(out cc (fun j hj => sl_far hβ (Or.inr z1) hj)).1.trans (fr cc z1).1, ((out cc (fun j hj => sl_far hβ (Or.inr z1) hj)).2.trans (fr cc z1).2)⟩)
        obtain ⟨I2, L2, hk9, M2, t6, l25, fr9⟩ := keeps_ok (X := X) (SM_tw (t := 0) M1)
        have m1 := mx_withdraw hR M1.2.1 Z hk9 M2.2.1 hq h1 h2 
        refine OV_c (a' := (y_z (I 226) (224 + 8 * q) 8)) (b' := (L 229)) k1 ⟨β, δ, γ, _, SB_u S1 out ?_⟩ m1 ?_ (SM_a M2) (fr_t fr_tw (fr_t fr9 fr_a)) (In_p (by omega) hI ?_)
        · exact ⟨(by rw [x_up_ne _ _ (show β ≠ β + 11 by omega), x_up_ne _ _ (show β ≠ β + 10 by omega), x_up_ne _ _ (show β ≠ β + 9 by omega)]; exact (h_ph H1).trans (show _ = _ from (z_o (by omega))).symm), RT_c (fun k z1 z2 => by rw [x_up_ne _ _ (show β + k ≠ β + 11 by omega), x_up_ne _ _ (show β + k ≠ β + 10 by omega), x_up_ne _ _ (show β + k ≠ β + 9 by omega)]) (fun j hj => z_o (by omega)) (h_T H1), RC_c (fun k z1 z2 => by rw [x_up_ne _ _ (show β + k ≠ β + 11 by omega), x_up_ne _ _ (show β + k ≠ β + 10 by omega), x_up_ne _ _ (show β + k ≠ β + 9 by omega)]) (fun j hj => z_o (by omega)) (h_C H1), RB_del (h_B H1) hq, RK_c (fun k z1 z2 => by rw [x_up_ne _ _ (show β + k ≠ β + 11 by omega), x_up_ne _ _ (show β + k ≠ β + 10 by omega), x_up_ne _ _ (show β + k ≠ β + 9 by omega)]) rfl rfl (fun z => by rw [z_o (by omega)] at z; exact z) (fun j hj => z_o (by omega)) (h_K H1), RL_c (fun k z1 z2 => by rw [x_up_ne _ _ (show β + k ≠ β + 11 by omega), x_up_ne _ _ (show β + k ≠ β + 10 by omega), x_up_ne _ _ (show β + k ≠ β + 9 by omega)]) (fun j hj => z_o (by omega)) (h60_of (h_IL H)) (h_L H1)⟩
        · exact t6
        · have z0 : ¬ I 226 0 = 0 := by rcases h1 with z | z <;> rw [z] <;> decide
          have z8 : ¬ I 226 0 = 8 := by rcases h1 with z | z <;> rw [z] <;> decide
          exact ⟨IT_c (by rw [z_o (by omega)]; exact (h_IT H).1) (fun j hj => z_o (by omega)) (h_IT H), IC_c (fun j hj => z_o (by omega)) (h_IC H), IB_del (by omega) z0 (h_IB H) hq, IV_c (fun j hj => z_o (by omega)) (h_IV H), IK_c (fun j hj => z_o (by omega)) z8 (h_IK H), IL_c (fun j hj => z_o (by omega)) (h_IL H), (fun j hj => (z_o (by omega)).trans (hI.1.2.2.2.2.2.2.1 j hj)), hI.1.2.2.2.2.2.2.2⟩
      · exact OV_x T0 (w_withdraw_x0 (kf_withdraw_2 H Z hq h1 h2)) (mf_withdraw_2 hR Z hq h1 h2)
    · exact OV_x T0 (w_withdraw_x0 (kf_withdraw_1 H Z hq h1)) (mf_withdraw_1 hR Z hq h1)
  · exact OV_x T0 (w_withdraw_x2 (kf_withdraw_0 H Z h0)) (mf_withdraw_0 hR Z h0)
theorem kf_pay_0 {N β : Nat} {a : Nat → Int32} {b : Nat → Int64} (H : y_CS N I L R β a b) {Ns Np Nl Nm : Nat} (Z : y_Z a Ns Np Nl Nm) {w : Int32} (h0 : ¬ (1 ≤ w ∧ w ≤ 1000000000)) : x_Cv X mX8_pay [.ref 0, .int w] (I, L, R) 233 (.inr 1, (I, L, R), 233) := by
  obtain ⟨hNs, hn, hNp, hp, hNl, hl, hNm, hmm⟩ := Z
  have hR := h_R H
  have hβ := h_β H
  have hS := h_S H
  show x_Ev X mX8_pay 0 [some (.ref 0), some (.int w)] [] ((I, L, R), 233, 0, 0) _
  refine f_iload_n (M := mX8_pay) 1 dX8_pay_0 rfl rfl ?_
  refine f_iconst (M := mX8_pay) 2 dX8_pay_1 ki_1 rfl ?_
  refine f_ldcI (M := mX8_pay) 4 dX8_pay_2 (x_kk rfl) cst_8181 rfl ?_
  refine e_cS (M := mX8_pay) [_] 0 0 dX8_pay_4 pa_8049 cc_8049 rfl rfl rfl rfl rfl (x_kk rfl) (x_kk rfl) rfl (c_X8_isIn (lo := 1) (hi := 1000000000)) rfl ?_
  exact e_cSX (M := mX8_pay) 1 6 dX8_pay_7 pa_8053 cc_8053 rfl rfl rfl rfl rfl (x_kk rfl) (x_kk rfl) rfl (c_X8_requireArgument_x (x_b0 h0)) rfl
theorem kf_pay_1 {N β : Nat} {a : Nat → Int32} {b : Nat → Int64} (H : y_CS N I L R β a b) {Ns Np Nl Nm : Nat} (Z : y_Z a Ns Np Nl Nm) {w : Int32} (h0 : 1 ≤ w ∧ w ≤ 1000000000) (h1 : ¬ (a 0 = 3 ∨ a 0 = 4)) : x_Cv X mX8_pay [.ref 0, .int w] (I, L, R) 233 (.inr 0, (I, L, R), 233) := by
  obtain ⟨hNs, hn, hNp, hp, hNl, hl, hNm, hmm⟩ := Z
  have hR := h_R H
  have hβ := h_β H
  have hS := h_S H
  show x_Ev X mX8_pay 0 [some (.ref 0), some (.int w)] [] ((I, L, R), 233, 0, 0) _
  refine f_iload_n (M := mX8_pay) 1 dX8_pay_0 rfl rfl ?_
  refine f_iconst (M := mX8_pay) 2 dX8_pay_1 ki_1 rfl ?_
  refine f_ldcI (M := mX8_pay) 4 dX8_pay_2 (x_kk rfl) cst_8181 rfl ?_
  refine e_cS (M := mX8_pay) [_] 0 0 dX8_pay_4 pa_8049 cc_8049 rfl rfl rfl rfl rfl (x_kk rfl) (x_kk rfl) rfl (c_X8_isIn (lo := 1) (hi := 1000000000)) rfl ?_
  refine e_cS (M := mX8_pay) [] 1 6 dX8_pay_7 pa_8053 cc_8053 rfl rfl rfl rfl rfl (x_kk rfl) (x_kk rfl) rfl (c_X8_requireArgument (x_bn h0)) rfl ?_
  refine f_aload_n (M := mX8_pay) 11 dX8_pay_10 rfl rfl ?_
  refine e_getR (M := mX8_pay) dX8_pay_11 fl_8026 (x_kk rfl) (x_kk rfl) rfl hS ?_
  refine e_getI (M := mX8_pay) dX8_pay_14 fl_8067 (x_kk rfl) (sl_lt hβ 0 rfl) (sl_s hβ 0 rfl rfl) ?_
  refine f_iconst (M := mX8_pay) 18 dX8_pay_17 ki_3 rfl ?_
  refine e_icmp_eqF (M := mX8_pay) 32 dX8_pay_18 rfl (fun z => h1 (Or.inl ((h_ph H).symm.trans z))) ?_
  refine f_aload_n (M := mX8_pay) 22 dX8_pay_21 rfl rfl ?_
  refine e_getR (M := mX8_pay) dX8_pay_22 fl_8026 (x_kk rfl) (x_kk rfl) rfl hS ?_
  refine e_getI (M := mX8_pay) dX8_pay_25 fl_8067 (x_kk rfl) (sl_lt hβ 0 rfl) (sl_s hβ 0 rfl rfl) ?_
  refine f_iconst (M := mX8_pay) 29 dX8_pay_28 ki_4 rfl ?_
  refine e_icmp_neT (M := mX8_pay) 36 dX8_pay_29 rfl (fun z => h1 (Or.inr ((h_ph H).symm.trans z))) ?_
  refine f_iconst (M := mX8_pay) 37 dX8_pay_36 ki_0 rfl ?_
  exact e_cSX (M := mX8_pay) 2 12 dX8_pay_37 pa_8037 cc_8037 rfl rfl rfl rfl rfl (x_kk rfl) (x_kk rfl) rfl (c_X8_requireState_x rfl) rfl
theorem mf_pay_0 (hR : x_wf R) {Ns Np Nl Nm : Nat} (Z : y_Z (I 226) Ns Np Nl Nm) {w : Int32} (h0 : ¬ (1 ≤ w ∧ w ≤ 1000000000)) : x_Cv X mX9_pay [.ref 225, .int w] (I, L, R) 233 (.inl (some (.long (0))), (x_tw I 1, L, R), 233) := by
  obtain ⟨hNs, hn, hNp, hp, hNl, hl, hNm, hmm⟩ := Z
  show x_Ev X mX9_pay 0 [some (.ref 225), some (.int w)] [] ((I, L, R), 233, 0, 0) _
  refine f_aload_n (M := mX9_pay) 1 dX9_pay_0 rfl rfl ?_
  refine f_iload_n (M := mX9_pay) 2 dX9_pay_1 rfl rfl ?_
  refine f_i2l (M := mX9_pay) 3 dX9_pay_2 rfl ?_
  refine f_lconst (M := mX9_pay) 4 dX9_pay_3 kl_1 rfl ?_
  refine f_ldc2 (M := mX9_pay) 7 dX9_pay_4 (x_kk rfl) csl_9200 rfl ?_
  refine e_cS (M := mX9_pay) [_, _] 0 0 dX9_pay_7 pa_9074 cc_9074 rfl rfl rfl rfl rfl (x_kk rfl) (x_kk rfl) rfl (c_X9_isInI (lo := 1) (hi := 1000000000)) rfl ?_
  refine e_if_neF (M := mX9_pay) 17 dX9_pay_10 rfl (x_bnn h0) ?_
  refine f_iconst (M := mX9_pay) 14 dX9_pay_13 ki_1 rfl ?_
  refine f_goto (M := mX9_pay) 42 dX9_pay_14 rfl ?_
  refine e_putI (M := mX9_pay) dX9_pay_42 fl_9033 (x_kk rfl) (x_kk rfl) rfl (fun q9 => Bool.noConfusion q9) ?_
  refine f_aload_n (M := mX9_pay) 46 dX9_pay_45 rfl rfl ?_
  refine e_getI (M := mX9_pay) dX9_pay_46 fl_9033 (x_kk rfl) (x_kk rfl) rfl ?_
  refine e_if_leF (M := mX9_pay) 54 dX9_pay_49 rfl (show ¬ ((1 : Int32) ≤ 0) by decide) ?_
  refine f_lconst (M := mX9_pay) 53 dX9_pay_52 kl_0 rfl ?_
  refine e_rl (M := mX9_pay) dX9_pay_53 rfl (x_kk rfl) (x_kk rfl) ?_
  rfl
theorem mf_pay_1 (hR : x_wf R) {Ns Np Nl Nm : Nat} (Z : y_Z (I 226) Ns Np Nl Nm) {w : Int32} (h0 : 1 ≤ w ∧ w ≤ 1000000000) (h1 : ¬ (I 226 0 = 3 ∨ I 226 0 = 4)) : x_Cv X mX9_pay [.ref 225, .int w] (I, L, R) 233 (.inl (some (.long (0))), (x_tw I 2, L, R), 233) := by
  obtain ⟨hNs, hn, hNp, hp, hNl, hl, hNm, hmm⟩ := Z
  show x_Ev X mX9_pay 0 [some (.ref 225), some (.int w)] [] ((I, L, R), 233, 0, 0) _
  refine f_aload_n (M := mX9_pay) 1 dX9_pay_0 rfl rfl ?_
  refine f_iload_n (M := mX9_pay) 2 dX9_pay_1 rfl rfl ?_
  refine f_i2l (M := mX9_pay) 3 dX9_pay_2 rfl ?_
  refine f_lconst (M := mX9_pay) 4 dX9_pay_3 kl_1 rfl ?_
  refine f_ldc2 (M := mX9_pay) 7 dX9_pay_4 (x_kk rfl) csl_9200 rfl ?_
  refine e_cS (M := mX9_pay) [_, _] 0 0 dX9_pay_7 pa_9074 cc_9074 rfl rfl rfl rfl rfl (x_kk rfl) (x_kk rfl) rfl (c_X9_isInI (lo := 1) (hi := 1000000000)) rfl ?_
  refine e_if_neT (M := mX9_pay) 17 dX9_pay_10 rfl (x_bn h0) ?_
  refine f_aload_n (M := mX9_pay) 18 dX9_pay_17 rfl rfl ?_
  refine e_getR (M := mX9_pay) dX9_pay_18 fl_9007 (x_kk rfl) (x_kk rfl) rfl (wf_9_0 hR) ?_
  refine f_iconst (M := mX9_pay) 22 dX9_pay_21 ki_0 rfl ?_
  refine e_ild (M := mX9_pay) (w := 606) (j := 0) dX9_pay_22 (x_kk rfl) rfl kn_0 (by omega) (by omega) ?_
  refine f_iconst (M := mX9_pay) 24 dX9_pay_23 ki_3 rfl ?_
  refine e_icmp_eqF (M := mX9_pay) 41 dX9_pay_24 rfl (fun z => h1 (Or.inl z)) ?_
  refine f_aload_n (M := mX9_pay) 28 dX9_pay_27 rfl rfl ?_
  refine e_getR (M := mX9_pay) dX9_pay_28 fl_9007 (x_kk rfl) (x_kk rfl) rfl (wf_9_0 hR) ?_
  refine f_iconst (M := mX9_pay) 32 dX9_pay_31 ki_0 rfl ?_
  refine e_ild (M := mX9_pay) (w := 606) (j := 0) dX9_pay_32 (x_kk rfl) rfl kn_0 (by omega) (by omega) ?_
  refine f_iconst (M := mX9_pay) 34 dX9_pay_33 ki_4 rfl ?_
  refine e_icmp_eqF (M := mX9_pay) 41 dX9_pay_34 rfl (fun z => h1 (Or.inr z)) ?_
  refine f_iconst (M := mX9_pay) 38 dX9_pay_37 ki_2 rfl ?_
  refine f_goto (M := mX9_pay) 42 dX9_pay_38 rfl ?_
  refine e_putI (M := mX9_pay) dX9_pay_42 fl_9033 (x_kk rfl) (x_kk rfl) rfl (fun q9 => Bool.noConfusion q9) ?_
  refine f_aload_n (M := mX9_pay) 46 dX9_pay_45 rfl rfl ?_
  refine e_getI (M := mX9_pay) dX9_pay_46 fl_9033 (x_kk rfl) (x_kk rfl) rfl ?_
  refine e_if_leF (M := mX9_pay) 54 dX9_pay_49 rfl (show ¬ ((2 : Int32) ≤ 0) by decide) ?_
  refine f_lconst (M := mX9_pay) 53 dX9_pay_52 kl_0 rfl ?_
  refine e_rl (M := mX9_pay) dX9_pay_53 rfl (x_kk rfl) (x_kk rfl) ?_
  rfl
theorem kx_pay {N β : Nat} {a : Nat → Int32} {b : Nat → Int64} (H : y_CS N I L R β a b) {Ns Np Nl Nm : Nat} (Z : y_Z a Ns Np Nl Nm) {I0 : Nat → Nat → Int32} {L0 : Nat → Nat → Int64} (hk : x_Cv X mX3_keep [.ref 3, .ref β] (I, L, R) 233 (.inl none, (I0, L0, R), 233)) (H1 : y_CS N I0 L0 R β a b) {w : Int32} (h0 : 1 ≤ w ∧ w ≤ 1000000000) (h1 : a 0 = 3 ∨ a 0 = 4) : x_Cv X mX8_pay [.ref 0, .int w] (I, L, R) 233 (.inl (some (.long (b 0 - w.toInt64))), (I0, (va_up L0 (β + 12) (va_up (L0 (β + 12)) 7 (b 0 - w.toInt64))), R), 233) := by
  obtain ⟨hNs, hn, hNp, hp, hNl, hl, hNm, hmm⟩ := Z
  have hR := h_R H
  have hβ := h_β H
  have hS := h_S H
  show x_Ev X mX8_pay 0 [some (.ref 0), some (.int w)] [] ((I, L, R), 233, 0, 0) _
  rcases h1 with h1 | h1
  · refine f_iload_n (M := mX8_pay) 1 dX8_pay_0 rfl rfl ?_
    refine f_iconst (M := mX8_pay) 2 dX8_pay_1 ki_1 rfl ?_
    refine f_ldcI (M := mX8_pay) 4 dX8_pay_2 (x_kk rfl) cst_8181 rfl ?_
    refine e_cS (M := mX8_pay) [_] 0 0 dX8_pay_4 pa_8049 cc_8049 rfl rfl rfl rfl rfl (x_kk rfl) (x_kk rfl) rfl (c_X8_isIn (lo := 1) (hi := 1000000000)) rfl ?_
    refine e_cS (M := mX8_pay) [] 1 6 dX8_pay_7 pa_8053 cc_8053 rfl rfl rfl rfl rfl (x_kk rfl) (x_kk rfl) rfl (c_X8_requireArgument (x_bn h0)) rfl ?_
    refine f_aload_n (M := mX8_pay) 11 dX8_pay_10 rfl rfl ?_
    refine e_getR (M := mX8_pay) dX8_pay_11 fl_8026 (x_kk rfl) (x_kk rfl) rfl hS ?_
    refine e_getI (M := mX8_pay) dX8_pay_14 fl_8067 (x_kk rfl) (sl_lt hβ 0 rfl) (sl_s hβ 0 rfl rfl) ?_
    refine f_iconst (M := mX8_pay) 18 dX8_pay_17 ki_3 rfl ?_
    refine e_icmp_eqT (M := mX8_pay) 32 dX8_pay_18 rfl ((h_ph H).trans h1) ?_
    refine f_iconst (M := mX8_pay) 33 dX8_pay_32 ki_1 rfl ?_
    refine f_goto (M := mX8_pay) 37 dX8_pay_33 rfl ?_
    refine e_cS (M := mX8_pay) [] 2 12 dX8_pay_37 pa_8037 cc_8037 rfl rfl rfl rfl rfl (x_kk rfl) (x_kk rfl) rfl (c_X8_requireState (by decide)) rfl ?_
    refine f_aload_n (M := mX8_pay) 41 dX8_pay_40 rfl rfl ?_
    refine e_getR (M := mX8_pay) dX8_pay_41 fl_8019 (x_kk rfl) (x_kk rfl) rfl (wf_8_1 hR) ?_
    refine f_aload_n (M := mX8_pay) 45 dX8_pay_44 rfl rfl ?_
    refine e_getR (M := mX8_pay) dX8_pay_45 fl_8026 (x_kk rfl) (x_kk rfl) rfl hS ?_
    refine e_cV (M := mX8_pay) [] 2 12 dX8_pay_48 pa_8060 pb_8060 cc_8060 rfl rfl rfl rfl rfl (x_kk rfl) (x_kk rfl) rfl (hk) rfl ?_
    refine f_aload_n (M := mX8_pay) 52 dX8_pay_51 rfl rfl ?_
    refine e_getR (M := mX8_pay) dX8_pay_52 fl_8026 (x_kk rfl) (x_kk rfl) rfl hS ?_
    refine e_getR (M := mX8_pay) dX8_pay_55 fl_8227 (x_kk rfl) (sl_lt hβ 0 rfl) (sl_s hβ 0 rfl rfl) (wf_6_4 hR hβ) ?_
    refine f_dup (M := mX8_pay) 59 dX8_pay_58 rfl rfl ?_
    refine e_getL (M := mX8_pay) dX8_pay_59 fl_8298 (x_kk rfl) (sl_lt hβ 12 rfl) (sl_s hβ 12 rfl rfl) ?_
    refine f_iload_n (M := mX8_pay) 63 dX8_pay_62 rfl rfl ?_
    refine f_i2l (M := mX8_pay) 64 dX8_pay_63 rfl ?_
    refine f_lsub (M := mX8_pay) 65 dX8_pay_64 rfl ?_
    refine e_putL (M := mX8_pay) dX8_pay_65 fl_8298 (x_kk rfl) (sl_lt hβ 12 rfl) (sl_s hβ 12 rfl rfl) (fun q9 => Bool.noConfusion q9) ?_
    refine f_aload_n (M := mX8_pay) 69 dX8_pay_68 rfl rfl ?_
    refine e_getR (M := mX8_pay) dX8_pay_69 fl_8026 (x_kk rfl) (x_kk rfl) rfl hS ?_
    refine e_getR (M := mX8_pay) dX8_pay_72 fl_8227 (x_kk rfl) (sl_lt hβ 0 rfl) (sl_s hβ 0 rfl rfl) (wf_6_4 hR hβ) ?_
    refine e_getL (M := mX8_pay) dX8_pay_75 fl_8298 (x_kk rfl) (sl_lt hβ 12 rfl) (sl_s hβ 12 rfl rfl) ?_
    refine e_rl (M := mX8_pay) dX8_pay_78 rfl (x_kk rfl) (x_kk rfl) ?_
    exact (by simp only [x_up_self, (h_K H1).2.2.2.2.2.2.2])
  · refine f_iload_n (M := mX8_pay) 1 dX8_pay_0 rfl rfl ?_
    refine f_iconst (M := mX8_pay) 2 dX8_pay_1 ki_1 rfl ?_
    refine f_ldcI (M := mX8_pay) 4 dX8_pay_2 (x_kk rfl) cst_8181 rfl ?_
    refine e_cS (M := mX8_pay) [_] 0 0 dX8_pay_4 pa_8049 cc_8049 rfl rfl rfl rfl rfl (x_kk rfl) (x_kk rfl) rfl (c_X8_isIn (lo := 1) (hi := 1000000000)) rfl ?_
    refine e_cS (M := mX8_pay) [] 1 6 dX8_pay_7 pa_8053 cc_8053 rfl rfl rfl rfl rfl (x_kk rfl) (x_kk rfl) rfl (c_X8_requireArgument (x_bn h0)) rfl ?_
    refine f_aload_n (M := mX8_pay) 11 dX8_pay_10 rfl rfl ?_
    refine e_getR (M := mX8_pay) dX8_pay_11 fl_8026 (x_kk rfl) (x_kk rfl) rfl hS ?_
    refine e_getI (M := mX8_pay) dX8_pay_14 fl_8067 (x_kk rfl) (sl_lt hβ 0 rfl) (sl_s hβ 0 rfl rfl) ?_
    refine f_iconst (M := mX8_pay) 18 dX8_pay_17 ki_3 rfl ?_
    refine e_icmp_eqF (M := mX8_pay) 32 dX8_pay_18 rfl (fun z => absurd ((h_ph H).symm.trans z) (by rw [h1]; decide)) ?_
    refine f_aload_n (M := mX8_pay) 22 dX8_pay_21 rfl rfl ?_
    refine e_getR (M := mX8_pay) dX8_pay_22 fl_8026 (x_kk rfl) (x_kk rfl) rfl hS ?_
    refine e_getI (M := mX8_pay) dX8_pay_25 fl_8067 (x_kk rfl) (sl_lt hβ 0 rfl) (sl_s hβ 0 rfl rfl) ?_
    refine f_iconst (M := mX8_pay) 29 dX8_pay_28 ki_4 rfl ?_
    refine e_icmp_neF (M := mX8_pay) 36 dX8_pay_29 rfl (fun z => z ((h_ph H).trans h1)) ?_
    refine f_iconst (M := mX8_pay) 33 dX8_pay_32 ki_1 rfl ?_
    refine f_goto (M := mX8_pay) 37 dX8_pay_33 rfl ?_
    refine e_cS (M := mX8_pay) [] 2 12 dX8_pay_37 pa_8037 cc_8037 rfl rfl rfl rfl rfl (x_kk rfl) (x_kk rfl) rfl (c_X8_requireState (by decide)) rfl ?_
    refine f_aload_n (M := mX8_pay) 41 dX8_pay_40 rfl rfl ?_
    refine e_getR (M := mX8_pay) dX8_pay_41 fl_8019 (x_kk rfl) (x_kk rfl) rfl (wf_8_1 hR) ?_
    refine f_aload_n (M := mX8_pay) 45 dX8_pay_44 rfl rfl ?_
    refine e_getR (M := mX8_pay) dX8_pay_45 fl_8026 (x_kk rfl) (x_kk rfl) rfl hS ?_
    refine e_cV (M := mX8_pay) [] 2 12 dX8_pay_48 pa_8060 pb_8060 cc_8060 rfl rfl rfl rfl rfl (x_kk rfl) (x_kk rfl) rfl (hk) rfl ?_
    refine f_aload_n (M := mX8_pay) 52 dX8_pay_51 rfl rfl ?_
    refine e_getR (M := mX8_pay) dX8_pay_52 fl_8026 (x_kk rfl) (x_kk rfl) rfl hS ?_
    refine e_getR (M := mX8_pay) dX8_pay_55 fl_8227 (x_kk rfl) (sl_lt hβ 0 rfl) (sl_s hβ 0 rfl rfl) (wf_6_4 hR hβ) ?_
    refine f_dup (M := mX8_pay) 59 dX8_pay_58 rfl rfl ?_
    refine e_getL (M := mX8_pay) dX8_pay_59 fl_8298 (x_kk rfl) (sl_lt hβ 12 rfl) (sl_s hβ 12 rfl rfl) ?_
    refine f_iload_n (M := mX8_pay) 63 dX8_pay_62 rfl rfl ?_
    refine f_i2l (M := mX8_pay) 64 dX8_pay_63 rfl ?_
    refine f_lsub (M := mX8_pay) 65 dX8_pay_64 rfl ?_
    refine e_putL (M := mX8_pay) dX8_pay_65 fl_8298 (x_kk rfl) (sl_lt hβ 12 rfl) (sl_s hβ 12 rfl rfl) (fun q9 => Bool.noConfusion q9) ?_
    refine f_aload_n (M := mX8_pay) 69 dX8_pay_68 rfl rfl ?_
    refine e_getR (M := mX8_pay) dX8_pay_69 fl_8026 (x_kk rfl) (x_kk rfl) rfl hS ?_
    refine e_getR (M := mX8_pay) dX8_pay_72 fl_8227 (x_kk rfl) (sl_lt hβ 0 rfl) (sl_s hβ 0 rfl rfl) (wf_6_4 hR hβ) ?_
    refine e_getL (M := mX8_pay) dX8_pay_75 fl_8298 (x_kk rfl) (sl_lt hβ 12 rfl) (sl_s hβ 12 rfl rfl) ?_
    refine e_rl (M := mX8_pay) dX8_pay_78 rfl (x_kk rfl) (x_kk rfl) ?_
    exact (by simp only [x_up_self, (h_K H1).2.2.2.2.2.2.2])
theorem mx_pay (hR : x_wf R) {a : Nat → Int32} (ha : I 226 = a) {Ns Np Nl Nm : Nat} (Z : y_Z a Ns Np Nl Nm) {I0 : Nat → Nat → Int32} {L0 : Nat → Nat → Int64} (hk : x_Cv X mX9_keeps [.ref 225] (x_tw I 0, L, R) 233 (.inl none, (I0, L0, R), 233)) (ha0 : I0 226 = a) {b : Nat → Int64} (hb0 : L0 229 = b) {w : Int32} (h0 : 1 ≤ w ∧ w ≤ 1000000000) (h1 : a 0 = 3 ∨ a 0 = 4) : x_Cv X mX9_pay [.ref 225, .int w] (I, L, R) 233 (.inl (some (.long (b 0 - w.toInt64))), (I0, va_up L0 229 (va_up b 0 (b 0 - w.toInt64)), R), 233) := by
  subst ha
  obtain ⟨hNs, hn, hNp, hp, hNl, hl, hNm, hmm⟩ := Z
  show x_Ev X mX9_pay 0 [some (.ref 225), some (.int w)] [] ((I, L, R), 233, 0, 0) _
  rcases h1 with h1 | h1
  · refine f_aload_n (M := mX9_pay) 1 dX9_pay_0 rfl rfl ?_
    refine f_iload_n (M := mX9_pay) 2 dX9_pay_1 rfl rfl ?_
    refine f_i2l (M := mX9_pay) 3 dX9_pay_2 rfl ?_
    refine f_lconst (M := mX9_pay) 4 dX9_pay_3 kl_1 rfl ?_
    refine f_ldc2 (M := mX9_pay) 7 dX9_pay_4 (x_kk rfl) csl_9200 rfl ?_
    refine e_cS (M := mX9_pay) [_, _] 0 0 dX9_pay_7 pa_9074 cc_9074 rfl rfl rfl rfl rfl (x_kk rfl) (x_kk rfl) rfl (c_X9_isInI (lo := 1) (hi := 1000000000)) rfl ?_
    refine e_if_neT (M := mX9_pay) 17 dX9_pay_10 rfl (x_bn h0) ?_
    refine f_aload_n (M := mX9_pay) 18 dX9_pay_17 rfl rfl ?_
    refine e_getR (M := mX9_pay) dX9_pay_18 fl_9007 (x_kk rfl) (x_kk rfl) rfl (wf_9_0 hR) ?_
    refine f_iconst (M := mX9_pay) 22 dX9_pay_21 ki_0 rfl ?_
    refine e_ild (M := mX9_pay) (w := 606) (j := 0) dX9_pay_22 (x_kk rfl) rfl kn_0 (by omega) (by omega) ?_
    refine f_iconst (M := mX9_pay) 24 dX9_pay_23 ki_3 rfl ?_
    refine e_icmp_eqT (M := mX9_pay) 41 dX9_pay_24 rfl h1 ?_
    refine f_iconst (M := mX9_pay) 42 dX9_pay_41 ki_0 rfl ?_
    refine e_putI (M := mX9_pay) dX9_pay_42 fl_9033 (x_kk rfl) (x_kk rfl) rfl (fun q9 => Bool.noConfusion q9) ?_
    refine f_aload_n (M := mX9_pay) 46 dX9_pay_45 rfl rfl ?_
    refine e_getI (M := mX9_pay) dX9_pay_46 fl_9033 (x_kk rfl) (x_kk rfl) rfl ?_
    refine e_if_leT (M := mX9_pay) 54 dX9_pay_49 rfl (show (0 : Int32) ≤ 0 by decide) ?_
    refine f_aload_n (M := mX9_pay) 55 dX9_pay_54 rfl rfl ?_
    refine e_cV (M := mX9_pay) [] 0 0 dX9_pay_55 pa_9128 pb_9128 cc_9128 rfl rfl rfl rfl rfl (x_kk rfl) (x_kk rfl) rfl (hk) rfl ?_
    refine f_aload_n (M := mX9_pay) 59 dX9_pay_58 rfl rfl ?_
    refine e_getR (M := mX9_pay) dX9_pay_59 fl_9019 (x_kk rfl) (x_kk rfl) rfl (wf_9_3 hR) ?_
    refine f_iconst (M := mX9_pay) 63 dX9_pay_62 ki_0 rfl ?_
    refine f_dup2 (M := mX9_pay) 64 dX9_pay_63 rfl rfl rfl ?_
    refine e_lld (M := mX9_pay) (w := 37) (j := 0) dX9_pay_64 (x_kk rfl) rfl kn_0 (by omega) (by omega) ?_
    refine f_iload_n (M := mX9_pay) 66 dX9_pay_65 rfl rfl ?_
    refine f_i2l (M := mX9_pay) 67 dX9_pay_66 rfl ?_
    refine f_lsub (M := mX9_pay) 68 dX9_pay_67 rfl ?_
    refine e_lst (M := mX9_pay) (w := 37) (j := 0) dX9_pay_68 (x_kk rfl) rfl kn_0 (by omega) (by omega) ?_
    refine f_aload_n (M := mX9_pay) 70 dX9_pay_69 rfl rfl ?_
    refine e_getR (M := mX9_pay) dX9_pay_70 fl_9019 (x_kk rfl) (x_kk rfl) rfl (wf_9_3 hR) ?_
    refine f_iconst (M := mX9_pay) 74 dX9_pay_73 ki_0 rfl ?_
    refine e_lld (M := mX9_pay) (w := 37) (j := 0) dX9_pay_74 (x_kk rfl) rfl kn_0 (by omega) (by omega) ?_
    refine e_rl (M := mX9_pay) dX9_pay_75 rfl (x_kk rfl) (x_kk rfl) ?_
    exact (by simp only [x_up_self, hb0])
  · refine f_aload_n (M := mX9_pay) 1 dX9_pay_0 rfl rfl ?_
    refine f_iload_n (M := mX9_pay) 2 dX9_pay_1 rfl rfl ?_
    refine f_i2l (M := mX9_pay) 3 dX9_pay_2 rfl ?_
    refine f_lconst (M := mX9_pay) 4 dX9_pay_3 kl_1 rfl ?_
    refine f_ldc2 (M := mX9_pay) 7 dX9_pay_4 (x_kk rfl) csl_9200 rfl ?_
    refine e_cS (M := mX9_pay) [_, _] 0 0 dX9_pay_7 pa_9074 cc_9074 rfl rfl rfl rfl rfl (x_kk rfl) (x_kk rfl) rfl (c_X9_isInI (lo := 1) (hi := 1000000000)) rfl ?_
    refine e_if_neT (M := mX9_pay) 17 dX9_pay_10 rfl (x_bn h0) ?_
    refine f_aload_n (M := mX9_pay) 18 dX9_pay_17 rfl rfl ?_
    refine e_getR (M := mX9_pay) dX9_pay_18 fl_9007 (x_kk rfl) (x_kk rfl) rfl (wf_9_0 hR) ?_
    refine f_iconst (M := mX9_pay) 22 dX9_pay_21 ki_0 rfl ?_
    refine e_ild (M := mX9_pay) (w := 606) (j := 0) dX9_pay_22 (x_kk rfl) rfl kn_0 (by omega) (by omega) ?_
    refine f_iconst (M := mX9_pay) 24 dX9_pay_23 ki_3 rfl ?_
    refine e_icmp_eqF (M := mX9_pay) 41 dX9_pay_24 rfl (by show ¬ I 226 0 = 3; rw [h1]; decide) ?_
    refine f_aload_n (M := mX9_pay) 28 dX9_pay_27 rfl rfl ?_
    refine e_getR (M := mX9_pay) dX9_pay_28 fl_9007 (x_kk rfl) (x_kk rfl) rfl (wf_9_0 hR) ?_
    refine f_iconst (M := mX9_pay) 32 dX9_pay_31 ki_0 rfl ?_
    refine e_ild (M := mX9_pay) (w := 606) (j := 0) dX9_pay_32 (x_kk rfl) rfl kn_0 (by omega) (by omega) ?_
    refine f_iconst (M := mX9_pay) 34 dX9_pay_33 ki_4 rfl ?_
    refine e_icmp_eqT (M := mX9_pay) 41 dX9_pay_34 rfl h1 ?_
    refine f_iconst (M := mX9_pay) 42 dX9_pay_41 ki_0 rfl ?_
    refine e_putI (M := mX9_pay) dX9_pay_42 fl_9033 (x_kk rfl) (x_kk rfl) rfl (fun q9 => Bool.noConfusion q9) ?_
    refine f_aload_n (M := mX9_pay) 46 dX9_pay_45 rfl rfl ?_
    refine e_getI (M := mX9_pay) dX9_pay_46 fl_9033 (x_kk rfl) (x_kk rfl) rfl ?_
    refine e_if_leT (M := mX9_pay) 54 dX9_pay_49 rfl (show (0 : Int32) ≤ 0 by decide) ?_
    refine f_aload_n (M := mX9_pay) 55 dX9_pay_54 rfl rfl ?_
    refine e_cV (M := mX9_pay) [] 0 0 dX9_pay_55 pa_9128 pb_9128 cc_9128 rfl rfl rfl rfl rfl (x_kk rfl) (x_kk rfl) rfl (hk) rfl ?_
    refine f_aload_n (M := mX9_pay) 59 dX9_pay_58 rfl rfl ?_
    refine e_getR (M := mX9_pay) dX9_pay_59 fl_9019 (x_kk rfl) (x_kk rfl) rfl (wf_9_3 hR) ?_
    refine f_iconst (M := mX9_pay) 63 dX9_pay_62 ki_0 rfl ?_
    refine f_dup2 (M := mX9_pay) 64 dX9_pay_63 rfl rfl rfl ?_
    refine e_lld (M := mX9_pay) (w := 37) (j := 0) dX9_pay_64 (x_kk rfl) rfl kn_0 (by omega) (by omega) ?_
    refine f_iload_n (M := mX9_pay) 66 dX9_pay_65 rfl rfl ?_
    refine f_i2l (M := mX9_pay) 67 dX9_pay_66 rfl ?_
    refine f_lsub (M := mX9_pay) 68 dX9_pay_67 rfl ?_
    refine e_lst (M := mX9_pay) (w := 37) (j := 0) dX9_pay_68 (x_kk rfl) rfl kn_0 (by omega) (by omega) ?_
    refine f_aload_n (M := mX9_pay) 70 dX9_pay_69 rfl rfl ?_
    refine e_getR (M := mX9_pay) dX9_pay_70 fl_9019 (x_kk rfl) (x_kk rfl) rfl (wf_9_3 hR) ?_
    refine f_iconst (M := mX9_pay) 74 dX9_pay_73 ki_0 rfl ?_
    refine e_lld (M := mX9_pay) (w := 37) (j := 0) dX9_pay_74 (x_kk rfl) rfl kn_0 (by omega) (by omega) ?_
    refine e_rl (M := mX9_pay) dX9_pay_75 rfl (x_kk rfl) (x_kk rfl) ?_
    exact (by simp only [x_up_self, hb0])
theorem RK_b {β : Nat} {a : Nat → Int32} {b b' : Nat → Int64} {L' : Nat → Nat → Int64} (hL : L' (β + 12) 7 = b' 0) (hL2 : ∀ m, m < 36 → L' (β + 16) m = b' (1 + m)) (h : y_RK I L β a b) : y_RK I L' β a b' := by
  obtain ⟨h1, h2, h4, h5, h6, h7, h8, h9⟩ := h
  exact ⟨h1, h2, h4, h5, h6, h7, hL2, hL⟩
theorem sim_pay (T : y_T N I L R) {w : Int32} : y_OL N X mL_pay [.ref 0, .int w, .ref 232] mX9_pay [.ref 225, .int w] I L R := by
  have T0 := T
  obtain ⟨a, b, kn, ks, bf, bn, ep, ⟨β, δ, γ, ν, hB⟩, hM, hI⟩ := T
  have H : y_CS N I L R β a b := ⟨hM.1, hB.1.2.1, hB.1.2.2.2.2.1, hB.2.2.2.2.2.1, hI.1⟩
  obtain ⟨Ns, Np, Nl, Nm, Z⟩ := Z_of hI.1
  have hR := hM.1
  have ha : I 226 = a := hM.2.1
  have hb : L 229 = b := hM.2.2.1
  subst ha
  subst hb
  obtain ⟨hNs, hn, hNp, hp, hNl, hl, hNm, hmm⟩ := id Z
  by_cases h0 : 1 ≤ w ∧ w ≤ 1000000000
  · skip
    by_cases h1 : I 226 0 = 3 ∨ I 226 0 = 4
    · skip
      obtain ⟨I0, L0, hk, S1, fr, sm⟩ := keep_ok (X := X) hB (h60_of (h_IL H))
      have H1 : y_CS N I0 L0 R β (I 226) (L 229) := ⟨hR, h_β H, h_S H, S1.2.2.2.2.2.1, hI.1⟩
      have hβ := h_β H
      have k1 := w_pay (kx_pay H Z hk H1 h0 h1 )
      have out : ∀ cc, (∀ j, j < 22 → ¬ cc = β + j) → I0 cc = I0 cc ∧ (va_up L0 (β + 12) (va_up (L0 (β + 12)) 7 (L 229 0 - w.toInt64))) cc = L0 cc := fun cc ho => ⟨rfl, (x_up_ne _ _ (ho 12 (by decide)))⟩
      have M1 := SM_f (I' := I0) (L' := va_up (va_up L0 (β + 12) (va_up (L0 (β + 12)) 7 (L 229 0 - w.toInt64))) 232 (va_up ((va_up L0 (β + 12) (va_up (L0 (β + 12)) 7 (L 229 0 - w.toInt64))) 232) 0 (L 229 0 - w.toInt64))) hM hR (fun cc z1 z2 => ⟨(out cc (fun j hj => sl_far hβ (Or.inr z1) hj)).1.trans (fr cc z1).1, (x_up_ne _ _ (by omega)).trans ((out cc (fun j hj => sl_far hβ (Or.inr z1) hj)).2.trans (fr cc z1).2)⟩)
      obtain ⟨I2, L2, hk9, M2, t6, l25, fr9⟩ := keeps_ok (X := X) (SM_tw (t := 0) M1)
      have m1 := mx_pay hR M1.2.1 Z hk9 M2.2.1 M2.2.2.1 h0 h1 
      refine OL_c (a' := (I 226)) (b' := (va_up (L 229) 0 (L 229 0 - w.toInt64))) k1 ⟨β, δ, γ, _, SB_u S1 out ?_⟩ m1 ?_ (SM_b M2) (fr_t fr_tw (fr_t fr9 fr_b)) (In_p (by omega) hI ?_)
      · exact ⟨h_ph H1, h_T H1, h_C H1, h_B H1, RK_b (by rw [x_up_self, x_up_self, x_up_self]) (fun m hm => by rw [x_up_ne _ _ (show β + 16 ≠ β + 12 by omega), x_up_ne _ _ (by omega)]; exact (h_K H1).2.2.2.2.2.2.1 m hm) (h_K H1), h_L H1⟩
      · exact t6
      · have i1 := hI.1
        exact ⟨i1.1, i1.2.1, IB_m (by omega) i1.2.2.1, i1.2.2.2.1, i1.2.2.2.2.1, i1.2.2.2.2.2.1, i1.2.2.2.2.2.2.1, fun j hj => (x_up_ne _ _ (by omega)).trans (i1.2.2.2.2.2.2.2 j hj)⟩
    · exact OL_x T0 (by decide) (w_pay_x0 (kf_pay_1 H Z h0 h1)) (mf_pay_1 hR Z h0 h1)
  · exact OL_x T0 (by decide) (w_pay_x1 (kf_pay_0 H Z h0)) (mf_pay_0 hR Z h0)
end

/-! ===== changes of both, eleventh: advertise (laid by wip/whole/src/w11.py) ===== -/
section
variable {X : x_X} {I : Nat → Nat → Int32} {L : Nat → Nat → Int64} {R : Nat → Nat → Option Nat} {N : Nat}
theorem kf_advertise_0 {N β : Nat} {a : Nat → Int32} {b : Nat → Int64} (H : y_CS N I L R β a b) {Ns Np Nl Nm : Nat} (Z : y_Z a Ns Np Nl Nm) (h0 : ¬ (a 0 = 0 ∨ a 0 = 5)) : x_Cv X mX8_advertise [.ref 0] (I, L, R) 233 (.inr 0, (I, L, R), 233) := by
  obtain ⟨hNs, hn, hNp, hp, hNl, hl, hNm, hmm⟩ := Z
  have hR := h_R H
  have hβ := h_β H
  have hS := h_S H
  show x_Ev X mX8_advertise 0 [some (.ref 0)] [] ((I, L, R), 233, 0, 0) _
  refine f_aload_n (M := mX8_advertise) 1 dX8_advertise_0 rfl rfl ?_
  refine e_getR (M := mX8_advertise) dX8_advertise_1 fl_8026 (x_kk rfl) (x_kk rfl) rfl hS ?_
  refine e_getI (M := mX8_advertise) dX8_advertise_4 fl_8067 (x_kk rfl) (sl_lt hβ 0 rfl) (sl_s hβ 0 rfl rfl) ?_
  refine e_if_eqF (M := mX8_advertise) 21 dX8_advertise_7 rfl (fun z => h0 (Or.inl ((h_ph H).symm.trans z))) ?_
  refine f_aload_n (M := mX8_advertise) 11 dX8_advertise_10 rfl rfl ?_
  refine e_getR (M := mX8_advertise) dX8_advertise_11 fl_8026 (x_kk rfl) (x_kk rfl) rfl hS ?_
  refine e_getI (M := mX8_advertise) dX8_advertise_14 fl_8067 (x_kk rfl) (sl_lt hβ 0 rfl) (sl_s hβ 0 rfl rfl) ?_
  refine f_iconst (M := mX8_advertise) 18 dX8_advertise_17 ki_5 rfl ?_
  refine e_icmp_neT (M := mX8_advertise) 38 dX8_advertise_18 rfl (fun z => h0 (Or.inr ((h_ph H).symm.trans z))) ?_
  refine f_iconst (M := mX8_advertise) 39 dX8_advertise_38 ki_0 rfl ?_
  exact e_cSX (M := mX8_advertise) 1 6 dX8_advertise_39 pa_8037 cc_8037 rfl rfl rfl rfl rfl (x_kk rfl) (x_kk rfl) rfl (c_X8_requireState_x rfl) rfl
theorem mf_advertise_0 (hR : x_wf R) {Ns Np Nl Nm : Nat} (Z : y_Z (I 226) Ns Np Nl Nm) (h0 : ¬ (I 226 0 = 0 ∨ I 226 0 = 5)) : x_Cv X mX9_advertise [.ref 225] (I, L, R) 233 (.inl (some (.int (0))), (x_tw I 1, L, R), 233) := by
  obtain ⟨hNs, hn, hNp, hp, hNl, hl, hNm, hmm⟩ := Z
  show x_Ev X mX9_advertise 0 [some (.ref 225), none, none, none, none] [] ((I, L, R), 233, 0, 0) _
  refine f_aload_n (M := mX9_advertise) 1 dX9_advertise_0 rfl rfl ?_
  refine f_aload_n (M := mX9_advertise) 2 dX9_advertise_1 rfl rfl ?_
  refine e_getR (M := mX9_advertise) dX9_advertise_2 fl_9007 (x_kk rfl) (x_kk rfl) rfl (wf_9_0 hR) ?_
  refine f_iconst (M := mX9_advertise) 6 dX9_advertise_5 ki_0 rfl ?_
  refine e_ild (M := mX9_advertise) (w := 606) (j := 0) dX9_advertise_6 (x_kk rfl) rfl kn_0 (by omega) (by omega) ?_
  refine e_if_eqF (M := mX9_advertise) 20 dX9_advertise_7 rfl (fun z => h0 (Or.inl z)) ?_
  refine f_aload_n (M := mX9_advertise) 11 dX9_advertise_10 rfl rfl ?_
  refine e_getR (M := mX9_advertise) dX9_advertise_11 fl_9007 (x_kk rfl) (x_kk rfl) rfl (wf_9_0 hR) ?_
  refine f_iconst (M := mX9_advertise) 15 dX9_advertise_14 ki_0 rfl ?_
  refine e_ild (M := mX9_advertise) (w := 606) (j := 0) dX9_advertise_15 (x_kk rfl) rfl kn_0 (by omega) (by omega) ?_
  refine f_iconst (M := mX9_advertise) 17 dX9_advertise_16 ki_5 rfl ?_
  refine e_icmp_neT (M := mX9_advertise) 30 dX9_advertise_17 rfl (fun z => h0 (Or.inr z)) ?_
  refine f_iconst (M := mX9_advertise) 31 dX9_advertise_30 ki_1 rfl ?_
  refine f_goto (M := mX9_advertise) 35 dX9_advertise_31 rfl ?_
  refine e_putI (M := mX9_advertise) dX9_advertise_35 fl_9033 (x_kk rfl) (x_kk rfl) rfl (fun q9 => Bool.noConfusion q9) ?_
  refine f_aload_n (M := mX9_advertise) 39 dX9_advertise_38 rfl rfl ?_
  refine e_getI (M := mX9_advertise) dX9_advertise_39 fl_9033 (x_kk rfl) (x_kk rfl) rfl ?_
  refine e_if_leF (M := mX9_advertise) 47 dX9_advertise_42 rfl (show ¬ ((1 : Int32) ≤ 0) by decide) ?_
  refine f_iconst (M := mX9_advertise) 46 dX9_advertise_45 ki_0 rfl ?_
  refine e_ri (M := mX9_advertise) dX9_advertise_46 rfl (x_kk rfl) (x_kk rfl) ?_
  rfl
theorem z_s0 {f : Nat → Int32} {k : Nat} : va_up (y_z f 0 k) k 0 = y_z f 0 (k + 1) := by
  have h := z_s (f := f) (m := 0) (k := k)
  rw [Nat.zero_add] at h
  exact h
/-- places from m on take g -/
def y_put (f : Nat → Int32) (m : Nat) (g : Nat → Int32) (k : Nat) : Nat → Int32 := fun j => if m ≤ j ∧ j < m + k then g (j - m) else f j
theorem pt_s {f g : Nat → Int32} {m k : Nat} : va_up (y_put f m g k) (m + k) (g k) = y_put f m g (k + 1) := by
  funext j
  unfold va_up y_put
  by_cases e : j = m + k
  · rw [if_pos e, if_pos (by omega), e, Nat.add_sub_cancel_left]
  · rw [if_neg e]
    by_cases h : m ≤ j ∧ j < m + k
    · rw [if_pos h, if_pos (by omega)]
    · rw [if_neg h, if_neg (by omega)]
theorem pt_0 {f g : Nat → Int32} {m : Nat} : y_put f m g 0 = f := by
  funext j
  unfold y_put
  rw [if_neg (by omega)]
theorem pt_o {f g : Nat → Int32} {m k j : Nat} (h : ¬ (m ≤ j ∧ j < m + k)) : y_put f m g k j = f j := if_neg h
theorem pt_i {f g : Nat → Int32} {m k s : Nat} (h : s < k) : y_put f m g k (m + s) = g s := by
  unfold y_put
  rw [if_pos (by omega), Nat.add_sub_cancel_left]
theorem l_J7_fill {p w : Nat} (hr : p < 233) (hs : x_shp p = (1, w)) (hw : w < 5000) : ∀ d k, k + d = w → x_Ev X mJ7_fill_53178 5 [some (.ref p), some (.int 0), some (.int (Int32.ofNat k)), some (.int (Int32.ofNat w))] [] (((va_up I p (y_z (I p) 0 k)), L, R), 233, 0, 0) (.inl none, ((va_up I p (y_z (I p) 0 w)), L, R), 233) := by
  intro d
  induction d with
  | zero =>
    intro k hd
    obtain rfl : w = k := hd.symm
    refine f_iload_n (M := mJ7_fill_53178) 6 dJ7_fill_53178_5 rfl rfl ?_
    refine f_iload_n (M := mJ7_fill_53178) 7 dJ7_fill_53178_6 rfl rfl ?_
    refine e_icmp_geT (M := mJ7_fill_53178) 20 dJ7_fill_53178_7 rfl (Int32.le_refl _) ?_
    refine e_rv (M := mJ7_fill_53178) dJ7_fill_53178_20 rfl (x_kk rfl) (x_kk rfl) ?_
    rfl
  | succ d ih =>
    intro k hd
    refine f_iload_n (M := mJ7_fill_53178) 6 dJ7_fill_53178_5 rfl rfl ?_
    refine f_iload_n (M := mJ7_fill_53178) 7 dJ7_fill_53178_6 rfl rfl ?_
    refine e_icmp_geF (M := mJ7_fill_53178) 20 dJ7_fill_53178_7 rfl (by rw [n_le (by omega) (by omega)]; omega) ?_
    refine f_aload_n (M := mJ7_fill_53178) 11 dJ7_fill_53178_10 rfl rfl ?_
    refine f_iload_n (M := mJ7_fill_53178) 12 dJ7_fill_53178_11 rfl rfl ?_
    refine f_iload_n (M := mJ7_fill_53178) 13 dJ7_fill_53178_12 rfl rfl ?_
    refine e_ist (M := mJ7_fill_53178) (w := w) (j := k) dJ7_fill_53178_13 hr hs rfl (by omega) (by omega) ?_
    refine f_iinc (M := mJ7_fill_53178) (ls' := [_, _, _, _]) 17 dJ7_fill_53178_14 ki_1 rfl rfl rfl rfl ?_
    refine f_goto (M := mJ7_fill_53178) 5 dJ7_fill_53178_17 rfl ?_
    rw [n_inc (s := k), up_s, up_up, z_s0]; exact ih (k + 1) (by omega)
theorem c_J7_fill_53178 {p w : Nat} (hr : p < 233) (hs : x_shp p = (1, w)) (hw : w < 5000) : x_Cv X mJ7_fill_53178 [.ref p, .int 0] (I, L, R) 233 (.inl none, ((va_up I p (y_z (I p) 0 w)), L, R), 233) := by
  show x_Ev X mJ7_fill_53178 0 [some (.ref p), some (.int 0), none, none] [] ((I, L, R), 233, 0, 0) _
  refine f_iconst (M := mJ7_fill_53178) 1 dJ7_fill_53178_0 ki_0 rfl ?_
  refine f_istore_n (M := mJ7_fill_53178) (ls' := [_, _, _, _]) 2 dJ7_fill_53178_1 rfl rfl rfl ?_
  refine f_aload_n (M := mJ7_fill_53178) 3 dJ7_fill_53178_2 rfl rfl ?_
  refine e_len (M := mJ7_fill_53178) (w := w) (t := 1) dJ7_fill_53178_3 hr hs rfl ?_
  refine f_istore_n (M := mJ7_fill_53178) (ls' := [_, _, _, _]) 5 dJ7_fill_53178_4 rfl rfl rfl ?_
  have l1 := l_J7_fill (X := X) (I := I) (L := L) (R := R) hr hs hw w 0 (by omega); rw [z_0, up_self] at l1; exact l1
theorem c_X0_clear (hR : x_wf R) {β : Nat} (hβ : x_sl β) : x_Cv X mX0_clear [.ref (β + 7)] (I, L, R) 233 (.inl none, ((va_up (va_up (va_up (va_up (va_up I (β + 8) (y_z (I (β + 8)) 0 6)) (β + 9) (y_z (I (β + 9)) 0 48)) (β + 10) (y_z (I (β + 10)) 0 8)) (β + 11) (y_z (I (β + 11)) 0 8)) (β + 7) (va_up (va_up (I (β + 7)) 4 0) 5 (-1))), L, R), 233) := by
  show x_Ev X mX0_clear 0 [some (.ref (β + 7))] [] ((I, L, R), 233, 0, 0) _
  refine f_aload_n (M := mX0_clear) 1 dX0_clear_0 rfl rfl ?_
  refine e_getR (M := mX0_clear) dX0_clear_1 fl_9 (x_kk rfl) (sl_lt hβ 7 rfl) (sl_s hβ 7 rfl rfl) (wf_0_0 hR hβ) ?_
  refine f_iconst (M := mX0_clear) 5 dX0_clear_4 ki_0 rfl ?_
  refine e_cS (M := mX0_clear) [] 0 0 dX0_clear_5 pa_28 cc_28 rfl rfl rfl rfl rfl (x_kk rfl) (x_kk rfl) rfl (c_J7_fill_53178 (sl_lt hβ 8 rfl) (sl_shp hβ 8 rfl) (by decide)) rfl ?_
  refine f_aload_n (M := mX0_clear) 9 dX0_clear_8 rfl rfl ?_
  refine e_getR (M := mX0_clear) dX0_clear_9 fl_15 (x_kk rfl) (sl_lt hβ 7 rfl) (sl_s hβ 7 rfl rfl) (wf_0_1 hR hβ) ?_
  refine f_iconst (M := mX0_clear) 13 dX0_clear_12 ki_0 rfl ?_
  refine e_cS (M := mX0_clear) [] 0 0 dX0_clear_13 pa_28 cc_28 rfl rfl rfl rfl rfl (x_kk rfl) (x_kk rfl) rfl (c_J7_fill_53178 (sl_lt hβ 9 rfl) (sl_shp hβ 9 rfl) (by decide)) rfl ?_
  refine f_aload_n (M := mX0_clear) 17 dX0_clear_16 rfl rfl ?_
  refine e_getR (M := mX0_clear) dX0_clear_17 fl_18 (x_kk rfl) (sl_lt hβ 7 rfl) (sl_s hβ 7 rfl rfl) (wf_0_2 hR hβ) ?_
  refine f_iconst (M := mX0_clear) 21 dX0_clear_20 ki_0 rfl ?_
  refine e_cS (M := mX0_clear) [] 0 0 dX0_clear_21 pa_28 cc_28 rfl rfl rfl rfl rfl (x_kk rfl) (x_kk rfl) rfl (c_J7_fill_53178 (sl_lt hβ 10 rfl) (sl_shp hβ 10 rfl) (by decide)) rfl ?_
  refine f_aload_n (M := mX0_clear) 25 dX0_clear_24 rfl rfl ?_
  refine e_getR (M := mX0_clear) dX0_clear_25 fl_21 (x_kk rfl) (sl_lt hβ 7 rfl) (sl_s hβ 7 rfl rfl) (wf_0_3 hR hβ) ?_
  refine f_iconst (M := mX0_clear) 29 dX0_clear_28 ki_0 rfl ?_
  refine e_cS (M := mX0_clear) [] 0 0 dX0_clear_29 pa_28 cc_28 rfl rfl rfl rfl rfl (x_kk rfl) (x_kk rfl) rfl (c_J7_fill_53178 (sl_lt hβ 11 rfl) (sl_shp hβ 11 rfl) (by decide)) rfl ?_
  refine f_aload_n (M := mX0_clear) 33 dX0_clear_32 rfl rfl ?_
  refine f_iconst (M := mX0_clear) 34 dX0_clear_33 ki_0 rfl ?_
  refine e_putI (M := mX0_clear) dX0_clear_34 fl_34 (x_kk rfl) (sl_lt hβ 7 rfl) (sl_s hβ 7 rfl rfl) (fun q9 => Bool.noConfusion q9) ?_
  refine f_aload_n (M := mX0_clear) 38 dX0_clear_37 rfl rfl ?_
  refine f_iconst (M := mX0_clear) 39 dX0_clear_38 ki_m1 rfl ?_
  refine e_putI (M := mX0_clear) dX0_clear_39 fl_24 (x_kk rfl) (sl_lt hβ 7 rfl) (sl_s hβ 7 rfl rfl) (fun q9 => Bool.noConfusion q9) ?_
  refine e_rv (M := mX0_clear) dX0_clear_42 rfl (x_kk rfl) (x_kk rfl) ?_
  exact (by simp only [x_up_self, up_up, x_up_ne _ _ (show β + 7 ≠ β + 8 by omega), x_up_ne _ _ (show β + 7 ≠ β + 9 by omega), x_up_ne _ _ (show β + 7 ≠ β + 10 by omega), x_up_ne _ _ (show β + 7 ≠ β + 11 by omega), x_up_ne _ _ (show β + 8 ≠ β + 7 by omega), x_up_ne _ _ (show β + 8 ≠ β + 9 by omega), x_up_ne _ _ (show β + 8 ≠ β + 10 by omega), x_up_ne _ _ (show β + 8 ≠ β + 11 by omega), x_up_ne _ _ (show β + 9 ≠ β + 7 by omega), x_up_ne _ _ (show β + 9 ≠ β + 8 by omega), x_up_ne _ _ (show β + 9 ≠ β + 10 by omega), x_up_ne _ _ (show β + 9 ≠ β + 11 by omega), x_up_ne _ _ (show β + 10 ≠ β + 7 by omega), x_up_ne _ _ (show β + 10 ≠ β + 8 by omega), x_up_ne _ _ (show β + 10 ≠ β + 9 by omega), x_up_ne _ _ (show β + 10 ≠ β + 11 by omega), x_up_ne _ _ (show β + 11 ≠ β + 7 by omega), x_up_ne _ _ (show β + 11 ≠ β + 8 by omega), x_up_ne _ _ (show β + 11 ≠ β + 9 by omega), x_up_ne _ _ (show β + 11 ≠ β + 10 by omega)])
theorem l_X6_beginBidding (hR : x_wf R) {β : Nat} (hβ : x_sl β) {Ns : Nat} (hNs : Ns ≤ 6) (hn : I (β + 1) 0 = Int32.ofNat Ns) {g : Nat → Int32} (hest : ∀ J', (∀ k, ¬ k = 8 → J' (β + k) = I (β + k)) → ∀ s, s < 6 → x_Cv X mX2_roundedEstimate [.ref (β + 5), .int (Int32.ofNat s), .int (I (β + 2) 0)] (J', L, R) 233 (.inl (some (.int (g s))), (J', L, R), 233)) : ∀ d k, k + d = Ns → x_Ev X mX6_beginBidding 2 [some (.ref β), some (.int (Int32.ofNat k))] [] (((va_up I (β + 8) (x_mix g (I (β + 8)) k)), L, R), 233, 0, 0) (.inl none, (va_up (va_up I (β + 8) (x_mix g (I (β + 8)) Ns)) β (va_up (I β) 0 1), L, R), 233) := by
  intro d
  induction d with
  | zero =>
    intro k hd
    obtain rfl : Ns = k := by omega
    refine f_iload_n (M := mX6_beginBidding) 3 dX6_beginBidding_2 rfl rfl ?_
    refine f_aload_n (M := mX6_beginBidding) 4 dX6_beginBidding_3 rfl rfl ?_
    refine e_getR (M := mX6_beginBidding) dX6_beginBidding_4 fl_6012 (x_kk rfl) (sl_lt hβ 0 rfl) (sl_s hβ 0 rfl rfl) (wf_6_1 hR hβ) ?_
    refine e_getI (M := mX6_beginBidding) dX6_beginBidding_7 fl_6077 (x_kk rfl) (sl_lt hβ 1 rfl) (sl_s hβ 1 rfl rfl) ?_
    refine e_icmp_geT (M := mX6_beginBidding) 45 dX6_beginBidding_10 rfl (by rw [x_up_ne _ _ (show β + 1 ≠ β + 8 by omega), hn]; exact Int32.le_refl _) ?_
    refine f_aload_n (M := mX6_beginBidding) 46 dX6_beginBidding_45 rfl rfl ?_
    refine f_iconst (M := mX6_beginBidding) 47 dX6_beginBidding_46 ki_1 rfl ?_
    refine e_putI (M := mX6_beginBidding) dX6_beginBidding_47 fl_6046 (x_kk rfl) (sl_lt hβ 0 rfl) (sl_s hβ 0 rfl rfl) (fun q9 => Bool.noConfusion q9) ?_
    refine e_rv (M := mX6_beginBidding) dX6_beginBidding_50 rfl (x_kk rfl) (x_kk rfl) ?_
    exact (by simp only [x_up_ne _ _ (show β ≠ β + 8 by omega)])
  | succ d ih =>
    intro k hd
    refine f_iload_n (M := mX6_beginBidding) 3 dX6_beginBidding_2 rfl rfl ?_
    refine f_aload_n (M := mX6_beginBidding) 4 dX6_beginBidding_3 rfl rfl ?_
    refine e_getR (M := mX6_beginBidding) dX6_beginBidding_4 fl_6012 (x_kk rfl) (sl_lt hβ 0 rfl) (sl_s hβ 0 rfl rfl) (wf_6_1 hR hβ) ?_
    refine e_getI (M := mX6_beginBidding) dX6_beginBidding_7 fl_6077 (x_kk rfl) (sl_lt hβ 1 rfl) (sl_s hβ 1 rfl rfl) ?_
    refine e_icmp_geF (M := mX6_beginBidding) 45 dX6_beginBidding_10 rfl (by rw [x_up_ne _ _ (show β + 1 ≠ β + 8 by omega), hn, n_le (by omega) (by omega)]; omega) ?_
    refine f_aload_n (M := mX6_beginBidding) 14 dX6_beginBidding_13 rfl rfl ?_
    refine e_getR (M := mX6_beginBidding) dX6_beginBidding_14 fl_6028 (x_kk rfl) (sl_lt hβ 0 rfl) (sl_s hβ 0 rfl rfl) (wf_6_3 hR hβ) ?_
    refine e_getR (M := mX6_beginBidding) dX6_beginBidding_17 fl_6080 (x_kk rfl) (sl_lt hβ 7 rfl) (sl_s hβ 7 rfl rfl) (wf_0_0 hR hβ) ?_
    refine f_iload_n (M := mX6_beginBidding) 21 dX6_beginBidding_20 rfl rfl ?_
    refine f_aload_n (M := mX6_beginBidding) 22 dX6_beginBidding_21 rfl rfl ?_
    refine e_getR (M := mX6_beginBidding) dX6_beginBidding_22 fl_6021 (x_kk rfl) (sl_lt hβ 0 rfl) (sl_s hβ 0 rfl rfl) (wf_6_2 hR hβ) ?_
    refine f_iload_n (M := mX6_beginBidding) 26 dX6_beginBidding_25 rfl rfl ?_
    refine f_aload_n (M := mX6_beginBidding) 27 dX6_beginBidding_26 rfl rfl ?_
    refine e_getR (M := mX6_beginBidding) dX6_beginBidding_27 fl_6012 (x_kk rfl) (sl_lt hβ 0 rfl) (sl_s hβ 0 rfl rfl) (wf_6_1 hR hβ) ?_
    refine e_getR (M := mX6_beginBidding) dX6_beginBidding_30 fl_6084 (x_kk rfl) (sl_lt hβ 1 rfl) (sl_s hβ 1 rfl rfl) (wf_7_1 hR hβ) ?_
    refine f_iconst (M := mX6_beginBidding) 34 dX6_beginBidding_33 ki_0 rfl ?_
    refine e_ild (M := mX6_beginBidding) (w := 7) (j := 0) dX6_beginBidding_34 (sl_lt hβ 2 rfl) (sl_shp hβ 2 rfl) kn_0 (by omega) (by omega) ?_
    rw [x_up_ne _ _ (show β + 2 ≠ β + 8 by omega)]
    refine e_cV (M := mX6_beginBidding) [_, _, _] 0 0 dX6_beginBidding_35 pa_6087 pb_6087 cc_6087 rfl rfl rfl rfl rfl (x_kk rfl) (x_kk rfl) (x_rcvOK (sl_lt hβ 5 rfl) (sl_s hβ 5 rfl rfl) rfl) (hest _ (fun k hk => x_up_ne _ _ (by omega)) k (by omega)) rfl ?_
    refine e_ist (M := mX6_beginBidding) (w := 6) (j := k) dX6_beginBidding_38 (sl_lt hβ 8 rfl) (sl_shp hβ 8 rfl) rfl (by omega) (by omega) ?_
    refine f_iinc (M := mX6_beginBidding) (ls' := [_, _]) 42 dX6_beginBidding_39 ki_1 rfl rfl rfl rfl ?_
    refine f_goto (M := mX6_beginBidding) 2 dX6_beginBidding_42 rfl ?_
    rw [n_inc (s := k), up_s, up_up, mix_up rfl]; exact ih (k + 1) (by omega)
theorem c_X6_beginBidding (hR : x_wf R) {β : Nat} (hβ : x_sl β) {Ns : Nat} (hNs : Ns ≤ 6) (hn : I (β + 1) 0 = Int32.ofNat Ns) {g : Nat → Int32} (hest : ∀ J', (∀ k, ¬ k = 8 → J' (β + k) = I (β + k)) → ∀ s, s < 6 → x_Cv X mX2_roundedEstimate [.ref (β + 5), .int (Int32.ofNat s), .int (I (β + 2) 0)] (J', L, R) 233 (.inl (some (.int (g s))), (J', L, R), 233)) : x_Cv X mX6_beginBidding [.ref β] (I, L, R) 233 (.inl none, (va_up (va_up I (β + 8) (x_mix g (I (β + 8)) Ns)) β (va_up (I β) 0 1), L, R), 233) := by
  show x_Ev X mX6_beginBidding 0 [some (.ref β), none] [] ((I, L, R), 233, 0, 0) _
  refine f_iconst (M := mX6_beginBidding) 1 dX6_beginBidding_0 ki_0 rfl ?_
  refine f_istore_n (M := mX6_beginBidding) (ls' := [_, _]) 2 dX6_beginBidding_1 rfl rfl rfl ?_
  have l1 := l_X6_beginBidding hR hβ hNs hn hest Ns 0 (by omega); rw [mix_0, up_self] at l1; exact l1
theorem l_X6_beginSecondBidding (hR : x_wf R) {β : Nat} (hβ : x_sl β) {Ns Nl : Nat} (hNs : Ns ≤ 6) (hn : I (β + 1) 0 = Int32.ofNat Ns) (hNl : Nl ≤ 60) (hl : I (β + 17) 0 = Int32.ofNat Nl) {g : Nat → Int32} (hrem : ∀ J', (∀ k, ¬ k = 8 → J' (β + k) = I (β + k)) → ∀ s, s < 6 → cv_rem J' β s Nl = g s) : ∀ d k, k + d = Ns → x_Ev X mX6_beginSecondBidding 9 [some (.ref β), some (.int (Int32.ofNat k))] [] (((va_up I (β + 8) (x_mix g (I (β + 8)) k)), L, R), 233, 0, 0) (.inl none, ((va_up (va_up (va_up I (β + 8) (x_mix g (I (β + 8)) Ns)) (β + 7) (va_up (I (β + 7)) 5 (I (β + 12) 4))) β (va_up (I β) 0 6)), L, R), 233) := by
  intro d
  induction d with
  | zero =>
    intro k hd
    obtain rfl : Ns = k := by omega
    refine f_iload_n (M := mX6_beginSecondBidding) 10 dX6_beginSecondBidding_9 rfl rfl ?_
    refine f_aload_n (M := mX6_beginSecondBidding) 11 dX6_beginSecondBidding_10 rfl rfl ?_
    refine e_getR (M := mX6_beginSecondBidding) dX6_beginSecondBidding_11 fl_6012 (x_kk rfl) (sl_lt hβ 0 rfl) (sl_s hβ 0 rfl rfl) (wf_6_1 hR hβ) ?_
    refine e_getI (M := mX6_beginSecondBidding) dX6_beginSecondBidding_14 fl_6077 (x_kk rfl) (sl_lt hβ 1 rfl) (sl_s hβ 1 rfl rfl) ?_
    refine e_icmp_geT (M := mX6_beginSecondBidding) 40 dX6_beginSecondBidding_17 rfl (by rw [x_up_ne _ _ (show β + 1 ≠ β + 8 by omega), hn]; exact Int32.le_refl _) ?_
    refine f_aload_n (M := mX6_beginSecondBidding) 41 dX6_beginSecondBidding_40 rfl rfl ?_
    refine e_getR (M := mX6_beginSecondBidding) dX6_beginSecondBidding_41 fl_6028 (x_kk rfl) (sl_lt hβ 0 rfl) (sl_s hβ 0 rfl rfl) (wf_6_3 hR hβ) ?_
    refine f_aload_n (M := mX6_beginSecondBidding) 45 dX6_beginSecondBidding_44 rfl rfl ?_
    refine e_getR (M := mX6_beginSecondBidding) dX6_beginSecondBidding_45 fl_6035 (x_kk rfl) (sl_lt hβ 0 rfl) (sl_s hβ 0 rfl rfl) (wf_6_4 hR hβ) ?_
    refine e_getI (M := mX6_beginSecondBidding) dX6_beginSecondBidding_48 fl_6095 (x_kk rfl) (sl_lt hβ 12 rfl) (sl_s hβ 12 rfl rfl) ?_
    refine e_putI (M := mX6_beginSecondBidding) dX6_beginSecondBidding_51 fl_6098 (x_kk rfl) (sl_lt hβ 7 rfl) (sl_s hβ 7 rfl rfl) (fun q9 => Bool.noConfusion q9) ?_
    refine f_aload_n (M := mX6_beginSecondBidding) 55 dX6_beginSecondBidding_54 rfl rfl ?_
    refine f_bipush (M := mX6_beginSecondBidding) 57 dX6_beginSecondBidding_55 kb_6 rfl ?_
    refine e_putI (M := mX6_beginSecondBidding) dX6_beginSecondBidding_57 fl_6046 (x_kk rfl) (sl_lt hβ 0 rfl) (sl_s hβ 0 rfl rfl) (fun q9 => Bool.noConfusion q9) ?_
    refine e_rv (M := mX6_beginSecondBidding) dX6_beginSecondBidding_60 rfl (x_kk rfl) (x_kk rfl) ?_
    exact (by simp only [x_up_ne _ _ (show β ≠ β + 8 by omega), x_up_ne _ _ (show β ≠ β + 7 by omega), x_up_ne _ _ (show β + 7 ≠ β + 8 by omega), x_up_ne _ _ (show β + 12 ≠ β + 8 by omega)])
  | succ d ih =>
    intro k hd
    refine f_iload_n (M := mX6_beginSecondBidding) 10 dX6_beginSecondBidding_9 rfl rfl ?_
    refine f_aload_n (M := mX6_beginSecondBidding) 11 dX6_beginSecondBidding_10 rfl rfl ?_
    refine e_getR (M := mX6_beginSecondBidding) dX6_beginSecondBidding_11 fl_6012 (x_kk rfl) (sl_lt hβ 0 rfl) (sl_s hβ 0 rfl rfl) (wf_6_1 hR hβ) ?_
    refine e_getI (M := mX6_beginSecondBidding) dX6_beginSecondBidding_14 fl_6077 (x_kk rfl) (sl_lt hβ 1 rfl) (sl_s hβ 1 rfl rfl) ?_
    refine e_icmp_geF (M := mX6_beginSecondBidding) 40 dX6_beginSecondBidding_17 rfl (by rw [x_up_ne _ _ (show β + 1 ≠ β + 8 by omega), hn, n_le (by omega) (by omega)]; omega) ?_
    refine f_aload_n (M := mX6_beginSecondBidding) 21 dX6_beginSecondBidding_20 rfl rfl ?_
    refine e_getR (M := mX6_beginSecondBidding) dX6_beginSecondBidding_21 fl_6028 (x_kk rfl) (sl_lt hβ 0 rfl) (sl_s hβ 0 rfl rfl) (wf_6_3 hR hβ) ?_
    refine e_getR (M := mX6_beginSecondBidding) dX6_beginSecondBidding_24 fl_6080 (x_kk rfl) (sl_lt hβ 7 rfl) (sl_s hβ 7 rfl rfl) (wf_0_0 hR hβ) ?_
    refine f_iload_n (M := mX6_beginSecondBidding) 28 dX6_beginSecondBidding_27 rfl rfl ?_
    refine f_aload_n (M := mX6_beginSecondBidding) 29 dX6_beginSecondBidding_28 rfl rfl ?_
    refine f_iload_n (M := mX6_beginSecondBidding) 30 dX6_beginSecondBidding_29 rfl rfl ?_
    refine e_cV (M := mX6_beginSecondBidding) [_, _, _] 0 0 dX6_beginSecondBidding_30 pa_6091 pb_6091 cc_6091 rfl rfl rfl rfl rfl (x_kk rfl) (x_kk rfl) (x_rcvOK (sl_lt hβ 0 rfl) (sl_s hβ 0 rfl rfl) rfl) ((by have e := c_X6_remainingOf (X := X) (I := (va_up I (β + 8) (x_mix g (I (β + 8)) k))) (L := L) hR hβ hNl (show ((va_up I (β + 8) (x_mix g (I (β + 8)) k))) (β + 17) 0 = _ by rw [x_up_ne _ _ (show β + 17 ≠ β + 8 by omega)]; exact hl) (show k < 6 by omega); rw [hrem _ (fun k hk => x_up_ne _ _ (by omega)) k (by omega)] at e; exact e)) rfl ?_
    refine e_ist (M := mX6_beginSecondBidding) (w := 6) (j := k) dX6_beginSecondBidding_33 (sl_lt hβ 8 rfl) (sl_shp hβ 8 rfl) rfl (by omega) (by omega) ?_
    refine f_iinc (M := mX6_beginSecondBidding) (ls' := [_, _]) 37 dX6_beginSecondBidding_34 ki_1 rfl rfl rfl rfl ?_
    refine f_goto (M := mX6_beginSecondBidding) 9 dX6_beginSecondBidding_37 rfl ?_
    rw [n_inc (s := k), up_s, up_up, mix_up rfl]; exact ih (k + 1) (by omega)
theorem c_X6_beginSecondBidding (hR : x_wf R) {β : Nat} (hβ : x_sl β) {J : Nat → Nat → Int32} (hJ : (va_up (va_up (va_up (va_up (va_up I (β + 8) (y_z (I (β + 8)) 0 6)) (β + 9) (y_z (I (β + 9)) 0 48)) (β + 10) (y_z (I (β + 10)) 0 8)) (β + 11) (y_z (I (β + 11)) 0 8)) (β + 7) (va_up (va_up (I (β + 7)) 4 0) 5 (-1))) = J) {Ns Nl : Nat} (hNs : Ns ≤ 6) (hn : J (β + 1) 0 = Int32.ofNat Ns) (hNl : Nl ≤ 60) (hl : J (β + 17) 0 = Int32.ofNat Nl) {g : Nat → Int32} (hrem : ∀ J', (∀ k, ¬ k = 8 → J' (β + k) = J (β + k)) → ∀ s, s < 6 → cv_rem J' β s Nl = g s) : x_Cv X mX6_beginSecondBidding [.ref β] (I, L, R) 233 (.inl none, ((va_up (va_up (va_up J (β + 8) (x_mix g (J (β + 8)) Ns)) (β + 7) (va_up (J (β + 7)) 5 (J (β + 12) 4))) β (va_up (J β) 0 6)), L, R), 233) := by
  show x_Ev X mX6_beginSecondBidding 0 [some (.ref β), none] [] ((I, L, R), 233, 0, 0) _
  refine f_aload_n (M := mX6_beginSecondBidding) 1 dX6_beginSecondBidding_0 rfl rfl ?_
  refine e_getR (M := mX6_beginSecondBidding) dX6_beginSecondBidding_1 fl_6028 (x_kk rfl) (sl_lt hβ 0 rfl) (sl_s hβ 0 rfl rfl) (wf_6_3 hR hβ) ?_
  refine e_cV (M := mX6_beginSecondBidding) [] 0 0 dX6_beginSecondBidding_4 pa_6054 pb_6054 cc_6054 rfl rfl rfl rfl rfl (x_kk rfl) (x_kk rfl) (x_rcvOK (sl_lt hβ 7 rfl) (sl_s hβ 7 rfl rfl) rfl) (c_X0_clear hR hβ) rfl ?_
  refine f_iconst (M := mX6_beginSecondBidding) 8 dX6_beginSecondBidding_7 ki_0 rfl ?_
  refine f_istore_n (M := mX6_beginSecondBidding) (ls' := [_, _]) 9 dX6_beginSecondBidding_8 rfl rfl rfl ?_
  rw [hJ]; have l1 := l_X6_beginSecondBidding (X := X) (I := J) (L := L) hR hβ hNs hn hNl hl hrem Ns 0 (by omega); rw [mix_0, up_self] at l1; exact l1
def sp_est (a : Nat → Int32) (n s : Nat) : Int32 := if a 9 = 0 then 0 else ((a 1).toInt64 * sp_sum a (Int32.ofNat s) n / (a 9).toInt64).toInt32
section
variable {a a' : Nat → Int32} {b : Nat → Int64} {β : Nat}
theorem k_est (H : y_CS N I L R β a b) {n : Nat} (hn : n ≤ 30) (h9 : a 9 = Int32.ofNat n) {J' : Nat → Nat → Int32} (hJ : ∀ k, ¬ k = 8 → J' (β + k) = I (β + k)) {s : Nat} (hs : s < 6) : x_Cv X mX2_roundedEstimate [.ref (β + 5), .int (Int32.ofNat s), .int (I (β + 2) 0)] (J', L, R) 233 (.inl (some (.int (sp_est a n s))), (J', L, R), 233) := by
  have hσ : x_spec (Int32.ofNat s) := Or.inr ⟨s, hs, rfl⟩
  have e5 : J' (β + 5) 0 = a 9 := by rw [hJ 5 (by decide)]; exact (h_C H).1
  have e6 : J' (β + 6) = I (β + 6) := hJ 6 (by decide)
  unfold sp_est
  by_cases h0 : a 9 = 0
  · rw [if_pos h0]
    exact c_X2_roundedEstimate_0 (h_R H) (h_β H) hn (e5.trans h9) hσ (e5.trans h0)
  · rw [if_neg h0]
    have e := c_X2_roundedEstimate_1 (X := X) (I := J') (L := L) (z := I (β + 2) 0) (h_R H) (h_β H) hn (e5.trans h9) hσ (by rw [e5]; exact h0) (by rw [e5]; exact fun z => h0 (by rw [T_eq, T_w] at z; rw [t_eq]; exact z))
    rw [e5, e6, eq_sum (h_C H) (h_IC H) hσ hn, (h_T H).2.1 0 (by decide)] at e
    rw [(h_T H).2.1 0 (by decide)]
    exact e
theorem est_i (hT : y_IT a) (hI : y_IC a) {n : Nat} (hn : n ≤ 30) (h9 : a 9 = Int32.ofNat n) {s : Nat} (hs : s < 6) : y_in (sp_est a n s) 0 100000 := by
  unfold sp_est
  by_cases h0 : a 9 = 0
  · rw [if_pos h0]; exact ⟨by decide, by decide⟩
  · rw [if_neg h0]
    have n0 : 0 < n := by
      rw [h9, kn_0, n_eq (by omega) (by omega)] at h0
      omega
    have bs := sz_i hT
    have b := s64_b (f := fun p => (sp_in a (Int32.ofNat s) p).toInt64) (B := 500) (by decide) (n := n) (fun i hi => by
      rw [T_w]
      unfold sp_in
      rw [if_neg (n_ne1 (by omega)), n_cl (by omega)]
      have := hI.2 (6 * i + s) (by omega)
      rw [show 44 + (6 * i + s) = 44 + 6 * i + s by omega] at this
      exact this) (by omega)
    have b1 : 0 ≤ (sp_sum a (Int32.ofNat s) n).toInt := b.1
    have b2 : (sp_sum a (Int32.ofNat s) n).toInt ≤ (n : Int) * 500 := b.2
    have e9 : (a 9).toInt64.toInt = (n : Int) := by rw [T_w, h9, t_n (by omega)]
    have m := m_bd (show 0 ≤ (a 1).toInt64.toInt by omega) bs.2 b1 b2
    have em : ((a 1).toInt64 * sp_sum a (Int32.ofNat s) n).toInt = (a 1).toInt64.toInt * (sp_sum a (Int32.ofNat s) n).toInt := T_mul (by omega) (by omega)
    have ed : ((a 1).toInt64 * sp_sum a (Int32.ofNat s) n / (a 9).toInt64).toInt = (a 1).toInt64.toInt * (sp_sum a (Int32.ofNat s) n).toInt / (n : Int) := by
      rw [Int64.toInt_div_of_ne_left _ _ (fun z => by rw [z, show Int64.minValue.toInt = -9223372036854775808 from by decide] at em; omega), em, e9, Int.tdiv_eq_ediv_of_nonneg m.1]
    generalize (a 1).toInt64.toInt * (sp_sum a (Int32.ofNat s) n).toInt = Y at *
    have hp : (0 : Int) < (n : Int) := by omega
    have q1 : 0 ≤ Y / (n : Int) := Int.ediv_nonneg m.1 (by omega)
    have q2 : Y / (n : Int) ≤ 100000 := by
      have := Int.ediv_lt_iff_lt_mul (a := Y) (b := 100001) hp
      have g : Y < 100001 * (n : Int) := by have := m.2; omega
      have := this.mpr g
      omega
    unfold y_in
    rw [T_n (by rw [ed]; omega) (by rw [ed]; omega), ed]
    exact ⟨q1, q2⟩
theorem remv_i (hV : y_IV a) (hI : y_IL a) {n : Nat} (hn : n ≤ 60) (h14 : a 14 = Int32.ofNat n) {s : Nat} (hs : s < 6) : y_in (sp_rem a s n) 0 100000 := by
  have bv := (hV s hs).1
  have bv1 := bv.1
  have bv2 := bv.2
  have bn := bd_nets hI hn h14 (σ := Int32.ofNat s) (f := 0) (t := 36)
  have o1 : (10 : Int32).toInt = 10 := by decide
  have z0 : (0 : Int32).toInt = 0 := by decide
  have e1 : (10 * a (32 + s)).toInt = 10 * (a (32 + s)).toInt := by rw [t_mul (by rw [o1]; omega) (by rw [o1]; omega), o1]
  have e2 : (10 * a (32 + s) - sp_nets a (Int32.ofNat s) 0 36 n).toInt = 10 * (a (32 + s)).toInt - (sp_nets a (Int32.ofNat s) 0 36 n).toInt := by rw [t_sub (by rw [e1]; omega) (by rw [e1]; omega), e1]
  unfold sp_rem
  by_cases c : 10 * a (32 + s) - sp_nets a (Int32.ofNat s) 0 36 n ≤ 0
  · rw [if_pos c]; exact ⟨by decide, by decide⟩
  · rw [if_neg c]
    rw [t_le, e2, z0] at c
    unfold y_in
    rw [Int32.toInt_div_of_ne_right _ _ (by decide), e2, o1, Int.tdiv_eq_ediv_of_nonneg (by omega)]
    omega
theorem crem_c {J' : Nat → Nat → Int32} (hJ : ∀ k, k = 13 ∨ k = 18 ∨ k = 19 ∨ k = 20 → J' (β + k) = I (β + k)) {s n : Nat} : cv_rem J' β s n = cv_rem I β s n := by
  unfold cv_rem cv_nets
  rw [hJ 13 (by omega), show x_sum32 (cv_net J' β (Int32.ofNat s) 0 36) n = x_sum32 (cv_net I β (Int32.ofNat s) 0 36) n from s32_c (fun k hk => by
    unfold cv_net
    simp only [cv_cnt, hJ 18 (by omega), hJ 19 (by omega), hJ 20 (by omega)])]
theorem rem_cc (ha : ∀ j, (32 ≤ j ∧ j < 38) ∨ (366 ≤ j ∧ j < 606) → a' j = a j) {s n : Nat} (hs : s < 6) (hn : n ≤ 60) : sp_rem a' s n = sp_rem a s n := by
  unfold sp_rem
  rw [nets_cc hn (fun j hj => ha j (by omega)), ha (32 + s) (by omega)]
theorem sum_cc (ha : ∀ j, 44 ≤ j ∧ j < 224 → a' j = a j) {s n : Nat} (hs : s < 6) (hn : n ≤ 30) : sp_sum a' (Int32.ofNat s) n = sp_sum a (Int32.ofNat s) n :=
  s64_c (fun p hp => by
    unfold sp_in
    rw [if_neg (n_ne1 (by omega)), if_neg (n_ne1 (by omega)), n_cl (by omega), ha _ (by omega)])
end
theorem mixsum {f g : Nat → Int32} {n : Nat} (hn : n ≤ 6) (hf : ∀ s, n ≤ s → s < 6 → f s = 0) : x_sum32 (x_mix g f n) 6 = x_sum32 g n := by
  rw [s32_t (m := n) hn (fun i h1 h2 => (mix_ge h1).trans (hf i h1 h2))]
  exact s32_c (fun i hi => if_pos hi)
theorem kx_advertise_0 {N β : Nat} {a : Nat → Int32} {b : Nat → Int64} (H : y_CS N I L R β a b) {Ns Np Nl Nm : Nat} (Z : y_Z a Ns Np Nl Nm) {I0 : Nat → Nat → Int32} {L0 : Nat → Nat → Int64} (hk : x_Cv X mX3_keep [.ref 3, .ref β] (I, L, R) 233 (.inl none, (I0, L0, R), 233)) (H1 : y_CS N I0 L0 R β a b) (h0 : a 0 = 0) (h1 : ¬ a 8 = 0) : x_Cv X mX8_advertise [.ref 0] (I, L, R) 233 (.inl (some (.int (x_sum32 (sp_est a Np) Ns))), ((va_up (va_up I0 (β + 8) (x_mix (sp_est a Np) (I0 (β + 8)) Ns)) β (va_up (I0 β) 0 1)), L0, R), 233) := by
  obtain ⟨hNs, hn, hNp, hp, hNl, hl, hNm, hmm⟩ := Z
  have hR := h_R H
  have hβ := h_β H
  have hS := h_S H
  have n8 : ¬ a 8 ≤ 0 := fun z => h1 (by rw [hn, kn_0, n_le (by omega) (by omega)] at z; rw [hn, kn_0, n_eq (by omega) (by omega)]; omega)
  show x_Ev X mX8_advertise 0 [some (.ref 0)] [] ((I, L, R), 233, 0, 0) _
  refine f_aload_n (M := mX8_advertise) 1 dX8_advertise_0 rfl rfl ?_
  refine e_getR (M := mX8_advertise) dX8_advertise_1 fl_8026 (x_kk rfl) (x_kk rfl) rfl hS ?_
  refine e_getI (M := mX8_advertise) dX8_advertise_4 fl_8067 (x_kk rfl) (sl_lt hβ 0 rfl) (sl_s hβ 0 rfl rfl) ?_
  refine e_if_eqT (M := mX8_advertise) 21 dX8_advertise_7 rfl ((h_ph H).trans h0) ?_
  refine f_aload_n (M := mX8_advertise) 22 dX8_advertise_21 rfl rfl ?_
  refine e_getR (M := mX8_advertise) dX8_advertise_22 fl_8026 (x_kk rfl) (x_kk rfl) rfl hS ?_
  refine e_getR (M := mX8_advertise) dX8_advertise_25 fl_8083 (x_kk rfl) (sl_lt hβ 0 rfl) (sl_s hβ 0 rfl rfl) (wf_6_1 hR hβ) ?_
  refine e_getI (M := mX8_advertise) dX8_advertise_28 fl_8139 (x_kk rfl) (sl_lt hβ 1 rfl) (sl_s hβ 1 rfl rfl) ?_
  refine e_if_leF (M := mX8_advertise) 38 dX8_advertise_31 rfl (by rw [(h_T H).1]; exact n8) ?_
  refine f_iconst (M := mX8_advertise) 35 dX8_advertise_34 ki_1 rfl ?_
  refine f_goto (M := mX8_advertise) 39 dX8_advertise_35 rfl ?_
  refine e_cS (M := mX8_advertise) [] 1 6 dX8_advertise_39 pa_8037 cc_8037 rfl rfl rfl rfl rfl (x_kk rfl) (x_kk rfl) rfl (c_X8_requireState (by decide)) rfl ?_
  refine f_aload_n (M := mX8_advertise) 43 dX8_advertise_42 rfl rfl ?_
  refine e_getR (M := mX8_advertise) dX8_advertise_43 fl_8019 (x_kk rfl) (x_kk rfl) rfl (wf_8_1 hR) ?_
  refine f_aload_n (M := mX8_advertise) 47 dX8_advertise_46 rfl rfl ?_
  refine e_getR (M := mX8_advertise) dX8_advertise_47 fl_8026 (x_kk rfl) (x_kk rfl) rfl hS ?_
  refine e_cV (M := mX8_advertise) [] 1 6 dX8_advertise_50 pa_8060 pb_8060 cc_8060 rfl rfl rfl rfl rfl (x_kk rfl) (x_kk rfl) rfl (hk) rfl ?_
  refine f_aload_n (M := mX8_advertise) 54 dX8_advertise_53 rfl rfl ?_
  refine e_getR (M := mX8_advertise) dX8_advertise_54 fl_8026 (x_kk rfl) (x_kk rfl) rfl hS ?_
  refine e_getI (M := mX8_advertise) dX8_advertise_57 fl_8067 (x_kk rfl) (sl_lt hβ 0 rfl) (sl_s hβ 0 rfl rfl) ?_
  refine e_if_neF (M := mX8_advertise) 73 dX8_advertise_60 rfl (fun z => z ((h_ph H1).trans h0)) ?_
  refine f_aload_n (M := mX8_advertise) 64 dX8_advertise_63 rfl rfl ?_
  refine e_getR (M := mX8_advertise) dX8_advertise_64 fl_8026 (x_kk rfl) (x_kk rfl) rfl hS ?_
  refine e_cV (M := mX8_advertise) [] 1 6 dX8_advertise_67 pa_8142 pb_8142 cc_8142 rfl rfl rfl rfl rfl (x_kk rfl) (x_kk rfl) (x_rcvOK (sl_lt hβ 0 rfl) (sl_s hβ 0 rfl rfl) rfl) (c_X6_beginBidding (g := (sp_est a Np)) hR hβ hNs ((h_T H1).1.trans hn) (fun J' hJ s hs => k_est H1 hNp hp hJ hs)) rfl ?_
  refine f_goto (M := mX8_advertise) 80 dX8_advertise_70 rfl ?_
  refine f_aload_n (M := mX8_advertise) 81 dX8_advertise_80 rfl rfl ?_
  refine e_getR (M := mX8_advertise) dX8_advertise_81 fl_8026 (x_kk rfl) (x_kk rfl) rfl hS ?_
  refine e_getR (M := mX8_advertise) dX8_advertise_84 fl_8148 (x_kk rfl) (sl_lt hβ 0 rfl) (sl_s hβ 0 rfl rfl) (wf_6_3 hR hβ) ?_
  refine e_getR (M := mX8_advertise) dX8_advertise_87 fl_8152 (x_kk rfl) (sl_lt hβ 7 rfl) (sl_s hβ 7 rfl rfl) (wf_0_0 hR hβ) ?_
  refine e_cS (M := mX8_advertise) [_] 1 6 dX8_advertise_90 pa_8157 cc_8157 rfl rfl rfl rfl rfl (x_kk rfl) (x_kk rfl) rfl (c_X8_sum (sl_lt hβ 8 rfl) (sl_shp hβ 8 rfl)) rfl ?_
  refine e_ri (M := mX8_advertise) dX8_advertise_93 rfl (x_kk rfl) (x_kk rfl) ?_
  exact r_i (by rw [x_up_ne _ _ (show β + 8 ≠ β by omega), x_up_self]; exact mixsum hNs (fun s z1 z2 => by rw [(h_B H1).1 s z2]; exact vol_0 (h_IV H) z2 hNs hn z1))
theorem kx_advertise_5 {N β : Nat} {a : Nat → Int32} {b : Nat → Int64} (H : y_CS N I L R β a b) {Ns Np Nl Nm : Nat} (Z : y_Z a Ns Np Nl Nm) {I0 : Nat → Nat → Int32} {L0 : Nat → Nat → Int64} (hk : x_Cv X mX3_keep [.ref 3, .ref β] (I, L, R) 233 (.inl none, (I0, L0, R), 233)) (H1 : y_CS N I0 L0 R β a b) (h0 : a 0 = 5) (h1 : ¬ a 8 = 0) : x_Cv X mX8_advertise [.ref 0] (I, L, R) 233 (.inl (some (.int (x_sum32 (fun s => sp_rem a s Nl) Ns))), ((va_up (va_up (va_up (va_up (va_up (va_up (va_up (va_up I0 (β + 8) (y_z (I0 (β + 8)) 0 6)) (β + 9) (y_z (I0 (β + 9)) 0 48)) (β + 10) (y_z (I0 (β + 10)) 0 8)) (β + 11) (y_z (I0 (β + 11)) 0 8)) (β + 7) (va_up (va_up (I0 (β + 7)) 4 0) 5 (-1))) (β + 8) (x_mix (fun s => sp_rem a s Nl) ((va_up (va_up (va_up (va_up (va_up I0 (β + 8) (y_z (I0 (β + 8)) 0 6)) (β + 9) (y_z (I0 (β + 9)) 0 48)) (β + 10) (y_z (I0 (β + 10)) 0 8)) (β + 11) (y_z (I0 (β + 11)) 0 8)) (β + 7) (va_up (va_up (I0 (β + 7)) 4 0) 5 (-1))) (β + 8)) Ns)) (β + 7) (va_up ((va_up (va_up (va_up (va_up (va_up I0 (β + 8) (y_z (I0 (β + 8)) 0 6)) (β + 9) (y_z (I0 (β + 9)) 0 48)) (β + 10) (y_z (I0 (β + 10)) 0 8)) (β + 11) (y_z (I0 (β + 11)) 0 8)) (β + 7) (va_up (va_up (I0 (β + 7)) 4 0) 5 (-1))) (β + 7)) 5 (a 11))) β (va_up ((va_up (va_up (va_up (va_up (va_up I0 (β + 8) (y_z (I0 (β + 8)) 0 6)) (β + 9) (y_z (I0 (β + 9)) 0 48)) (β + 10) (y_z (I0 (β + 10)) 0 8)) (β + 11) (y_z (I0 (β + 11)) 0 8)) (β + 7) (va_up (va_up (I0 (β + 7)) 4 0) 5 (-1))) β) 0 6)), L0, R), 233) := by
  obtain ⟨hNs, hn, hNp, hp, hNl, hl, hNm, hmm⟩ := Z
  have hR := h_R H
  have hβ := h_β H
  have hS := h_S H
  have n8 : ¬ a 8 ≤ 0 := fun z => h1 (by rw [hn, kn_0, n_le (by omega) (by omega)] at z; rw [hn, kn_0, n_eq (by omega) (by omega)]; omega)
  have ee : (va_up (va_up (va_up (va_up (va_up I0 (β + 8) (y_z (I0 (β + 8)) 0 6)) (β + 9) (y_z (I0 (β + 9)) 0 48)) (β + 10) (y_z (I0 (β + 10)) 0 8)) (β + 11) (y_z (I0 (β + 11)) 0 8)) (β + 7) (va_up (va_up (I0 (β + 7)) 4 0) 5 (-1))) (β + 12) 4 = a 11 := by
    rw [x_up_ne _ _ (show β + 12 ≠ β + 7 by omega), x_up_ne _ _ (show β + 12 ≠ β + 11 by omega), x_up_ne _ _ (show β + 12 ≠ β + 10 by omega), x_up_ne _ _ (show β + 12 ≠ β + 9 by omega), x_up_ne _ _ (show β + 12 ≠ β + 8 by omega)]
    exact (h_K H1).2.2.2.1 (by rw [h0]; decide)
  show x_Ev X mX8_advertise 0 [some (.ref 0)] [] ((I, L, R), 233, 0, 0) _
  refine f_aload_n (M := mX8_advertise) 1 dX8_advertise_0 rfl rfl ?_
  refine e_getR (M := mX8_advertise) dX8_advertise_1 fl_8026 (x_kk rfl) (x_kk rfl) rfl hS ?_
  refine e_getI (M := mX8_advertise) dX8_advertise_4 fl_8067 (x_kk rfl) (sl_lt hβ 0 rfl) (sl_s hβ 0 rfl rfl) ?_
  refine e_if_eqF (M := mX8_advertise) 21 dX8_advertise_7 rfl (fun z => absurd ((h_ph H).symm.trans z) (by rw [h0]; decide)) ?_
  refine f_aload_n (M := mX8_advertise) 11 dX8_advertise_10 rfl rfl ?_
  refine e_getR (M := mX8_advertise) dX8_advertise_11 fl_8026 (x_kk rfl) (x_kk rfl) rfl hS ?_
  refine e_getI (M := mX8_advertise) dX8_advertise_14 fl_8067 (x_kk rfl) (sl_lt hβ 0 rfl) (sl_s hβ 0 rfl rfl) ?_
  refine f_iconst (M := mX8_advertise) 18 dX8_advertise_17 ki_5 rfl ?_
  refine e_icmp_neF (M := mX8_advertise) 38 dX8_advertise_18 rfl (fun z => z ((h_ph H).trans h0)) ?_
  refine f_aload_n (M := mX8_advertise) 22 dX8_advertise_21 rfl rfl ?_
  refine e_getR (M := mX8_advertise) dX8_advertise_22 fl_8026 (x_kk rfl) (x_kk rfl) rfl hS ?_
  refine e_getR (M := mX8_advertise) dX8_advertise_25 fl_8083 (x_kk rfl) (sl_lt hβ 0 rfl) (sl_s hβ 0 rfl rfl) (wf_6_1 hR hβ) ?_
  refine e_getI (M := mX8_advertise) dX8_advertise_28 fl_8139 (x_kk rfl) (sl_lt hβ 1 rfl) (sl_s hβ 1 rfl rfl) ?_
  refine e_if_leF (M := mX8_advertise) 38 dX8_advertise_31 rfl (by rw [(h_T H).1]; exact n8) ?_
  refine f_iconst (M := mX8_advertise) 35 dX8_advertise_34 ki_1 rfl ?_
  refine f_goto (M := mX8_advertise) 39 dX8_advertise_35 rfl ?_
  refine e_cS (M := mX8_advertise) [] 1 6 dX8_advertise_39 pa_8037 cc_8037 rfl rfl rfl rfl rfl (x_kk rfl) (x_kk rfl) rfl (c_X8_requireState (by decide)) rfl ?_
  refine f_aload_n (M := mX8_advertise) 43 dX8_advertise_42 rfl rfl ?_
  refine e_getR (M := mX8_advertise) dX8_advertise_43 fl_8019 (x_kk rfl) (x_kk rfl) rfl (wf_8_1 hR) ?_
  refine f_aload_n (M := mX8_advertise) 47 dX8_advertise_46 rfl rfl ?_
  refine e_getR (M := mX8_advertise) dX8_advertise_47 fl_8026 (x_kk rfl) (x_kk rfl) rfl hS ?_
  refine e_cV (M := mX8_advertise) [] 1 6 dX8_advertise_50 pa_8060 pb_8060 cc_8060 rfl rfl rfl rfl rfl (x_kk rfl) (x_kk rfl) rfl (hk) rfl ?_
  refine f_aload_n (M := mX8_advertise) 54 dX8_advertise_53 rfl rfl ?_
  refine e_getR (M := mX8_advertise) dX8_advertise_54 fl_8026 (x_kk rfl) (x_kk rfl) rfl hS ?_
  refine e_getI (M := mX8_advertise) dX8_advertise_57 fl_8067 (x_kk rfl) (sl_lt hβ 0 rfl) (sl_s hβ 0 rfl rfl) ?_
  refine e_if_neT (M := mX8_advertise) 73 dX8_advertise_60 rfl (fun z => absurd ((h_ph H1).symm.trans z) (by rw [h0]; decide)) ?_
  refine f_aload_n (M := mX8_advertise) 74 dX8_advertise_73 rfl rfl ?_
  refine e_getR (M := mX8_advertise) dX8_advertise_74 fl_8026 (x_kk rfl) (x_kk rfl) rfl hS ?_
  refine e_cV (M := mX8_advertise) [] 1 6 dX8_advertise_77 pa_8145 pb_8145 cc_8145 rfl rfl rfl rfl rfl (x_kk rfl) (x_kk rfl) (x_rcvOK (sl_lt hβ 0 rfl) (sl_s hβ 0 rfl rfl) rfl) (c_X6_beginSecondBidding (g := (fun s => sp_rem a s Nl)) hR hβ rfl hNs (by rw [x_up_ne _ _ (show β + 1 ≠ β + 7 by omega), x_up_ne _ _ (show β + 1 ≠ β + 11 by omega), x_up_ne _ _ (show β + 1 ≠ β + 10 by omega), x_up_ne _ _ (show β + 1 ≠ β + 9 by omega), x_up_ne _ _ (show β + 1 ≠ β + 8 by omega)]; exact (h_T H1).1.trans hn) hNl (by rw [x_up_ne _ _ (show β + 17 ≠ β + 7 by omega), x_up_ne _ _ (show β + 17 ≠ β + 11 by omega), x_up_ne _ _ (show β + 17 ≠ β + 10 by omega), x_up_ne _ _ (show β + 17 ≠ β + 9 by omega), x_up_ne _ _ (show β + 17 ≠ β + 8 by omega)]; exact (h_L H1).1.trans hl) (fun J' hJ s hs => by rw [crem_c (I := I0) (fun k hk => by rw [hJ k (by omega), x_up_ne _ _ (show β + k ≠ β + 7 by omega), x_up_ne _ _ (show β + k ≠ β + 11 by omega), x_up_ne _ _ (show β + k ≠ β + 10 by omega), x_up_ne _ _ (show β + k ≠ β + 9 by omega), x_up_ne _ _ (show β + k ≠ β + 8 by omega)]), eq_rem (h_K H1) (h_L H1) (by rw [h0]; decide) hNl hl hs])) rfl ?_
  refine f_aload_n (M := mX8_advertise) 81 dX8_advertise_80 rfl rfl ?_
  refine e_getR (M := mX8_advertise) dX8_advertise_81 fl_8026 (x_kk rfl) (x_kk rfl) rfl hS ?_
  refine e_getR (M := mX8_advertise) dX8_advertise_84 fl_8148 (x_kk rfl) (sl_lt hβ 0 rfl) (sl_s hβ 0 rfl rfl) (wf_6_3 hR hβ) ?_
  refine e_getR (M := mX8_advertise) dX8_advertise_87 fl_8152 (x_kk rfl) (sl_lt hβ 7 rfl) (sl_s hβ 7 rfl rfl) (wf_0_0 hR hβ) ?_
  refine e_cS (M := mX8_advertise) [_] 1 6 dX8_advertise_90 pa_8157 cc_8157 rfl rfl rfl rfl rfl (x_kk rfl) (x_kk rfl) rfl (c_X8_sum (sl_lt hβ 8 rfl) (sl_shp hβ 8 rfl)) rfl ?_
  refine e_ri (M := mX8_advertise) dX8_advertise_93 rfl (x_kk rfl) (x_kk rfl) ?_
  exact (by rw [ee, show x_sum32 ((va_up (va_up (va_up (va_up (va_up (va_up (va_up (va_up I0 (β + 8) (y_z (I0 (β + 8)) 0 6)) (β + 9) (y_z (I0 (β + 9)) 0 48)) (β + 10) (y_z (I0 (β + 10)) 0 8)) (β + 11) (y_z (I0 (β + 11)) 0 8)) (β + 7) (va_up (va_up (I0 (β + 7)) 4 0) 5 (-1))) (β + 8) (x_mix (fun s => sp_rem a s Nl) ((va_up (va_up (va_up (va_up (va_up I0 (β + 8) (y_z (I0 (β + 8)) 0 6)) (β + 9) (y_z (I0 (β + 9)) 0 48)) (β + 10) (y_z (I0 (β + 10)) 0 8)) (β + 11) (y_z (I0 (β + 11)) 0 8)) (β + 7) (va_up (va_up (I0 (β + 7)) 4 0) 5 (-1))) (β + 8)) Ns)) (β + 7) (va_up ((va_up (va_up (va_up (va_up (va_up I0 (β + 8) (y_z (I0 (β + 8)) 0 6)) (β + 9) (y_z (I0 (β + 9)) 0 48)) (β + 10) (y_z (I0 (β + 10)) 0 8)) (β + 11) (y_z (I0 (β + 11)) 0 8)) (β + 7) (va_up (va_up (I0 (β + 7)) 4 0) 5 (-1))) (β + 7)) 5 (a 11))) β (va_up ((va_up (va_up (va_up (va_up (va_up I0 (β + 8) (y_z (I0 (β + 8)) 0 6)) (β + 9) (y_z (I0 (β + 9)) 0 48)) (β + 10) (y_z (I0 (β + 10)) 0 8)) (β + 11) (y_z (I0 (β + 11)) 0 8)) (β + 7) (va_up (va_up (I0 (β + 7)) 4 0) 5 (-1))) β) 0 6)) (β + 8)) 6 = x_sum32 (fun s => sp_rem a s Nl) Ns from by rw [x_up_ne _ _ (show β + 8 ≠ β by omega), x_up_ne _ _ (show β + 8 ≠ β + 7 by omega), x_up_self]; exact mixsum hNs (fun s z1 z2 => by rw [x_up_ne _ _ (show β + 8 ≠ β + 7 by omega), x_up_ne _ _ (show β + 8 ≠ β + 11 by omega), x_up_ne _ _ (show β + 8 ≠ β + 10 by omega), x_up_ne _ _ (show β + 8 ≠ β + 9 by omega), x_up_self]; exact z_i (by omega))])
theorem kf_advertise_1 {N β : Nat} {a : Nat → Int32} {b : Nat → Int64} (H : y_CS N I L R β a b) {Ns Np Nl Nm : Nat} (Z : y_Z a Ns Np Nl Nm) (h0 : a 0 = 0 ∨ a 0 = 5) (h1 : a 8 = 0) : x_Cv X mX8_advertise [.ref 0] (I, L, R) 233 (.inr 0, (I, L, R), 233) := by
  obtain ⟨hNs, hn, hNp, hp, hNl, hl, hNm, hmm⟩ := Z
  have hR := h_R H
  have hβ := h_β H
  have hS := h_S H
  show x_Ev X mX8_advertise 0 [some (.ref 0)] [] ((I, L, R), 233, 0, 0) _
  rcases h0 with h0 | h0
  · refine f_aload_n (M := mX8_advertise) 1 dX8_advertise_0 rfl rfl ?_
    refine e_getR (M := mX8_advertise) dX8_advertise_1 fl_8026 (x_kk rfl) (x_kk rfl) rfl hS ?_
    refine e_getI (M := mX8_advertise) dX8_advertise_4 fl_8067 (x_kk rfl) (sl_lt hβ 0 rfl) (sl_s hβ 0 rfl rfl) ?_
    refine e_if_eqT (M := mX8_advertise) 21 dX8_advertise_7 rfl ((h_ph H).trans h0) ?_
    refine f_aload_n (M := mX8_advertise) 22 dX8_advertise_21 rfl rfl ?_
    refine e_getR (M := mX8_advertise) dX8_advertise_22 fl_8026 (x_kk rfl) (x_kk rfl) rfl hS ?_
    refine e_getR (M := mX8_advertise) dX8_advertise_25 fl_8083 (x_kk rfl) (sl_lt hβ 0 rfl) (sl_s hβ 0 rfl rfl) (wf_6_1 hR hβ) ?_
    refine e_getI (M := mX8_advertise) dX8_advertise_28 fl_8139 (x_kk rfl) (sl_lt hβ 1 rfl) (sl_s hβ 1 rfl rfl) ?_
    refine e_if_leT (M := mX8_advertise) 38 dX8_advertise_31 rfl (by rw [(h_T H).1, h1]; decide) ?_
    refine f_iconst (M := mX8_advertise) 39 dX8_advertise_38 ki_0 rfl ?_
    exact e_cSX (M := mX8_advertise) 1 6 dX8_advertise_39 pa_8037 cc_8037 rfl rfl rfl rfl rfl (x_kk rfl) (x_kk rfl) rfl (c_X8_requireState_x rfl) rfl
  · refine f_aload_n (M := mX8_advertise) 1 dX8_advertise_0 rfl rfl ?_
    refine e_getR (M := mX8_advertise) dX8_advertise_1 fl_8026 (x_kk rfl) (x_kk rfl) rfl hS ?_
    refine e_getI (M := mX8_advertise) dX8_advertise_4 fl_8067 (x_kk rfl) (sl_lt hβ 0 rfl) (sl_s hβ 0 rfl rfl) ?_
    refine e_if_eqF (M := mX8_advertise) 21 dX8_advertise_7 rfl (fun z => absurd ((h_ph H).symm.trans z) (by rw [h0]; decide)) ?_
    refine f_aload_n (M := mX8_advertise) 11 dX8_advertise_10 rfl rfl ?_
    refine e_getR (M := mX8_advertise) dX8_advertise_11 fl_8026 (x_kk rfl) (x_kk rfl) rfl hS ?_
    refine e_getI (M := mX8_advertise) dX8_advertise_14 fl_8067 (x_kk rfl) (sl_lt hβ 0 rfl) (sl_s hβ 0 rfl rfl) ?_
    refine f_iconst (M := mX8_advertise) 18 dX8_advertise_17 ki_5 rfl ?_
    refine e_icmp_neF (M := mX8_advertise) 38 dX8_advertise_18 rfl (fun z => z ((h_ph H).trans h0)) ?_
    refine f_aload_n (M := mX8_advertise) 22 dX8_advertise_21 rfl rfl ?_
    refine e_getR (M := mX8_advertise) dX8_advertise_22 fl_8026 (x_kk rfl) (x_kk rfl) rfl hS ?_
    refine e_getR (M := mX8_advertise) dX8_advertise_25 fl_8083 (x_kk rfl) (sl_lt hβ 0 rfl) (sl_s hβ 0 rfl rfl) (wf_6_1 hR hβ) ?_
    refine e_getI (M := mX8_advertise) dX8_advertise_28 fl_8139 (x_kk rfl) (sl_lt hβ 1 rfl) (sl_s hβ 1 rfl rfl) ?_
    refine e_if_leT (M := mX8_advertise) 38 dX8_advertise_31 rfl (by rw [(h_T H).1, h1]; decide) ?_
    refine f_iconst (M := mX8_advertise) 39 dX8_advertise_38 ki_0 rfl ?_
    exact e_cSX (M := mX8_advertise) 1 6 dX8_advertise_39 pa_8037 cc_8037 rfl rfl rfl rfl rfl (x_kk rfl) (x_kk rfl) rfl (c_X8_requireState_x rfl) rfl
theorem mf_advertise_1 (hR : x_wf R) {Ns Np Nl Nm : Nat} (Z : y_Z (I 226) Ns Np Nl Nm) (h0 : I 226 0 = 0 ∨ I 226 0 = 5) (h1 : I 226 8 = 0) : x_Cv X mX9_advertise [.ref 225] (I, L, R) 233 (.inl (some (.int (0))), (x_tw I 1, L, R), 233) := by
  obtain ⟨hNs, hn, hNp, hp, hNl, hl, hNm, hmm⟩ := Z
  show x_Ev X mX9_advertise 0 [some (.ref 225), none, none, none, none] [] ((I, L, R), 233, 0, 0) _
  rcases h0 with h0 | h0
  · refine f_aload_n (M := mX9_advertise) 1 dX9_advertise_0 rfl rfl ?_
    refine f_aload_n (M := mX9_advertise) 2 dX9_advertise_1 rfl rfl ?_
    refine e_getR (M := mX9_advertise) dX9_advertise_2 fl_9007 (x_kk rfl) (x_kk rfl) rfl (wf_9_0 hR) ?_
    refine f_iconst (M := mX9_advertise) 6 dX9_advertise_5 ki_0 rfl ?_
    refine e_ild (M := mX9_advertise) (w := 606) (j := 0) dX9_advertise_6 (x_kk rfl) rfl kn_0 (by omega) (by omega) ?_
    refine e_if_eqT (M := mX9_advertise) 20 dX9_advertise_7 rfl h0 ?_
    refine f_aload_n (M := mX9_advertise) 21 dX9_advertise_20 rfl rfl ?_
    refine e_getR (M := mX9_advertise) dX9_advertise_21 fl_9007 (x_kk rfl) (x_kk rfl) rfl (wf_9_0 hR) ?_
    refine f_bipush (M := mX9_advertise) 26 dX9_advertise_24 kb_8 rfl ?_
    refine e_ild (M := mX9_advertise) (w := 606) (j := 8) dX9_advertise_26 (x_kk rfl) rfl kn_8 (by omega) (by omega) ?_
    refine e_if_neF (M := mX9_advertise) 34 dX9_advertise_27 rfl (fun z => z h1) ?_
    refine f_iconst (M := mX9_advertise) 31 dX9_advertise_30 ki_1 rfl ?_
    refine f_goto (M := mX9_advertise) 35 dX9_advertise_31 rfl ?_
    refine e_putI (M := mX9_advertise) dX9_advertise_35 fl_9033 (x_kk rfl) (x_kk rfl) rfl (fun q9 => Bool.noConfusion q9) ?_
    refine f_aload_n (M := mX9_advertise) 39 dX9_advertise_38 rfl rfl ?_
    refine e_getI (M := mX9_advertise) dX9_advertise_39 fl_9033 (x_kk rfl) (x_kk rfl) rfl ?_
    refine e_if_leF (M := mX9_advertise) 47 dX9_advertise_42 rfl (show ¬ ((1 : Int32) ≤ 0) by decide) ?_
    refine f_iconst (M := mX9_advertise) 46 dX9_advertise_45 ki_0 rfl ?_
    refine e_ri (M := mX9_advertise) dX9_advertise_46 rfl (x_kk rfl) (x_kk rfl) ?_
    rfl
  · refine f_aload_n (M := mX9_advertise) 1 dX9_advertise_0 rfl rfl ?_
    refine f_aload_n (M := mX9_advertise) 2 dX9_advertise_1 rfl rfl ?_
    refine e_getR (M := mX9_advertise) dX9_advertise_2 fl_9007 (x_kk rfl) (x_kk rfl) rfl (wf_9_0 hR) ?_
    refine f_iconst (M := mX9_advertise) 6 dX9_advertise_5 ki_0 rfl ?_
    refine e_ild (M := mX9_advertise) (w := 606) (j := 0) dX9_advertise_6 (x_kk rfl) rfl kn_0 (by omega) (by omega) ?_
    refine e_if_eqF (M := mX9_advertise) 20 dX9_advertise_7 rfl (by show ¬ I 226 0 = 0; rw [h0]; decide) ?_
    refine f_aload_n (M := mX9_advertise) 11 dX9_advertise_10 rfl rfl ?_
    refine e_getR (M := mX9_advertise) dX9_advertise_11 fl_9007 (x_kk rfl) (x_kk rfl) rfl (wf_9_0 hR) ?_
    refine f_iconst (M := mX9_advertise) 15 dX9_advertise_14 ki_0 rfl ?_
    refine e_ild (M := mX9_advertise) (w := 606) (j := 0) dX9_advertise_15 (x_kk rfl) rfl kn_0 (by omega) (by omega) ?_
    refine f_iconst (M := mX9_advertise) 17 dX9_advertise_16 ki_5 rfl ?_
    refine e_icmp_neF (M := mX9_advertise) 30 dX9_advertise_17 rfl (fun z => z h0) ?_
    refine f_aload_n (M := mX9_advertise) 21 dX9_advertise_20 rfl rfl ?_
    refine e_getR (M := mX9_advertise) dX9_advertise_21 fl_9007 (x_kk rfl) (x_kk rfl) rfl (wf_9_0 hR) ?_
    refine f_bipush (M := mX9_advertise) 26 dX9_advertise_24 kb_8 rfl ?_
    refine e_ild (M := mX9_advertise) (w := 606) (j := 8) dX9_advertise_26 (x_kk rfl) rfl kn_8 (by omega) (by omega) ?_
    refine e_if_neF (M := mX9_advertise) 34 dX9_advertise_27 rfl (fun z => z h1) ?_
    refine f_iconst (M := mX9_advertise) 31 dX9_advertise_30 ki_1 rfl ?_
    refine f_goto (M := mX9_advertise) 35 dX9_advertise_31 rfl ?_
    refine e_putI (M := mX9_advertise) dX9_advertise_35 fl_9033 (x_kk rfl) (x_kk rfl) rfl (fun q9 => Bool.noConfusion q9) ?_
    refine f_aload_n (M := mX9_advertise) 39 dX9_advertise_38 rfl rfl ?_
    refine e_getI (M := mX9_advertise) dX9_advertise_39 fl_9033 (x_kk rfl) (x_kk rfl) rfl ?_
    refine e_if_leF (M := mX9_advertise) 47 dX9_advertise_42 rfl (show ¬ ((1 : Int32) ≤ 0) by decide) ?_
    refine f_iconst (M := mX9_advertise) 46 dX9_advertise_45 ki_0 rfl ?_
    refine e_ri (M := mX9_advertise) dX9_advertise_46 rfl (x_kk rfl) (x_kk rfl) ?_
    rfl
theorem l_X9_advertise_5 (hR : x_wf R) {Ns Np Nl : Nat} (hNs : Ns ≤ 6) (hn : I 226 8 = Int32.ofNat Ns) (hNp : Np ≤ 30) (hp : I 226 9 = Int32.ofNat Np) (hNl : Nl ≤ 60) (hl : I 226 14 = Int32.ofNat Nl) {g : Nat → Int32} (hg : ∀ s, g s = sp_rem (I 226) s Nl) {w4 : Option Value} {r : x_O × x_Mem × Nat} (kk : ∀ w4, x_Ev X mX9_advertise 164 [some (.ref 225), some (.int 1), some (.int (x_sum32 g Ns)), some (.int (Int32.ofNat Ns)), w4] [] (((va_up I 226 (y_put (I 226) 38 g Ns)), L, R), 233, 0, 0) r) : ∀ d k, k + d = Ns → x_Ev X mX9_advertise 71 [some (.ref 225), some (.int 1), some (.int (x_sum32 g k)), some (.int (Int32.ofNat k)), w4] [] (((va_up I 226 (y_put (I 226) 38 g k)), L, R), 233, 0, 0) r := by
  intro d
  induction d generalizing w4 with
  | zero =>
    intro k hd
    obtain rfl : Ns = k := by omega
    refine f_iload_n (M := mX9_advertise) 72 dX9_advertise_71 rfl rfl ?_
    refine f_aload_n (M := mX9_advertise) 73 dX9_advertise_72 rfl rfl ?_
    refine e_getR (M := mX9_advertise) dX9_advertise_73 fl_9007 (x_kk rfl) (x_kk rfl) rfl (wf_9_0 hR) ?_
    refine f_bipush (M := mX9_advertise) 78 dX9_advertise_76 kb_8 rfl ?_
    refine e_ild (M := mX9_advertise) (w := 606) (j := 8) dX9_advertise_78 (x_kk rfl) rfl kn_8 (by omega) (by omega) ?_
    refine e_icmp_geT (M := mX9_advertise) 164 dX9_advertise_79 rfl (by rw [up_s, pt_o (by omega), hn]; exact Int32.le_refl _) ?_
    exact kk _
  | succ d ih =>
    intro k hd
    refine f_iload_n (M := mX9_advertise) 72 dX9_advertise_71 rfl rfl ?_
    refine f_aload_n (M := mX9_advertise) 73 dX9_advertise_72 rfl rfl ?_
    refine e_getR (M := mX9_advertise) dX9_advertise_73 fl_9007 (x_kk rfl) (x_kk rfl) rfl (wf_9_0 hR) ?_
    refine f_bipush (M := mX9_advertise) 78 dX9_advertise_76 kb_8 rfl ?_
    refine e_ild (M := mX9_advertise) (w := 606) (j := 8) dX9_advertise_78 (x_kk rfl) rfl kn_8 (by omega) (by omega) ?_
    refine e_icmp_geF (M := mX9_advertise) 164 dX9_advertise_79 rfl (by rw [up_s, pt_o (by omega), hn, n_le (by omega) (by omega)]; omega) ?_
    refine f_iload_n (M := mX9_advertise) 83 dX9_advertise_82 rfl rfl ?_
    refine e_if_eqF (M := mX9_advertise) 94 dX9_advertise_83 rfl (show ¬ ((1 : Int32) = 0) by decide) ?_
    refine f_aload_n (M := mX9_advertise) 87 dX9_advertise_86 rfl rfl ?_
    refine f_iload_n (M := mX9_advertise) 88 dX9_advertise_87 rfl rfl ?_
    refine e_cV (M := mX9_advertise) [_] 0 0 dX9_advertise_88 pa_9174 pb_9174 cc_9174 rfl rfl rfl rfl rfl (x_kk rfl) (x_kk rfl) rfl ((by have e := c_X9_remains (X := X) (I := (va_up I 226 (y_put (I 226) 38 g k))) (L := L) hR hNl (by rw [up_s, pt_o (by omega)]; exact hl) (show k < 6 by omega); rw [up_s, rem_cc (a := I 226) (fun j hj => pt_o (by omega)) (by omega) hNl, ← hg k] at e; exact e)) rfl ?_
    refine f_goto (M := mX9_advertise) 131 dX9_advertise_91 rfl ?_
    refine f_istore (M := mX9_advertise) (ls' := [_, _, _, _, _]) 133 dX9_advertise_131 rfl rfl rfl ?_
    refine f_aload_n (M := mX9_advertise) 134 dX9_advertise_133 rfl rfl ?_
    refine e_getR (M := mX9_advertise) dX9_advertise_134 fl_9007 (x_kk rfl) (x_kk rfl) rfl (wf_9_0 hR) ?_
    refine f_iload_n (M := mX9_advertise) 138 dX9_advertise_137 rfl rfl ?_
    refine e_if_eqF (M := mX9_advertise) 146 dX9_advertise_138 rfl (show ¬ ((1 : Int32) = 0) by decide) ?_
    refine f_bipush (M := mX9_advertise) 143 dX9_advertise_141 kb_38 rfl ?_
    refine f_goto (M := mX9_advertise) 148 dX9_advertise_143 rfl ?_
    refine f_iload_n (M := mX9_advertise) 149 dX9_advertise_148 rfl rfl ?_
    refine f_iadd (M := mX9_advertise) 150 dX9_advertise_149 rfl ?_
    refine f_iload (M := mX9_advertise) 152 dX9_advertise_150 rfl rfl ?_
    refine e_ist (M := mX9_advertise) (w := 606) (j := (38) + (k)) dX9_advertise_152 (x_kk rfl) rfl (ix_add kn_38 rfl) (by omega) (by omega) ?_
    refine f_iload_n (M := mX9_advertise) 154 dX9_advertise_153 rfl rfl ?_
    refine f_iload (M := mX9_advertise) 156 dX9_advertise_154 rfl rfl ?_
    refine f_iadd (M := mX9_advertise) 157 dX9_advertise_156 rfl ?_
    refine f_istore_n (M := mX9_advertise) (ls' := [_, _, _, _, _]) 158 dX9_advertise_157 rfl rfl rfl ?_
    refine f_iinc (M := mX9_advertise) (ls' := [_, _, _, _, _]) 161 dX9_advertise_158 ki_1 rfl rfl rfl rfl ?_
    refine f_goto (M := mX9_advertise) 71 dX9_advertise_161 rfl ?_
    rw [n_inc (s := k), up_s, up_up, pt_s]; exact ih (w4 := _) (k + 1) (by omega)
theorem l_X9_advertise_0 (hR : x_wf R) {Ns Np Nl : Nat} (hNs : Ns ≤ 6) (hn : I 226 8 = Int32.ofNat Ns) (hNp : Np ≤ 30) (hp : I 226 9 = Int32.ofNat Np) (hNl : Nl ≤ 60) (hl : I 226 14 = Int32.ofNat Nl) {g : Nat → Int32} (hg : ∀ s, g s = sp_est (I 226) Np s) {w4 : Option Value} {r : x_O × x_Mem × Nat} (kk : ∀ w4, x_Ev X mX9_advertise 164 [some (.ref 225), some (.int 0), some (.int (x_sum32 g Ns)), some (.int (Int32.ofNat Ns)), w4] [] (((va_up I 226 (y_put (I 226) 32 g Ns)), L, R), 233, 0, 0) r) : ∀ d k, k + d = Ns → x_Ev X mX9_advertise 71 [some (.ref 225), some (.int 0), some (.int (x_sum32 g k)), some (.int (Int32.ofNat k)), w4] [] (((va_up I 226 (y_put (I 226) 32 g k)), L, R), 233, 0, 0) r := by
  intro d
  induction d generalizing w4 with
  | zero =>
    intro k hd
    obtain rfl : Ns = k := by omega
    refine f_iload_n (M := mX9_advertise) 72 dX9_advertise_71 rfl rfl ?_
    refine f_aload_n (M := mX9_advertise) 73 dX9_advertise_72 rfl rfl ?_
    refine e_getR (M := mX9_advertise) dX9_advertise_73 fl_9007 (x_kk rfl) (x_kk rfl) rfl (wf_9_0 hR) ?_
    refine f_bipush (M := mX9_advertise) 78 dX9_advertise_76 kb_8 rfl ?_
    refine e_ild (M := mX9_advertise) (w := 606) (j := 8) dX9_advertise_78 (x_kk rfl) rfl kn_8 (by omega) (by omega) ?_
    refine e_icmp_geT (M := mX9_advertise) 164 dX9_advertise_79 rfl (by rw [up_s, pt_o (by omega), hn]; exact Int32.le_refl _) ?_
    exact kk _
  | succ d ih =>
    intro k hd
    refine f_iload_n (M := mX9_advertise) 72 dX9_advertise_71 rfl rfl ?_
    refine f_aload_n (M := mX9_advertise) 73 dX9_advertise_72 rfl rfl ?_
    refine e_getR (M := mX9_advertise) dX9_advertise_73 fl_9007 (x_kk rfl) (x_kk rfl) rfl (wf_9_0 hR) ?_
    refine f_bipush (M := mX9_advertise) 78 dX9_advertise_76 kb_8 rfl ?_
    refine e_ild (M := mX9_advertise) (w := 606) (j := 8) dX9_advertise_78 (x_kk rfl) rfl kn_8 (by omega) (by omega) ?_
    refine e_icmp_geF (M := mX9_advertise) 164 dX9_advertise_79 rfl (by rw [up_s, pt_o (by omega), hn, n_le (by omega) (by omega)]; omega) ?_
    refine f_iload_n (M := mX9_advertise) 83 dX9_advertise_82 rfl rfl ?_
    refine e_if_eqT (M := mX9_advertise) 94 dX9_advertise_83 rfl (show (0 : Int32) = 0 by decide) ?_
    refine f_aload_n (M := mX9_advertise) 95 dX9_advertise_94 rfl rfl ?_
    refine e_getR (M := mX9_advertise) dX9_advertise_95 fl_9007 (x_kk rfl) (x_kk rfl) rfl (wf_9_0 hR) ?_
    refine f_bipush (M := mX9_advertise) 100 dX9_advertise_98 kb_9 rfl ?_
    refine e_ild (M := mX9_advertise) (w := 606) (j := 9) dX9_advertise_100 (x_kk rfl) rfl kn_9 (by omega) (by omega) ?_
    refine e_if_ne (M := mX9_advertise) (t := 108) dX9_advertise_101 rfl (fun h2 => ?_) (fun h2 => ?_)
    · refine f_aload_n (M := mX9_advertise) 109 dX9_advertise_108 rfl rfl ?_
      refine e_getR (M := mX9_advertise) dX9_advertise_109 fl_9007 (x_kk rfl) (x_kk rfl) rfl (wf_9_0 hR) ?_
      refine f_iconst (M := mX9_advertise) 113 dX9_advertise_112 ki_1 rfl ?_
      refine e_ild (M := mX9_advertise) (w := 606) (j := 1) dX9_advertise_113 (x_kk rfl) rfl kn_1 (by omega) (by omega) ?_
      refine f_i2l (M := mX9_advertise) 115 dX9_advertise_114 rfl ?_
      refine f_aload_n (M := mX9_advertise) 116 dX9_advertise_115 rfl rfl ?_
      refine f_iload_n (M := mX9_advertise) 117 dX9_advertise_116 rfl rfl ?_
      refine e_cV (M := mX9_advertise) [_, _] 0 0 dX9_advertise_117 pa_9143 pb_9143 cc_9143 rfl rfl rfl rfl rfl (x_kk rfl) (x_kk rfl) rfl ((by have e := c_X9_sumOf (X := X) (I := (va_up I 226 (y_put (I 226) 32 g k))) (L := L) hR hNp (by rw [up_s, pt_o (by omega)]; exact hp) (Or.inr ⟨k, (show k < 6 by omega), rfl⟩); rw [up_s, sum_cc (a := I 226) (fun j hj => pt_o (by omega)) (by omega) hNp] at e; exact e)) rfl ?_
      refine f_lmul (M := mX9_advertise) 121 dX9_advertise_120 rfl ?_
      refine f_aload_n (M := mX9_advertise) 122 dX9_advertise_121 rfl rfl ?_
      refine e_getR (M := mX9_advertise) dX9_advertise_122 fl_9007 (x_kk rfl) (x_kk rfl) rfl (wf_9_0 hR) ?_
      refine f_bipush (M := mX9_advertise) 127 dX9_advertise_125 kb_9 rfl ?_
      refine e_ild (M := mX9_advertise) (w := 606) (j := 9) dX9_advertise_127 (x_kk rfl) rfl kn_9 (by omega) (by omega) ?_
      refine f_i2l (M := mX9_advertise) 129 dX9_advertise_128 rfl ?_
      refine e_ldiv (M := mX9_advertise) dX9_advertise_129 (fun z => h2 (by rw [T_eq, T_w] at z; rw [t_eq]; exact z)) ?_
      refine f_l2i (M := mX9_advertise) 131 dX9_advertise_130 rfl ?_
      refine f_istore (M := mX9_advertise) (ls' := [_, _, _, _, _]) 133 dX9_advertise_131 rfl rfl rfl ?_
      refine f_aload_n (M := mX9_advertise) 134 dX9_advertise_133 rfl rfl ?_
      refine e_getR (M := mX9_advertise) dX9_advertise_134 fl_9007 (x_kk rfl) (x_kk rfl) rfl (wf_9_0 hR) ?_
      refine f_iload_n (M := mX9_advertise) 138 dX9_advertise_137 rfl rfl ?_
      refine e_if_eqT (M := mX9_advertise) 146 dX9_advertise_138 rfl (show (0 : Int32) = 0 by decide) ?_
      refine f_bipush (M := mX9_advertise) 148 dX9_advertise_146 kb_32 rfl ?_
      refine f_iload_n (M := mX9_advertise) 149 dX9_advertise_148 rfl rfl ?_
      refine f_iadd (M := mX9_advertise) 150 dX9_advertise_149 rfl ?_
      refine f_iload (M := mX9_advertise) 152 dX9_advertise_150 rfl rfl ?_
      refine e_ist (M := mX9_advertise) (w := 606) (j := (32) + (k)) dX9_advertise_152 (x_kk rfl) rfl (ix_add kn_32 rfl) (by omega) (by omega) ?_
      refine f_iload_n (M := mX9_advertise) 154 dX9_advertise_153 rfl rfl ?_
      refine f_iload (M := mX9_advertise) 156 dX9_advertise_154 rfl rfl ?_
      refine f_iadd (M := mX9_advertise) 157 dX9_advertise_156 rfl ?_
      refine f_istore_n (M := mX9_advertise) (ls' := [_, _, _, _, _]) 158 dX9_advertise_157 rfl rfl rfl ?_
      refine f_iinc (M := mX9_advertise) (ls' := [_, _, _, _, _]) 161 dX9_advertise_158 ki_1 rfl rfl rfl rfl ?_
      refine f_goto (M := mX9_advertise) 71 dX9_advertise_161 rfl ?_
      rw [n_inc (s := k)]; rw [up_s, pt_o (show ¬ (32 ≤ 1 ∧ 1 < 32 + k) by omega), pt_o (show ¬ (32 ≤ 9 ∧ 9 < 32 + k) by omega)]; rw [up_s, pt_o (show ¬ (32 ≤ 9 ∧ 9 < 32 + k) by omega)] at h2; rw [show ((I 226 1).toInt64 * sp_sum (I 226) (Int32.ofNat k) Np / (I 226 9).toInt64).toInt32 = g k from by rw [hg k]; exact (if_neg h2).symm, up_up, pt_s]; exact ih (w4 := _) (k + 1) (by omega)
    · refine f_iconst (M := mX9_advertise) 105 dX9_advertise_104 ki_0 rfl ?_
      refine f_goto (M := mX9_advertise) 131 dX9_advertise_105 rfl ?_
      refine f_istore (M := mX9_advertise) (ls' := [_, _, _, _, _]) 133 dX9_advertise_131 rfl rfl rfl ?_
      refine f_aload_n (M := mX9_advertise) 134 dX9_advertise_133 rfl rfl ?_
      refine e_getR (M := mX9_advertise) dX9_advertise_134 fl_9007 (x_kk rfl) (x_kk rfl) rfl (wf_9_0 hR) ?_
      refine f_iload_n (M := mX9_advertise) 138 dX9_advertise_137 rfl rfl ?_
      refine e_if_eqT (M := mX9_advertise) 146 dX9_advertise_138 rfl (show (0 : Int32) = 0 by decide) ?_
      refine f_bipush (M := mX9_advertise) 148 dX9_advertise_146 kb_32 rfl ?_
      refine f_iload_n (M := mX9_advertise) 149 dX9_advertise_148 rfl rfl ?_
      refine f_iadd (M := mX9_advertise) 150 dX9_advertise_149 rfl ?_
      refine f_iload (M := mX9_advertise) 152 dX9_advertise_150 rfl rfl ?_
      refine e_ist (M := mX9_advertise) (w := 606) (j := (32) + (k)) dX9_advertise_152 (x_kk rfl) rfl (ix_add kn_32 rfl) (by omega) (by omega) ?_
      refine f_iload_n (M := mX9_advertise) 154 dX9_advertise_153 rfl rfl ?_
      refine f_iload (M := mX9_advertise) 156 dX9_advertise_154 rfl rfl ?_
      refine f_iadd (M := mX9_advertise) 157 dX9_advertise_156 rfl ?_
      refine f_istore_n (M := mX9_advertise) (ls' := [_, _, _, _, _]) 158 dX9_advertise_157 rfl rfl rfl ?_
      refine f_iinc (M := mX9_advertise) (ls' := [_, _, _, _, _]) 161 dX9_advertise_158 ki_1 rfl rfl rfl rfl ?_
      refine f_goto (M := mX9_advertise) 71 dX9_advertise_161 rfl ?_
      rw [up_s, pt_o (show ¬ (32 ≤ 9 ∧ 9 < 32 + k) by omega)] at h2; have hv : g k = 0 := (by rw [hg k]; exact if_pos (x_dn h2)); have ih1 := fun w4 => ih (w4 := w4) (k + 1) (by omega); rw [show x_sum32 g (k + 1) = x_sum32 g k + 0 from (by show x_sum32 g k + g k = _; rw [hv])] at ih1; rw [n_inc (s := k), up_s, up_up, show va_up (y_put (I 226) 32 g k) (32 + k) 0 = y_put (I 226) 32 g (k + 1) from (by rw [← hv]; exact pt_s)]; exact ih1 _
theorem l_X9_adv2_1 (hR : x_wf R) {t : Int32} {w4 : Option Value} : ∀ d k, k + d = 64 → x_Ev X mX9_advertise 166 [some (.ref 225), some (.int 1), some (.int t), some (.int (Int32.ofNat k)), w4] [] (((va_up I 226 (y_z (I 226) 224 k)), L, R), 233, 0, 0) (.inl (some (.int (t))), (va_up I 226 (va_up (va_up (y_z (I 226) 224 64) 10 0) 0 6), L, R), 233) := by
  intro d
  induction d with
  | zero =>
    intro k hd
    obtain rfl : 64 = k := hd.symm
    refine f_iload_n (M := mX9_advertise) 167 dX9_advertise_166 rfl rfl ?_
    refine f_bipush (M := mX9_advertise) 169 dX9_advertise_167 kb_64 rfl ?_
    refine e_icmp_geT (M := mX9_advertise) 189 dX9_advertise_169 rfl (by decide) ?_
    refine f_aload_n (M := mX9_advertise) 190 dX9_advertise_189 rfl rfl ?_
    refine e_getR (M := mX9_advertise) dX9_advertise_190 fl_9007 (x_kk rfl) (x_kk rfl) rfl (wf_9_0 hR) ?_
    refine f_bipush (M := mX9_advertise) 195 dX9_advertise_193 kb_10 rfl ?_
    refine f_iconst (M := mX9_advertise) 196 dX9_advertise_195 ki_0 rfl ?_
    refine e_ist (M := mX9_advertise) (w := 606) (j := 10) dX9_advertise_196 (x_kk rfl) rfl kn_10 (by omega) (by omega) ?_
    refine f_aload_n (M := mX9_advertise) 198 dX9_advertise_197 rfl rfl ?_
    refine e_getR (M := mX9_advertise) dX9_advertise_198 fl_9007 (x_kk rfl) (x_kk rfl) rfl (wf_9_0 hR) ?_
    refine f_iconst (M := mX9_advertise) 202 dX9_advertise_201 ki_0 rfl ?_
    refine f_iload_n (M := mX9_advertise) 203 dX9_advertise_202 rfl rfl ?_
    refine e_if_eqF (M := mX9_advertise) 211 dX9_advertise_203 rfl (show ¬ ((1 : Int32) = 0) by decide) ?_
    refine f_bipush (M := mX9_advertise) 208 dX9_advertise_206 kb_6 rfl ?_
    refine f_goto (M := mX9_advertise) 212 dX9_advertise_208 rfl ?_
    refine e_ist (M := mX9_advertise) (w := 606) (j := 0) dX9_advertise_212 (x_kk rfl) rfl kn_0 (by omega) (by omega) ?_
    refine f_iload_n (M := mX9_advertise) 214 dX9_advertise_213 rfl rfl ?_
    refine e_ri (M := mX9_advertise) dX9_advertise_214 rfl (x_kk rfl) (x_kk rfl) ?_
    exact (by simp only [x_up_self, up_up])
  | succ d ih =>
    intro k hd
    refine f_iload_n (M := mX9_advertise) 167 dX9_advertise_166 rfl rfl ?_
    refine f_bipush (M := mX9_advertise) 169 dX9_advertise_167 kb_64 rfl ?_
    refine e_icmp_geF (M := mX9_advertise) 189 dX9_advertise_169 rfl (by rw [kn_64, n_le (by omega) (by omega)]; omega) ?_
    refine f_aload_n (M := mX9_advertise) 173 dX9_advertise_172 rfl rfl ?_
    refine e_getR (M := mX9_advertise) dX9_advertise_173 fl_9007 (x_kk rfl) (x_kk rfl) rfl (wf_9_0 hR) ?_
    refine f_sipush (M := mX9_advertise) 179 dX9_advertise_176 ks_224 rfl ?_
    refine f_iload_n (M := mX9_advertise) 180 dX9_advertise_179 rfl rfl ?_
    refine f_iadd (M := mX9_advertise) 181 dX9_advertise_180 rfl ?_
    refine f_iconst (M := mX9_advertise) 182 dX9_advertise_181 ki_0 rfl ?_
    refine e_ist (M := mX9_advertise) (w := 606) (j := (224) + (k)) dX9_advertise_182 (x_kk rfl) rfl (ix_add kn_224 rfl) (by omega) (by omega) ?_
    refine f_iinc (M := mX9_advertise) (ls' := [_, _, _, _, _]) 186 dX9_advertise_183 ki_1 rfl rfl rfl rfl ?_
    refine f_goto (M := mX9_advertise) 166 dX9_advertise_186 rfl ?_
    rw [n_inc (s := k), up_s, up_up, z_s]; exact ih (k + 1) (by omega)
theorem l_X9_adv2_0 (hR : x_wf R) {t : Int32} {w4 : Option Value} : ∀ d k, k + d = 64 → x_Ev X mX9_advertise 166 [some (.ref 225), some (.int 0), some (.int t), some (.int (Int32.ofNat k)), w4] [] (((va_up I 226 (y_z (I 226) 224 k)), L, R), 233, 0, 0) (.inl (some (.int (t))), (va_up I 226 (va_up (va_up (y_z (I 226) 224 64) 10 0) 0 1), L, R), 233) := by
  intro d
  induction d with
  | zero =>
    intro k hd
    obtain rfl : 64 = k := hd.symm
    refine f_iload_n (M := mX9_advertise) 167 dX9_advertise_166 rfl rfl ?_
    refine f_bipush (M := mX9_advertise) 169 dX9_advertise_167 kb_64 rfl ?_
    refine e_icmp_geT (M := mX9_advertise) 189 dX9_advertise_169 rfl (by decide) ?_
    refine f_aload_n (M := mX9_advertise) 190 dX9_advertise_189 rfl rfl ?_
    refine e_getR (M := mX9_advertise) dX9_advertise_190 fl_9007 (x_kk rfl) (x_kk rfl) rfl (wf_9_0 hR) ?_
    refine f_bipush (M := mX9_advertise) 195 dX9_advertise_193 kb_10 rfl ?_
    refine f_iconst (M := mX9_advertise) 196 dX9_advertise_195 ki_0 rfl ?_
    refine e_ist (M := mX9_advertise) (w := 606) (j := 10) dX9_advertise_196 (x_kk rfl) rfl kn_10 (by omega) (by omega) ?_
    refine f_aload_n (M := mX9_advertise) 198 dX9_advertise_197 rfl rfl ?_
    refine e_getR (M := mX9_advertise) dX9_advertise_198 fl_9007 (x_kk rfl) (x_kk rfl) rfl (wf_9_0 hR) ?_
    refine f_iconst (M := mX9_advertise) 202 dX9_advertise_201 ki_0 rfl ?_
    refine f_iload_n (M := mX9_advertise) 203 dX9_advertise_202 rfl rfl ?_
    refine e_if_eqT (M := mX9_advertise) 211 dX9_advertise_203 rfl (show (0 : Int32) = 0 by decide) ?_
    refine f_iconst (M := mX9_advertise) 212 dX9_advertise_211 ki_1 rfl ?_
    refine e_ist (M := mX9_advertise) (w := 606) (j := 0) dX9_advertise_212 (x_kk rfl) rfl kn_0 (by omega) (by omega) ?_
    refine f_iload_n (M := mX9_advertise) 214 dX9_advertise_213 rfl rfl ?_
    refine e_ri (M := mX9_advertise) dX9_advertise_214 rfl (x_kk rfl) (x_kk rfl) ?_
    exact (by simp only [x_up_self, up_up])
  | succ d ih =>
    intro k hd
    refine f_iload_n (M := mX9_advertise) 167 dX9_advertise_166 rfl rfl ?_
    refine f_bipush (M := mX9_advertise) 169 dX9_advertise_167 kb_64 rfl ?_
    refine e_icmp_geF (M := mX9_advertise) 189 dX9_advertise_169 rfl (by rw [kn_64, n_le (by omega) (by omega)]; omega) ?_
    refine f_aload_n (M := mX9_advertise) 173 dX9_advertise_172 rfl rfl ?_
    refine e_getR (M := mX9_advertise) dX9_advertise_173 fl_9007 (x_kk rfl) (x_kk rfl) rfl (wf_9_0 hR) ?_
    refine f_sipush (M := mX9_advertise) 179 dX9_advertise_176 ks_224 rfl ?_
    refine f_iload_n (M := mX9_advertise) 180 dX9_advertise_179 rfl rfl ?_
    refine f_iadd (M := mX9_advertise) 181 dX9_advertise_180 rfl ?_
    refine f_iconst (M := mX9_advertise) 182 dX9_advertise_181 ki_0 rfl ?_
    refine e_ist (M := mX9_advertise) (w := 606) (j := (224) + (k)) dX9_advertise_182 (x_kk rfl) rfl (ix_add kn_224 rfl) (by omega) (by omega) ?_
    refine f_iinc (M := mX9_advertise) (ls' := [_, _, _, _, _]) 186 dX9_advertise_183 ki_1 rfl rfl rfl rfl ?_
    refine f_goto (M := mX9_advertise) 166 dX9_advertise_186 rfl ?_
    rw [n_inc (s := k), up_s, up_up, z_s]; exact ih (k + 1) (by omega)
theorem mx_advertise_0 (hR : x_wf R) {a : Nat → Int32} (ha : I 226 = a) {Ns Np Nl Nm : Nat} (Z : y_Z a Ns Np Nl Nm) {I0 : Nat → Nat → Int32} {L0 : Nat → Nat → Int64} (hk : x_Cv X mX9_keeps [.ref 225] (x_tw I 0, L, R) 233 (.inl none, (I0, L0, R), 233)) (ha0 : I0 226 = a) (h0 : a 0 = 0) (h1 : ¬ a 8 = 0) : x_Cv X mX9_advertise [.ref 225] (I, L, R) 233 (.inl (some (.int (x_sum32 (sp_est a Np) Ns))), (va_up I0 226 (va_up (va_up (y_z (y_put a 32 (sp_est a Np) Ns) 224 64) 10 0) 0 1), L0, R), 233) := by
  subst ha
  obtain ⟨hNs, hn, hNp, hp, hNl, hl, hNm, hmm⟩ := Z
  show x_Ev X mX9_advertise 0 [some (.ref 225), none, none, none, none] [] ((I, L, R), 233, 0, 0) _
  refine f_aload_n (M := mX9_advertise) 1 dX9_advertise_0 rfl rfl ?_
  refine f_aload_n (M := mX9_advertise) 2 dX9_advertise_1 rfl rfl ?_
  refine e_getR (M := mX9_advertise) dX9_advertise_2 fl_9007 (x_kk rfl) (x_kk rfl) rfl (wf_9_0 hR) ?_
  refine f_iconst (M := mX9_advertise) 6 dX9_advertise_5 ki_0 rfl ?_
  refine e_ild (M := mX9_advertise) (w := 606) (j := 0) dX9_advertise_6 (x_kk rfl) rfl kn_0 (by omega) (by omega) ?_
  refine e_if_eqT (M := mX9_advertise) 20 dX9_advertise_7 rfl h0 ?_
  refine f_aload_n (M := mX9_advertise) 21 dX9_advertise_20 rfl rfl ?_
  refine e_getR (M := mX9_advertise) dX9_advertise_21 fl_9007 (x_kk rfl) (x_kk rfl) rfl (wf_9_0 hR) ?_
  refine f_bipush (M := mX9_advertise) 26 dX9_advertise_24 kb_8 rfl ?_
  refine e_ild (M := mX9_advertise) (w := 606) (j := 8) dX9_advertise_26 (x_kk rfl) rfl kn_8 (by omega) (by omega) ?_
  refine e_if_neT (M := mX9_advertise) 34 dX9_advertise_27 rfl h1 ?_
  refine f_iconst (M := mX9_advertise) 35 dX9_advertise_34 ki_0 rfl ?_
  refine e_putI (M := mX9_advertise) dX9_advertise_35 fl_9033 (x_kk rfl) (x_kk rfl) rfl (fun q9 => Bool.noConfusion q9) ?_
  refine f_aload_n (M := mX9_advertise) 39 dX9_advertise_38 rfl rfl ?_
  refine e_getI (M := mX9_advertise) dX9_advertise_39 fl_9033 (x_kk rfl) (x_kk rfl) rfl ?_
  refine e_if_leT (M := mX9_advertise) 47 dX9_advertise_42 rfl (show (0 : Int32) ≤ 0 by decide) ?_
  refine f_aload_n (M := mX9_advertise) 48 dX9_advertise_47 rfl rfl ?_
  refine e_cV (M := mX9_advertise) [] 0 0 dX9_advertise_48 pa_9128 pb_9128 cc_9128 rfl rfl rfl rfl rfl (x_kk rfl) (x_kk rfl) rfl (hk) rfl ?_
  refine f_aload_n (M := mX9_advertise) 52 dX9_advertise_51 rfl rfl ?_
  refine e_getR (M := mX9_advertise) dX9_advertise_52 fl_9007 (x_kk rfl) (x_kk rfl) rfl (wf_9_0 hR) ?_
  refine f_iconst (M := mX9_advertise) 56 dX9_advertise_55 ki_0 rfl ?_
  refine e_ild (M := mX9_advertise) (w := 606) (j := 0) dX9_advertise_56 (x_kk rfl) rfl kn_0 (by omega) (by omega) ?_
  refine f_iconst (M := mX9_advertise) 58 dX9_advertise_57 ki_5 rfl ?_
  refine e_icmp_neT (M := mX9_advertise) 65 dX9_advertise_58 rfl (by rw [ha0, h0]; decide) ?_
  refine f_iconst (M := mX9_advertise) 66 dX9_advertise_65 ki_0 rfl ?_
  refine f_istore_n (M := mX9_advertise) (ls' := [_, _, _, _, _]) 67 dX9_advertise_66 rfl rfl rfl ?_
  refine f_iconst (M := mX9_advertise) 68 dX9_advertise_67 ki_0 rfl ?_
  refine f_istore_n (M := mX9_advertise) (ls' := [_, _, _, _, _]) 69 dX9_advertise_68 rfl rfl rfl ?_
  refine f_iconst (M := mX9_advertise) 70 dX9_advertise_69 ki_0 rfl ?_
  refine f_istore_n (M := mX9_advertise) (ls' := [_, _, _, _, _]) 71 dX9_advertise_70 rfl rfl rfl ?_
  have l1 := fun kk => l_X9_advertise_0 (X := X) (I := I0) (L := L0) (w4 := none) (r := (.inl (some (.int (x_sum32 (sp_est (I 226) Np) Ns))), (va_up I0 226 (va_up (va_up (y_z (y_put (I 226) 32 (sp_est (I 226) Np) Ns) 224 64) 10 0) 0 1), L0, R), 233)) hR hNs (by rw [ha0]; exact hn) hNp (by rw [ha0]; exact hp) hNl (by rw [ha0]; exact hl) (g := (sp_est (I 226) Np)) (fun s => by rw [ha0]) kk Ns 0 (by omega); rw [pt_0, up_self] at l1; refine l1 (fun w4 => ?_)
  refine f_iconst (M := mX9_advertise) 165 dX9_advertise_164 ki_0 rfl ?_
  refine f_istore_n (M := mX9_advertise) (ls' := [_, _, _, _, _]) 166 dX9_advertise_165 rfl rfl rfl ?_
  have l2 := l_X9_adv2_0 (X := X) (I := va_up I0 226 (y_put (I 226) 32 (sp_est (I 226) Np) Ns)) (L := L0) (t := x_sum32 (sp_est (I 226) Np) Ns) (w4 := w4) hR 64 0 rfl; rw [z_0, up_self] at l2; simp only [x_up_self, up_up] at l2; rw [ha0]; exact l2
theorem mx_advertise_5 (hR : x_wf R) {a : Nat → Int32} (ha : I 226 = a) {Ns Np Nl Nm : Nat} (Z : y_Z a Ns Np Nl Nm) {I0 : Nat → Nat → Int32} {L0 : Nat → Nat → Int64} (hk : x_Cv X mX9_keeps [.ref 225] (x_tw I 0, L, R) 233 (.inl none, (I0, L0, R), 233)) (ha0 : I0 226 = a) (h0 : a 0 = 5) (h1 : ¬ a 8 = 0) : x_Cv X mX9_advertise [.ref 225] (I, L, R) 233 (.inl (some (.int (x_sum32 (fun s => sp_rem a s Nl) Ns))), (va_up I0 226 (va_up (va_up (y_z (y_put a 38 (fun s => sp_rem a s Nl) Ns) 224 64) 10 0) 0 6), L0, R), 233) := by
  subst ha
  obtain ⟨hNs, hn, hNp, hp, hNl, hl, hNm, hmm⟩ := Z
  show x_Ev X mX9_advertise 0 [some (.ref 225), none, none, none, none] [] ((I, L, R), 233, 0, 0) _
  refine f_aload_n (M := mX9_advertise) 1 dX9_advertise_0 rfl rfl ?_
  refine f_aload_n (M := mX9_advertise) 2 dX9_advertise_1 rfl rfl ?_
  refine e_getR (M := mX9_advertise) dX9_advertise_2 fl_9007 (x_kk rfl) (x_kk rfl) rfl (wf_9_0 hR) ?_
  refine f_iconst (M := mX9_advertise) 6 dX9_advertise_5 ki_0 rfl ?_
  refine e_ild (M := mX9_advertise) (w := 606) (j := 0) dX9_advertise_6 (x_kk rfl) rfl kn_0 (by omega) (by omega) ?_
  refine e_if_eqF (M := mX9_advertise) 20 dX9_advertise_7 rfl (by show ¬ I 226 0 = 0; rw [h0]; decide) ?_
  refine f_aload_n (M := mX9_advertise) 11 dX9_advertise_10 rfl rfl ?_
  refine e_getR (M := mX9_advertise) dX9_advertise_11 fl_9007 (x_kk rfl) (x_kk rfl) rfl (wf_9_0 hR) ?_
  refine f_iconst (M := mX9_advertise) 15 dX9_advertise_14 ki_0 rfl ?_
  refine e_ild (M := mX9_advertise) (w := 606) (j := 0) dX9_advertise_15 (x_kk rfl) rfl kn_0 (by omega) (by omega) ?_
  refine f_iconst (M := mX9_advertise) 17 dX9_advertise_16 ki_5 rfl ?_
  refine e_icmp_neF (M := mX9_advertise) 30 dX9_advertise_17 rfl (fun z => z h0) ?_
  refine f_aload_n (M := mX9_advertise) 21 dX9_advertise_20 rfl rfl ?_
  refine e_getR (M := mX9_advertise) dX9_advertise_21 fl_9007 (x_kk rfl) (x_kk rfl) rfl (wf_9_0 hR) ?_
  refine f_bipush (M := mX9_advertise) 26 dX9_advertise_24 kb_8 rfl ?_
  refine e_ild (M := mX9_advertise) (w := 606) (j := 8) dX9_advertise_26 (x_kk rfl) rfl kn_8 (by omega) (by omega) ?_
  refine e_if_neT (M := mX9_advertise) 34 dX9_advertise_27 rfl h1 ?_
  refine f_iconst (M := mX9_advertise) 35 dX9_advertise_34 ki_0 rfl ?_
  refine e_putI (M := mX9_advertise) dX9_advertise_35 fl_9033 (x_kk rfl) (x_kk rfl) rfl (fun q9 => Bool.noConfusion q9) ?_
  refine f_aload_n (M := mX9_advertise) 39 dX9_advertise_38 rfl rfl ?_
  refine e_getI (M := mX9_advertise) dX9_advertise_39 fl_9033 (x_kk rfl) (x_kk rfl) rfl ?_
  refine e_if_leT (M := mX9_advertise) 47 dX9_advertise_42 rfl (show (0 : Int32) ≤ 0 by decide) ?_
  refine f_aload_n (M := mX9_advertise) 48 dX9_advertise_47 rfl rfl ?_
  refine e_cV (M := mX9_advertise) [] 0 0 dX9_advertise_48 pa_9128 pb_9128 cc_9128 rfl rfl rfl rfl rfl (x_kk rfl) (x_kk rfl) rfl (hk) rfl ?_
  refine f_aload_n (M := mX9_advertise) 52 dX9_advertise_51 rfl rfl ?_
  refine e_getR (M := mX9_advertise) dX9_advertise_52 fl_9007 (x_kk rfl) (x_kk rfl) rfl (wf_9_0 hR) ?_
  refine f_iconst (M := mX9_advertise) 56 dX9_advertise_55 ki_0 rfl ?_
  refine e_ild (M := mX9_advertise) (w := 606) (j := 0) dX9_advertise_56 (x_kk rfl) rfl kn_0 (by omega) (by omega) ?_
  refine f_iconst (M := mX9_advertise) 58 dX9_advertise_57 ki_5 rfl ?_
  refine e_icmp_neF (M := mX9_advertise) 65 dX9_advertise_58 rfl (fun z => z (by rw [ha0]; exact h0)) ?_
  refine f_iconst (M := mX9_advertise) 62 dX9_advertise_61 ki_1 rfl ?_
  refine f_goto (M := mX9_advertise) 66 dX9_advertise_62 rfl ?_
  refine f_istore_n (M := mX9_advertise) (ls' := [_, _, _, _, _]) 67 dX9_advertise_66 rfl rfl rfl ?_
  refine f_iconst (M := mX9_advertise) 68 dX9_advertise_67 ki_0 rfl ?_
  refine f_istore_n (M := mX9_advertise) (ls' := [_, _, _, _, _]) 69 dX9_advertise_68 rfl rfl rfl ?_
  refine f_iconst (M := mX9_advertise) 70 dX9_advertise_69 ki_0 rfl ?_
  refine f_istore_n (M := mX9_advertise) (ls' := [_, _, _, _, _]) 71 dX9_advertise_70 rfl rfl rfl ?_
  have l1 := fun kk => l_X9_advertise_5 (X := X) (I := I0) (L := L0) (w4 := none) (r := (.inl (some (.int (x_sum32 (fun s => sp_rem (I 226) s Nl) Ns))), (va_up I0 226 (va_up (va_up (y_z (y_put (I 226) 38 (fun s => sp_rem (I 226) s Nl) Ns) 224 64) 10 0) 0 6), L0, R), 233)) hR hNs (by rw [ha0]; exact hn) hNp (by rw [ha0]; exact hp) hNl (by rw [ha0]; exact hl) (g := (fun s => sp_rem (I 226) s Nl)) (fun s => by rw [ha0]) kk Ns 0 (by omega); rw [pt_0, up_self] at l1; refine l1 (fun w4 => ?_)
  refine f_iconst (M := mX9_advertise) 165 dX9_advertise_164 ki_0 rfl ?_
  refine f_istore_n (M := mX9_advertise) (ls' := [_, _, _, _, _]) 166 dX9_advertise_165 rfl rfl rfl ?_
  have l2 := l_X9_adv2_1 (X := X) (I := va_up I0 226 (y_put (I 226) 38 (fun s => sp_rem (I 226) s Nl) Ns)) (L := L0) (t := x_sum32 (fun s => sp_rem (I 226) s Nl) Ns) (w4 := w4) hR 64 0 rfl; rw [z_0, up_self] at l2; simp only [x_up_self, up_up] at l2; rw [ha0]; exact l2
end

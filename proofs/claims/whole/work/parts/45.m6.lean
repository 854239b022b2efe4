/-! ===== the model: queries, an outcome each (laid by wip/whole/src/m6.py) ===== -/
section
variable {X : x_X} {I : Nat → Nat → Int32} {L : Nat → Nat → Int64} {R : Nat → Nat → Option Nat}
def x_tw (I : Nat → Nat → Int32) (t : Int32) : Nat → Nat → Int32 := va_up I 225 (va_up (I 225) 6 t)
theorem in_ok {x : Int32} {N s : Nat} (hx : x = Int32.ofNat N) (hN : N ≤ 1000) (hs : s < N) : 0 ≤ Int32.ofNat s ∧ Int32.ofNat s ≤ x - 1 := by
  rw [hx, ix_sub rfl kn_1 (by omega)]
  exact ⟨by rw [kn_0, n_le (by omega) (by omega)]; omega, by rw [n_le (by omega) (by omega)]; omega⟩
theorem in_of {x v : Int32} {N : Nat} (hx : x = Int32.ofNat N) (hN : N ≤ 1000) (h : 0 ≤ v ∧ v ≤ x - 1) : ∃ s, s < N ∧ v = Int32.ofNat s := by
  cases N with
  | zero =>
    have h1 := h.1
    have h2 := h.2
    rw [hx] at h2
    rw [Int32.le_iff_toInt_le] at h1 h2
    rw [show (Int32.ofNat 0 - 1 : Int32).toInt = -1 from by decide] at h2
    rw [show (0 : Int32).toInt = 0 from by decide] at h1
    omega
  | succ m =>
    refine n_of (by omega) h.1 ?_
    have h2 := h.2
    rw [hx, ix_sub rfl kn_1 (by omega)] at h2
    rw [Int32.le_iff_toInt_le, Int32.toInt_ofNat_of_lt (by omega)] at h2
    rw [Int32.lt_iff_toInt_lt, Int32.toInt_ofNat_of_lt (by omega)]
    omega
/-- between 0 and b -/
theorem ib_ok {b : Int32} {B s : Nat} (hb : b = Int32.ofNat B) (hB : B < 1000000000) (hs : s ≤ B) : 0 ≤ Int32.ofNat s ∧ Int32.ofNat s ≤ b := by
  rw [hb]
  exact ⟨by rw [kn_0, n_le (by omega) (by omega)]; omega, by rw [n_le (by omega) (by omega)]; omega⟩
theorem ib_of {b v : Int32} {B : Nat} (hb : b = Int32.ofNat B) (hB : B < 999999999) (h : 0 ≤ v ∧ v ≤ b) : ∃ s, s ≤ B ∧ v = Int32.ofNat s := by
  obtain ⟨s, h1, h2⟩ := n_of (x := v) (b := B + 1) (by omega) h.1 (by
    have h2 := h.2
    rw [hb, Int32.le_iff_toInt_le, Int32.toInt_ofNat_of_lt (by omega)] at h2
    rw [Int32.lt_iff_toInt_lt, Int32.toInt_ofNat_of_lt (by omega)]
    omega)
  exact ⟨s, by omega, h2⟩
theorem c_X9_volume_1 (hR : x_wf R) {v : Int32} (h1 : ¬ (0 ≤ v ∧ v ≤ I 226 8 - 1)) : x_Cv X mX9_volume [.ref 225, .int v] (I, L, R) 233 (.inl (some (.int (0))), (x_tw I 1, L, R), 233) := by
  show x_Ev X mX9_volume 0 [some (.ref 225), some (.int v)] [] ((I, L, R), 233, 0, 0) _
  refine f_aload_n (M := mX9_volume) 1 dX9_volume_0 rfl rfl ?_
  refine f_aload_n (M := mX9_volume) 2 dX9_volume_1 rfl rfl ?_
  refine f_iload_n (M := mX9_volume) 3 dX9_volume_2 rfl rfl ?_
  refine e_cV (M := mX9_volume) [_, _] 0 0 dX9_volume_3 pa_9137 pb_9137 cc_9137 rfl rfl rfl rfl rfl (x_kk rfl) (x_kk rfl) rfl (c_X9_isSpecies hR) rfl ?_
  refine e_if_neF (M := mX9_volume) 13 dX9_volume_6 rfl (x_bnn h1) ?_
  refine f_iconst (M := mX9_volume) 10 dX9_volume_9 ki_1 rfl ?_
  refine f_goto (M := mX9_volume) 27 dX9_volume_10 rfl ?_
  refine e_putI (M := mX9_volume) dX9_volume_27 fl_9033 (x_kk rfl) (x_kk rfl) rfl (fun q9 => Bool.noConfusion q9) ?_
  refine f_aload_n (M := mX9_volume) 31 dX9_volume_30 rfl rfl ?_
  refine e_getI (M := mX9_volume) dX9_volume_31 fl_9033 (x_kk rfl) (x_kk rfl) rfl ?_
  refine e_if_leF (M := mX9_volume) 41 dX9_volume_34 rfl (show ¬ (1 : Int32) ≤ 0 by decide) ?_
  refine f_iconst (M := mX9_volume) 38 dX9_volume_37 ki_0 rfl ?_
  refine f_goto (M := mX9_volume) 46 dX9_volume_38 rfl ?_
  refine e_ri (M := mX9_volume) dX9_volume_46 rfl (x_kk rfl) (x_kk rfl) ?_
  rfl
theorem c_X9_volume_2 (hR : x_wf R) {Ns s : Nat} (hNs : Ns ≤ 6) (hn : I 226 8 = Int32.ofNat Ns) (hs : s < Ns) (h2 : I 226 0 = 0) : x_Cv X mX9_volume [.ref 225, .int (Int32.ofNat s)] (I, L, R) 233 (.inl (some (.int (0))), (x_tw I 2, L, R), 233) := by
  show x_Ev X mX9_volume 0 [some (.ref 225), some (.int (Int32.ofNat s))] [] ((I, L, R), 233, 0, 0) _
  refine f_aload_n (M := mX9_volume) 1 dX9_volume_0 rfl rfl ?_
  refine f_aload_n (M := mX9_volume) 2 dX9_volume_1 rfl rfl ?_
  refine f_iload_n (M := mX9_volume) 3 dX9_volume_2 rfl rfl ?_
  refine e_cV (M := mX9_volume) [_, _] 0 0 dX9_volume_3 pa_9137 pb_9137 cc_9137 rfl rfl rfl rfl rfl (x_kk rfl) (x_kk rfl) rfl (c_X9_isSpecies hR) rfl ?_
  refine e_if_neT (M := mX9_volume) 13 dX9_volume_6 rfl (x_bn (in_ok hn (by omega) hs)) ?_
  refine f_aload_n (M := mX9_volume) 14 dX9_volume_13 rfl rfl ?_
  refine e_getR (M := mX9_volume) dX9_volume_14 fl_9007 (x_kk rfl) (x_kk rfl) rfl (wf_9_0 hR) ?_
  refine f_iconst (M := mX9_volume) 18 dX9_volume_17 ki_0 rfl ?_
  refine e_ild (M := mX9_volume) (w := 606) (j := 0) dX9_volume_18 (x_kk rfl) rfl kn_0 (by omega) (by omega) ?_
  refine e_if_neF (M := mX9_volume) 26 dX9_volume_19 rfl (fun z => z h2) ?_
  refine f_iconst (M := mX9_volume) 23 dX9_volume_22 ki_2 rfl ?_
  refine f_goto (M := mX9_volume) 27 dX9_volume_23 rfl ?_
  refine e_putI (M := mX9_volume) dX9_volume_27 fl_9033 (x_kk rfl) (x_kk rfl) rfl (fun q9 => Bool.noConfusion q9) ?_
  refine f_aload_n (M := mX9_volume) 31 dX9_volume_30 rfl rfl ?_
  refine e_getI (M := mX9_volume) dX9_volume_31 fl_9033 (x_kk rfl) (x_kk rfl) rfl ?_
  refine e_if_leF (M := mX9_volume) 41 dX9_volume_34 rfl (show ¬ (2 : Int32) ≤ 0 by decide) ?_
  refine f_iconst (M := mX9_volume) 38 dX9_volume_37 ki_0 rfl ?_
  refine f_goto (M := mX9_volume) 46 dX9_volume_38 rfl ?_
  refine e_ri (M := mX9_volume) dX9_volume_46 rfl (x_kk rfl) (x_kk rfl) ?_
  rfl
theorem c_X9_volume_0 (hR : x_wf R) {Ns s : Nat} (hNs : Ns ≤ 6) (hn : I 226 8 = Int32.ofNat Ns) (hs : s < Ns) (h2 : ¬ I 226 0 = 0) : x_Cv X mX9_volume [.ref 225, .int (Int32.ofNat s)] (I, L, R) 233 (.inl (some (.int (sp_vol (I 226) s))), (x_tw I 0, L, R), 233) := by
  show x_Ev X mX9_volume 0 [some (.ref 225), some (.int (Int32.ofNat s))] [] ((I, L, R), 233, 0, 0) _
  refine f_aload_n (M := mX9_volume) 1 dX9_volume_0 rfl rfl ?_
  refine f_aload_n (M := mX9_volume) 2 dX9_volume_1 rfl rfl ?_
  refine f_iload_n (M := mX9_volume) 3 dX9_volume_2 rfl rfl ?_
  refine e_cV (M := mX9_volume) [_, _] 0 0 dX9_volume_3 pa_9137 pb_9137 cc_9137 rfl rfl rfl rfl rfl (x_kk rfl) (x_kk rfl) rfl (c_X9_isSpecies hR) rfl ?_
  refine e_if_neT (M := mX9_volume) 13 dX9_volume_6 rfl (x_bn (in_ok hn (by omega) hs)) ?_
  refine f_aload_n (M := mX9_volume) 14 dX9_volume_13 rfl rfl ?_
  refine e_getR (M := mX9_volume) dX9_volume_14 fl_9007 (x_kk rfl) (x_kk rfl) rfl (wf_9_0 hR) ?_
  refine f_iconst (M := mX9_volume) 18 dX9_volume_17 ki_0 rfl ?_
  refine e_ild (M := mX9_volume) (w := 606) (j := 0) dX9_volume_18 (x_kk rfl) rfl kn_0 (by omega) (by omega) ?_
  refine e_if_neT (M := mX9_volume) 26 dX9_volume_19 rfl h2 ?_
  refine f_iconst (M := mX9_volume) 27 dX9_volume_26 ki_0 rfl ?_
  refine e_putI (M := mX9_volume) dX9_volume_27 fl_9033 (x_kk rfl) (x_kk rfl) rfl (fun q9 => Bool.noConfusion q9) ?_
  refine f_aload_n (M := mX9_volume) 31 dX9_volume_30 rfl rfl ?_
  refine e_getI (M := mX9_volume) dX9_volume_31 fl_9033 (x_kk rfl) (x_kk rfl) rfl ?_
  refine e_if_leT (M := mX9_volume) 41 dX9_volume_34 rfl (show (0 : Int32) ≤ 0 by decide) ?_
  refine f_aload_n (M := mX9_volume) 42 dX9_volume_41 rfl rfl ?_
  refine f_iload_n (M := mX9_volume) 43 dX9_volume_42 rfl rfl ?_
  refine e_cV (M := mX9_volume) [_] 0 0 dX9_volume_43 pa_9177 pb_9177 cc_9177 rfl rfl rfl rfl rfl (x_kk rfl) (x_kk rfl) rfl (c_X9_volumeAt hR (by omega)) rfl ?_
  refine e_ri (M := mX9_volume) dX9_volume_46 rfl (x_kk rfl) (x_kk rfl) ?_
  rfl
theorem c_X9_remaining_1 (hR : x_wf R) {v : Int32} (h1 : ¬ (0 ≤ v ∧ v ≤ I 226 8 - 1)) : x_Cv X mX9_remaining [.ref 225, .int v] (I, L, R) 233 (.inl (some (.int (0))), (x_tw I 1, L, R), 233) := by
  show x_Ev X mX9_remaining 0 [some (.ref 225), some (.int v)] [] ((I, L, R), 233, 0, 0) _
  refine f_aload_n (M := mX9_remaining) 1 dX9_remaining_0 rfl rfl ?_
  refine f_aload_n (M := mX9_remaining) 2 dX9_remaining_1 rfl rfl ?_
  refine f_iload_n (M := mX9_remaining) 3 dX9_remaining_2 rfl rfl ?_
  refine e_cV (M := mX9_remaining) [_, _] 0 0 dX9_remaining_3 pa_9137 pb_9137 cc_9137 rfl rfl rfl rfl rfl (x_kk rfl) (x_kk rfl) rfl (c_X9_isSpecies hR) rfl ?_
  refine e_if_neF (M := mX9_remaining) 13 dX9_remaining_6 rfl (x_bnn h1) ?_
  refine f_iconst (M := mX9_remaining) 10 dX9_remaining_9 ki_1 rfl ?_
  refine f_goto (M := mX9_remaining) 28 dX9_remaining_10 rfl ?_
  refine e_putI (M := mX9_remaining) dX9_remaining_28 fl_9033 (x_kk rfl) (x_kk rfl) rfl (fun q9 => Bool.noConfusion q9) ?_
  refine f_aload_n (M := mX9_remaining) 32 dX9_remaining_31 rfl rfl ?_
  refine e_getI (M := mX9_remaining) dX9_remaining_32 fl_9033 (x_kk rfl) (x_kk rfl) rfl ?_
  refine e_if_leF (M := mX9_remaining) 42 dX9_remaining_35 rfl (show ¬ (1 : Int32) ≤ 0 by decide) ?_
  refine f_iconst (M := mX9_remaining) 39 dX9_remaining_38 ki_0 rfl ?_
  refine f_goto (M := mX9_remaining) 47 dX9_remaining_39 rfl ?_
  refine e_ri (M := mX9_remaining) dX9_remaining_47 rfl (x_kk rfl) (x_kk rfl) ?_
  rfl
theorem c_X9_remaining_2 (hR : x_wf R) {Ns s : Nat} (hNs : Ns ≤ 6) (hn : I 226 8 = Int32.ofNat Ns) (hs : s < Ns) (h2 : ¬ 3 ≤ I 226 0) : x_Cv X mX9_remaining [.ref 225, .int (Int32.ofNat s)] (I, L, R) 233 (.inl (some (.int (0))), (x_tw I 2, L, R), 233) := by
  show x_Ev X mX9_remaining 0 [some (.ref 225), some (.int (Int32.ofNat s))] [] ((I, L, R), 233, 0, 0) _
  refine f_aload_n (M := mX9_remaining) 1 dX9_remaining_0 rfl rfl ?_
  refine f_aload_n (M := mX9_remaining) 2 dX9_remaining_1 rfl rfl ?_
  refine f_iload_n (M := mX9_remaining) 3 dX9_remaining_2 rfl rfl ?_
  refine e_cV (M := mX9_remaining) [_, _] 0 0 dX9_remaining_3 pa_9137 pb_9137 cc_9137 rfl rfl rfl rfl rfl (x_kk rfl) (x_kk rfl) rfl (c_X9_isSpecies hR) rfl ?_
  refine e_if_neT (M := mX9_remaining) 13 dX9_remaining_6 rfl (x_bn (in_ok hn (by omega) hs)) ?_
  refine f_aload_n (M := mX9_remaining) 14 dX9_remaining_13 rfl rfl ?_
  refine e_getR (M := mX9_remaining) dX9_remaining_14 fl_9007 (x_kk rfl) (x_kk rfl) rfl (wf_9_0 hR) ?_
  refine f_iconst (M := mX9_remaining) 18 dX9_remaining_17 ki_0 rfl ?_
  refine e_ild (M := mX9_remaining) (w := 606) (j := 0) dX9_remaining_18 (x_kk rfl) rfl kn_0 (by omega) (by omega) ?_
  refine f_iconst (M := mX9_remaining) 20 dX9_remaining_19 ki_3 rfl ?_
  refine e_icmp_geF (M := mX9_remaining) 27 dX9_remaining_20 rfl h2 ?_
  refine f_iconst (M := mX9_remaining) 24 dX9_remaining_23 ki_2 rfl ?_
  refine f_goto (M := mX9_remaining) 28 dX9_remaining_24 rfl ?_
  refine e_putI (M := mX9_remaining) dX9_remaining_28 fl_9033 (x_kk rfl) (x_kk rfl) rfl (fun q9 => Bool.noConfusion q9) ?_
  refine f_aload_n (M := mX9_remaining) 32 dX9_remaining_31 rfl rfl ?_
  refine e_getI (M := mX9_remaining) dX9_remaining_32 fl_9033 (x_kk rfl) (x_kk rfl) rfl ?_
  refine e_if_leF (M := mX9_remaining) 42 dX9_remaining_35 rfl (show ¬ (2 : Int32) ≤ 0 by decide) ?_
  refine f_iconst (M := mX9_remaining) 39 dX9_remaining_38 ki_0 rfl ?_
  refine f_goto (M := mX9_remaining) 47 dX9_remaining_39 rfl ?_
  refine e_ri (M := mX9_remaining) dX9_remaining_47 rfl (x_kk rfl) (x_kk rfl) ?_
  rfl
theorem c_X9_remaining_0 (hR : x_wf R) {Ns s : Nat} (hNs : Ns ≤ 6) (hn : I 226 8 = Int32.ofNat Ns) (hs : s < Ns) {Nl : Nat} (hNl : Nl ≤ 60) (hl : I 226 14 = Int32.ofNat Nl) (h2 : 3 ≤ I 226 0) : x_Cv X mX9_remaining [.ref 225, .int (Int32.ofNat s)] (I, L, R) 233 (.inl (some (.int (sp_rem (I 226) s Nl))), (x_tw I 0, L, R), 233) := by
  show x_Ev X mX9_remaining 0 [some (.ref 225), some (.int (Int32.ofNat s))] [] ((I, L, R), 233, 0, 0) _
  refine f_aload_n (M := mX9_remaining) 1 dX9_remaining_0 rfl rfl ?_
  refine f_aload_n (M := mX9_remaining) 2 dX9_remaining_1 rfl rfl ?_
  refine f_iload_n (M := mX9_remaining) 3 dX9_remaining_2 rfl rfl ?_
  refine e_cV (M := mX9_remaining) [_, _] 0 0 dX9_remaining_3 pa_9137 pb_9137 cc_9137 rfl rfl rfl rfl rfl (x_kk rfl) (x_kk rfl) rfl (c_X9_isSpecies hR) rfl ?_
  refine e_if_neT (M := mX9_remaining) 13 dX9_remaining_6 rfl (x_bn (in_ok hn (by omega) hs)) ?_
  refine f_aload_n (M := mX9_remaining) 14 dX9_remaining_13 rfl rfl ?_
  refine e_getR (M := mX9_remaining) dX9_remaining_14 fl_9007 (x_kk rfl) (x_kk rfl) rfl (wf_9_0 hR) ?_
  refine f_iconst (M := mX9_remaining) 18 dX9_remaining_17 ki_0 rfl ?_
  refine e_ild (M := mX9_remaining) (w := 606) (j := 0) dX9_remaining_18 (x_kk rfl) rfl kn_0 (by omega) (by omega) ?_
  refine f_iconst (M := mX9_remaining) 20 dX9_remaining_19 ki_3 rfl ?_
  refine e_icmp_geT (M := mX9_remaining) 27 dX9_remaining_20 rfl h2 ?_
  refine f_iconst (M := mX9_remaining) 28 dX9_remaining_27 ki_0 rfl ?_
  refine e_putI (M := mX9_remaining) dX9_remaining_28 fl_9033 (x_kk rfl) (x_kk rfl) rfl (fun q9 => Bool.noConfusion q9) ?_
  refine f_aload_n (M := mX9_remaining) 32 dX9_remaining_31 rfl rfl ?_
  refine e_getI (M := mX9_remaining) dX9_remaining_32 fl_9033 (x_kk rfl) (x_kk rfl) rfl ?_
  refine e_if_leT (M := mX9_remaining) 42 dX9_remaining_35 rfl (show (0 : Int32) ≤ 0 by decide) ?_
  refine f_aload_n (M := mX9_remaining) 43 dX9_remaining_42 rfl rfl ?_
  refine f_iload_n (M := mX9_remaining) 44 dX9_remaining_43 rfl rfl ?_
  refine e_cV (M := mX9_remaining) [_] 0 0 dX9_remaining_44 pa_9174 pb_9174 cc_9174 rfl rfl rfl rfl rfl (x_kk rfl) (x_kk rfl) rfl (c_X9_remains (I := x_tw I 0) hR hNl hl (by omega)) rfl ?_
  refine e_ri (M := mX9_remaining) dX9_remaining_47 rfl (x_kk rfl) (x_kk rfl) ?_
  rfl
theorem c_X9_rate_1a (hR : x_wf R) {v : Int32} (h1 : ¬ (0 ≤ v ∧ v ≤ I 226 8 - 1)) {w : Int32} : x_Cv X mX9_rate [.ref 225, .int v, .int w] (I, L, R) 233 (.inl (some (.int (0))), (x_tw I 1, L, R), 233) := by
  show x_Ev X mX9_rate 0 [some (.ref 225), some (.int v), some (.int w)] [] ((I, L, R), 233, 0, 0) _
  refine f_aload_n (M := mX9_rate) 1 dX9_rate_0 rfl rfl ?_
  refine f_aload_n (M := mX9_rate) 2 dX9_rate_1 rfl rfl ?_
  refine f_iload_n (M := mX9_rate) 3 dX9_rate_2 rfl rfl ?_
  refine e_cV (M := mX9_rate) [_, _] 0 0 dX9_rate_3 pa_9137 pb_9137 cc_9137 rfl rfl rfl rfl rfl (x_kk rfl) (x_kk rfl) rfl (c_X9_isSpecies hR) rfl ?_
  refine e_if_eqT (M := mX9_rate) 21 dX9_rate_6 rfl (x_b0 h1) ?_
  refine f_iconst (M := mX9_rate) 22 dX9_rate_21 ki_1 rfl ?_
  refine f_goto (M := mX9_rate) 40 dX9_rate_22 rfl ?_
  refine e_putI (M := mX9_rate) dX9_rate_40 fl_9033 (x_kk rfl) (x_kk rfl) rfl (fun q9 => Bool.noConfusion q9) ?_
  refine f_aload_n (M := mX9_rate) 44 dX9_rate_43 rfl rfl ?_
  refine e_getI (M := mX9_rate) dX9_rate_44 fl_9033 (x_kk rfl) (x_kk rfl) rfl ?_
  refine e_if_leF (M := mX9_rate) 54 dX9_rate_47 rfl (show ¬ (1 : Int32) ≤ 0 by decide) ?_
  refine f_iconst (M := mX9_rate) 51 dX9_rate_50 ki_0 rfl ?_
  refine f_goto (M := mX9_rate) 60 dX9_rate_51 rfl ?_
  refine e_ri (M := mX9_rate) dX9_rate_60 rfl (x_kk rfl) (x_kk rfl) ?_
  rfl
theorem c_X9_rate_1b (hR : x_wf R) {Ns s : Nat} (hNs : Ns ≤ 6) (hn : I 226 8 = Int32.ofNat Ns) (hs : s < Ns) {w : Int32} (h1 : ¬ (0 ≤ w ∧ w ≤ 11)) : x_Cv X mX9_rate [.ref 225, .int (Int32.ofNat s), .int w] (I, L, R) 233 (.inl (some (.int (0))), (x_tw I 1, L, R), 233) := by
  show x_Ev X mX9_rate 0 [some (.ref 225), some (.int (Int32.ofNat s)), some (.int w)] [] ((I, L, R), 233, 0, 0) _
  refine f_aload_n (M := mX9_rate) 1 dX9_rate_0 rfl rfl ?_
  refine f_aload_n (M := mX9_rate) 2 dX9_rate_1 rfl rfl ?_
  refine f_iload_n (M := mX9_rate) 3 dX9_rate_2 rfl rfl ?_
  refine e_cV (M := mX9_rate) [_, _] 0 0 dX9_rate_3 pa_9137 pb_9137 cc_9137 rfl rfl rfl rfl rfl (x_kk rfl) (x_kk rfl) rfl (c_X9_isSpecies hR) rfl ?_
  refine e_if_eqF (M := mX9_rate) 21 dX9_rate_6 rfl (x_bn (in_ok hn (by omega) hs)) ?_
  refine f_iload_n (M := mX9_rate) 10 dX9_rate_9 rfl rfl ?_
  refine f_i2l (M := mX9_rate) 11 dX9_rate_10 rfl ?_
  refine f_lconst (M := mX9_rate) 12 dX9_rate_11 kl_0 rfl ?_
  refine f_ldc2 (M := mX9_rate) 15 dX9_rate_12 (x_kk rfl) csl_9239 rfl ?_
  refine e_cS (M := mX9_rate) [_, _] 0 0 dX9_rate_15 pa_9074 cc_9074 rfl rfl rfl rfl rfl (x_kk rfl) (x_kk rfl) rfl (c_X9_isInI (lo := 0) (hi := 11)) rfl ?_
  refine e_if_neF (M := mX9_rate) 25 dX9_rate_18 rfl (x_bnn h1) ?_
  refine f_iconst (M := mX9_rate) 22 dX9_rate_21 ki_1 rfl ?_
  refine f_goto (M := mX9_rate) 40 dX9_rate_22 rfl ?_
  refine e_putI (M := mX9_rate) dX9_rate_40 fl_9033 (x_kk rfl) (x_kk rfl) rfl (fun q9 => Bool.noConfusion q9) ?_
  refine f_aload_n (M := mX9_rate) 44 dX9_rate_43 rfl rfl ?_
  refine e_getI (M := mX9_rate) dX9_rate_44 fl_9033 (x_kk rfl) (x_kk rfl) rfl ?_
  refine e_if_leF (M := mX9_rate) 54 dX9_rate_47 rfl (show ¬ (1 : Int32) ≤ 0 by decide) ?_
  refine f_iconst (M := mX9_rate) 51 dX9_rate_50 ki_0 rfl ?_
  refine f_goto (M := mX9_rate) 60 dX9_rate_51 rfl ?_
  refine e_ri (M := mX9_rate) dX9_rate_60 rfl (x_kk rfl) (x_kk rfl) ?_
  rfl
theorem c_X9_rate_2 (hR : x_wf R) {Ns s : Nat} (hNs : Ns ≤ 6) (hn : I 226 8 = Int32.ofNat Ns) (hs : s < Ns) {Q : Nat} (hQ : Q < 12) (h2 : ¬ 3 ≤ I 226 0) : x_Cv X mX9_rate [.ref 225, .int (Int32.ofNat s), .int (Int32.ofNat Q)] (I, L, R) 233 (.inl (some (.int (0))), (x_tw I 2, L, R), 233) := by
  show x_Ev X mX9_rate 0 [some (.ref 225), some (.int (Int32.ofNat s)), some (.int (Int32.ofNat Q))] [] ((I, L, R), 233, 0, 0) _
  refine f_aload_n (M := mX9_rate) 1 dX9_rate_0 rfl rfl ?_
  refine f_aload_n (M := mX9_rate) 2 dX9_rate_1 rfl rfl ?_
  refine f_iload_n (M := mX9_rate) 3 dX9_rate_2 rfl rfl ?_
  refine e_cV (M := mX9_rate) [_, _] 0 0 dX9_rate_3 pa_9137 pb_9137 cc_9137 rfl rfl rfl rfl rfl (x_kk rfl) (x_kk rfl) rfl (c_X9_isSpecies hR) rfl ?_
  refine e_if_eqF (M := mX9_rate) 21 dX9_rate_6 rfl (x_bn (in_ok hn (by omega) hs)) ?_
  refine f_iload_n (M := mX9_rate) 10 dX9_rate_9 rfl rfl ?_
  refine f_i2l (M := mX9_rate) 11 dX9_rate_10 rfl ?_
  refine f_lconst (M := mX9_rate) 12 dX9_rate_11 kl_0 rfl ?_
  refine f_ldc2 (M := mX9_rate) 15 dX9_rate_12 (x_kk rfl) csl_9239 rfl ?_
  refine e_cS (M := mX9_rate) [_, _] 0 0 dX9_rate_15 pa_9074 cc_9074 rfl rfl rfl rfl rfl (x_kk rfl) (x_kk rfl) rfl (c_X9_isInI (lo := 0) (hi := 11)) rfl ?_
  refine e_if_neT (M := mX9_rate) 25 dX9_rate_18 rfl (x_bn (ib_ok kn_11 (by omega) (by omega))) ?_
  refine f_aload_n (M := mX9_rate) 26 dX9_rate_25 rfl rfl ?_
  refine e_getR (M := mX9_rate) dX9_rate_26 fl_9007 (x_kk rfl) (x_kk rfl) rfl (wf_9_0 hR) ?_
  refine f_iconst (M := mX9_rate) 30 dX9_rate_29 ki_0 rfl ?_
  refine e_ild (M := mX9_rate) (w := 606) (j := 0) dX9_rate_30 (x_kk rfl) rfl kn_0 (by omega) (by omega) ?_
  refine f_iconst (M := mX9_rate) 32 dX9_rate_31 ki_3 rfl ?_
  refine e_icmp_geF (M := mX9_rate) 39 dX9_rate_32 rfl h2 ?_
  refine f_iconst (M := mX9_rate) 36 dX9_rate_35 ki_2 rfl ?_
  refine f_goto (M := mX9_rate) 40 dX9_rate_36 rfl ?_
  refine e_putI (M := mX9_rate) dX9_rate_40 fl_9033 (x_kk rfl) (x_kk rfl) rfl (fun q9 => Bool.noConfusion q9) ?_
  refine f_aload_n (M := mX9_rate) 44 dX9_rate_43 rfl rfl ?_
  refine e_getI (M := mX9_rate) dX9_rate_44 fl_9033 (x_kk rfl) (x_kk rfl) rfl ?_
  refine e_if_leF (M := mX9_rate) 54 dX9_rate_47 rfl (show ¬ (2 : Int32) ≤ 0 by decide) ?_
  refine f_iconst (M := mX9_rate) 51 dX9_rate_50 ki_0 rfl ?_
  refine f_goto (M := mX9_rate) 60 dX9_rate_51 rfl ?_
  refine e_ri (M := mX9_rate) dX9_rate_60 rfl (x_kk rfl) (x_kk rfl) ?_
  rfl
theorem c_X9_rate_0 (hR : x_wf R) {Ns s : Nat} (hNs : Ns ≤ 6) (hn : I 226 8 = Int32.ofNat Ns) (hs : s < Ns) {Q : Nat} (hQ : Q < 12) (h2 : 3 ≤ I 226 0) : x_Cv X mX9_rate [.ref 225, .int (Int32.ofNat s), .int (Int32.ofNat Q)] (I, L, R) 233 (.inl (some (.int (sp_rateOf (I 226) s Q))), (x_tw I 0, L, R), 233) := by
  show x_Ev X mX9_rate 0 [some (.ref 225), some (.int (Int32.ofNat s)), some (.int (Int32.ofNat Q))] [] ((I, L, R), 233, 0, 0) _
  refine f_aload_n (M := mX9_rate) 1 dX9_rate_0 rfl rfl ?_
  refine f_aload_n (M := mX9_rate) 2 dX9_rate_1 rfl rfl ?_
  refine f_iload_n (M := mX9_rate) 3 dX9_rate_2 rfl rfl ?_
  refine e_cV (M := mX9_rate) [_, _] 0 0 dX9_rate_3 pa_9137 pb_9137 cc_9137 rfl rfl rfl rfl rfl (x_kk rfl) (x_kk rfl) rfl (c_X9_isSpecies hR) rfl ?_
  refine e_if_eqF (M := mX9_rate) 21 dX9_rate_6 rfl (x_bn (in_ok hn (by omega) hs)) ?_
  refine f_iload_n (M := mX9_rate) 10 dX9_rate_9 rfl rfl ?_
  refine f_i2l (M := mX9_rate) 11 dX9_rate_10 rfl ?_
  refine f_lconst (M := mX9_rate) 12 dX9_rate_11 kl_0 rfl ?_
  refine f_ldc2 (M := mX9_rate) 15 dX9_rate_12 (x_kk rfl) csl_9239 rfl ?_
  refine e_cS (M := mX9_rate) [_, _] 0 0 dX9_rate_15 pa_9074 cc_9074 rfl rfl rfl rfl rfl (x_kk rfl) (x_kk rfl) rfl (c_X9_isInI (lo := 0) (hi := 11)) rfl ?_
  refine e_if_neT (M := mX9_rate) 25 dX9_rate_18 rfl (x_bn (ib_ok kn_11 (by omega) (by omega))) ?_
  refine f_aload_n (M := mX9_rate) 26 dX9_rate_25 rfl rfl ?_
  refine e_getR (M := mX9_rate) dX9_rate_26 fl_9007 (x_kk rfl) (x_kk rfl) rfl (wf_9_0 hR) ?_
  refine f_iconst (M := mX9_rate) 30 dX9_rate_29 ki_0 rfl ?_
  refine e_ild (M := mX9_rate) (w := 606) (j := 0) dX9_rate_30 (x_kk rfl) rfl kn_0 (by omega) (by omega) ?_
  refine f_iconst (M := mX9_rate) 32 dX9_rate_31 ki_3 rfl ?_
  refine e_icmp_geT (M := mX9_rate) 39 dX9_rate_32 rfl h2 ?_
  refine f_iconst (M := mX9_rate) 40 dX9_rate_39 ki_0 rfl ?_
  refine e_putI (M := mX9_rate) dX9_rate_40 fl_9033 (x_kk rfl) (x_kk rfl) rfl (fun q9 => Bool.noConfusion q9) ?_
  refine f_aload_n (M := mX9_rate) 44 dX9_rate_43 rfl rfl ?_
  refine e_getI (M := mX9_rate) dX9_rate_44 fl_9033 (x_kk rfl) (x_kk rfl) rfl ?_
  refine e_if_leT (M := mX9_rate) 54 dX9_rate_47 rfl (show (0 : Int32) ≤ 0 by decide) ?_
  refine f_aload_n (M := mX9_rate) 55 dX9_rate_54 rfl rfl ?_
  refine f_iload_n (M := mX9_rate) 56 dX9_rate_55 rfl rfl ?_
  refine f_iload_n (M := mX9_rate) 57 dX9_rate_56 rfl rfl ?_
  refine e_cV (M := mX9_rate) [_] 0 0 dX9_rate_57 pa_9246 pb_9246 cc_9246 rfl rfl rfl rfl rfl (x_kk rfl) (x_kk rfl) rfl (c_X9_rateOf hR (by omega) hQ) rfl ?_
  refine e_ri (M := mX9_rate) dX9_rate_60 rfl (x_kk rfl) (x_kk rfl) ?_
  rfl
theorem c_X9_bidRefusal_1 (hR : x_wf R) {v : Int32} (h : ¬ (0 ≤ v ∧ v ≤ 7)) : x_Cv X mX9_bidRefusal [.ref 225, .int v] (I, L, R) 233 (.inl (some (.int (1))), (I, L, R), 233) := by
  show x_Ev X mX9_bidRefusal 0 [some (.ref 225), some (.int v)] [] ((I, L, R), 233, 0, 0) _
  refine f_iload_n (M := mX9_bidRefusal) 1 dX9_bidRefusal_0 rfl rfl ?_
  refine e_cS (M := mX9_bidRefusal) [_] 0 0 dX9_bidRefusal_1 pa_9185 cc_9185 rfl rfl rfl rfl rfl (x_kk rfl) (x_kk rfl) rfl (c_X9_isBidder) rfl ?_
  refine e_if_neF (M := mX9_bidRefusal) 11 dX9_bidRefusal_4 rfl (x_bnn h) ?_
  refine f_iconst (M := mX9_bidRefusal) 8 dX9_bidRefusal_7 ki_1 rfl ?_
  refine f_goto (M := mX9_bidRefusal) 23 dX9_bidRefusal_8 rfl ?_
  refine e_ri (M := mX9_bidRefusal) dX9_bidRefusal_23 rfl (x_kk rfl) (x_kk rfl) ?_
  rfl
theorem c_X9_bidRefusal_2 (hR : x_wf R) {q : Nat} (hq : q < 8) (h : ¬ (1 < I 226 0 ∧ ¬ I 226 0 = 6)) : x_Cv X mX9_bidRefusal [.ref 225, .int (Int32.ofNat q)] (I, L, R) 233 (.inl (some (.int (2))), (I, L, R), 233) := by
  show x_Ev X mX9_bidRefusal 0 [some (.ref 225), some (.int (Int32.ofNat q))] [] ((I, L, R), 233, 0, 0) _
  refine f_iload_n (M := mX9_bidRefusal) 1 dX9_bidRefusal_0 rfl rfl ?_
  refine e_cS (M := mX9_bidRefusal) [_] 0 0 dX9_bidRefusal_1 pa_9185 cc_9185 rfl rfl rfl rfl rfl (x_kk rfl) (x_kk rfl) rfl (c_X9_isBidder) rfl ?_
  refine e_if_neT (M := mX9_bidRefusal) 11 dX9_bidRefusal_4 rfl (x_bn (ib_ok kn_7 (by omega) (by omega))) ?_
  refine f_aload_n (M := mX9_bidRefusal) 12 dX9_bidRefusal_11 rfl rfl ?_
  refine e_cV (M := mX9_bidRefusal) [_] 0 0 dX9_bidRefusal_12 pa_9215 pb_9215 cc_9215 rfl rfl rfl rfl rfl (x_kk rfl) (x_kk rfl) rfl (c_X9_isOpened hR) rfl ?_
  refine e_if_neF (M := mX9_bidRefusal) 22 dX9_bidRefusal_15 rfl (x_bnn h) ?_
  refine f_iconst (M := mX9_bidRefusal) 19 dX9_bidRefusal_18 ki_2 rfl ?_
  refine f_goto (M := mX9_bidRefusal) 23 dX9_bidRefusal_19 rfl ?_
  refine e_ri (M := mX9_bidRefusal) dX9_bidRefusal_23 rfl (x_kk rfl) (x_kk rfl) ?_
  rfl
theorem c_X9_bidRefusal_0 (hR : x_wf R) {q : Nat} (hq : q < 8) (h : (1 < I 226 0 ∧ ¬ I 226 0 = 6)) : x_Cv X mX9_bidRefusal [.ref 225, .int (Int32.ofNat q)] (I, L, R) 233 (.inl (some (.int (0))), (I, L, R), 233) := by
  show x_Ev X mX9_bidRefusal 0 [some (.ref 225), some (.int (Int32.ofNat q))] [] ((I, L, R), 233, 0, 0) _
  refine f_iload_n (M := mX9_bidRefusal) 1 dX9_bidRefusal_0 rfl rfl ?_
  refine e_cS (M := mX9_bidRefusal) [_] 0 0 dX9_bidRefusal_1 pa_9185 cc_9185 rfl rfl rfl rfl rfl (x_kk rfl) (x_kk rfl) rfl (c_X9_isBidder) rfl ?_
  refine e_if_neT (M := mX9_bidRefusal) 11 dX9_bidRefusal_4 rfl (x_bn (ib_ok kn_7 (by omega) (by omega))) ?_
  refine f_aload_n (M := mX9_bidRefusal) 12 dX9_bidRefusal_11 rfl rfl ?_
  refine e_cV (M := mX9_bidRefusal) [_] 0 0 dX9_bidRefusal_12 pa_9215 pb_9215 cc_9215 rfl rfl rfl rfl rfl (x_kk rfl) (x_kk rfl) rfl (c_X9_isOpened hR) rfl ?_
  refine e_if_neT (M := mX9_bidRefusal) 22 dX9_bidRefusal_15 rfl (x_bn h) ?_
  refine f_iconst (M := mX9_bidRefusal) 23 dX9_bidRefusal_22 ki_0 rfl ?_
  refine e_ri (M := mX9_bidRefusal) dX9_bidRefusal_23 rfl (x_kk rfl) (x_kk rfl) ?_
  rfl
theorem c_X9_problem_1 (hR : x_wf R) {v : Int32} (h : ¬ (0 ≤ v ∧ v ≤ 7)) : x_Cv X mX9_problem [.ref 225, .int v] (I, L, R) 233 (.inl (some (.int (0))), (x_tw I 1, L, R), 233) := by
  show x_Ev X mX9_problem 0 [some (.ref 225), some (.int v)] [] ((I, L, R), 233, 0, 0) _
  refine f_aload_n (M := mX9_problem) 1 dX9_problem_0 rfl rfl ?_
  refine f_aload_n (M := mX9_problem) 2 dX9_problem_1 rfl rfl ?_
  refine f_iload_n (M := mX9_problem) 3 dX9_problem_2 rfl rfl ?_
  refine e_cV (M := mX9_problem) [_, _] 0 0 dX9_problem_3 pa_9218 pb_9218 cc_9218 rfl rfl rfl rfl rfl (x_kk rfl) (x_kk rfl) rfl (c_X9_bidRefusal_1 hR h) rfl ?_
  refine e_putI (M := mX9_problem) dX9_problem_6 fl_9033 (x_kk rfl) (x_kk rfl) rfl (fun q9 => Bool.noConfusion q9) ?_
  refine f_aload_n (M := mX9_problem) 10 dX9_problem_9 rfl rfl ?_
  refine e_getI (M := mX9_problem) dX9_problem_10 fl_9033 (x_kk rfl) (x_kk rfl) rfl ?_
  refine e_if_leF (M := mX9_problem) 20 dX9_problem_13 rfl (show ¬ (1 : Int32) ≤ 0 by decide) ?_
  refine f_iconst (M := mX9_problem) 17 dX9_problem_16 ki_0 rfl ?_
  refine f_goto (M := mX9_problem) 25 dX9_problem_17 rfl ?_
  refine e_ri (M := mX9_problem) dX9_problem_25 rfl (x_kk rfl) (x_kk rfl) ?_
  rfl
theorem c_X9_problem_2 (hR : x_wf R) {q : Nat} (hq : q < 8) (h : ¬ (1 < I 226 0 ∧ ¬ I 226 0 = 6)) : x_Cv X mX9_problem [.ref 225, .int (Int32.ofNat q)] (I, L, R) 233 (.inl (some (.int (0))), (x_tw I 2, L, R), 233) := by
  show x_Ev X mX9_problem 0 [some (.ref 225), some (.int (Int32.ofNat q))] [] ((I, L, R), 233, 0, 0) _
  refine f_aload_n (M := mX9_problem) 1 dX9_problem_0 rfl rfl ?_
  refine f_aload_n (M := mX9_problem) 2 dX9_problem_1 rfl rfl ?_
  refine f_iload_n (M := mX9_problem) 3 dX9_problem_2 rfl rfl ?_
  refine e_cV (M := mX9_problem) [_, _] 0 0 dX9_problem_3 pa_9218 pb_9218 cc_9218 rfl rfl rfl rfl rfl (x_kk rfl) (x_kk rfl) rfl (c_X9_bidRefusal_2 hR hq h) rfl ?_
  refine e_putI (M := mX9_problem) dX9_problem_6 fl_9033 (x_kk rfl) (x_kk rfl) rfl (fun q9 => Bool.noConfusion q9) ?_
  refine f_aload_n (M := mX9_problem) 10 dX9_problem_9 rfl rfl ?_
  refine e_getI (M := mX9_problem) dX9_problem_10 fl_9033 (x_kk rfl) (x_kk rfl) rfl ?_
  refine e_if_leF (M := mX9_problem) 20 dX9_problem_13 rfl (show ¬ (2 : Int32) ≤ 0 by decide) ?_
  refine f_iconst (M := mX9_problem) 17 dX9_problem_16 ki_0 rfl ?_
  refine f_goto (M := mX9_problem) 25 dX9_problem_17 rfl ?_
  refine e_ri (M := mX9_problem) dX9_problem_25 rfl (x_kk rfl) (x_kk rfl) ?_
  rfl
theorem c_X9_problem_0 (hR : x_wf R) {q : Nat} (hq : q < 8) {Ns : Nat} (hNs : Ns ≤ 6) (hn : I 226 8 = Int32.ofNat Ns) (h : (1 < I 226 0 ∧ ¬ I 226 0 = 6)) : x_Cv X mX9_problem [.ref 225, .int (Int32.ofNat q)] (I, L, R) 233 (.inl (some (.int (sp_prob (I 226) q Ns))), (x_tw I 0, L, R), 233) := by
  show x_Ev X mX9_problem 0 [some (.ref 225), some (.int (Int32.ofNat q))] [] ((I, L, R), 233, 0, 0) _
  refine f_aload_n (M := mX9_problem) 1 dX9_problem_0 rfl rfl ?_
  refine f_aload_n (M := mX9_problem) 2 dX9_problem_1 rfl rfl ?_
  refine f_iload_n (M := mX9_problem) 3 dX9_problem_2 rfl rfl ?_
  refine e_cV (M := mX9_problem) [_, _] 0 0 dX9_problem_3 pa_9218 pb_9218 cc_9218 rfl rfl rfl rfl rfl (x_kk rfl) (x_kk rfl) rfl (c_X9_bidRefusal_0 hR hq h) rfl ?_
  refine e_putI (M := mX9_problem) dX9_problem_6 fl_9033 (x_kk rfl) (x_kk rfl) rfl (fun q9 => Bool.noConfusion q9) ?_
  refine f_aload_n (M := mX9_problem) 10 dX9_problem_9 rfl rfl ?_
  refine e_getI (M := mX9_problem) dX9_problem_10 fl_9033 (x_kk rfl) (x_kk rfl) rfl ?_
  refine e_if_leT (M := mX9_problem) 20 dX9_problem_13 rfl (show (0 : Int32) ≤ 0 by decide) ?_
  refine f_aload_n (M := mX9_problem) 21 dX9_problem_20 rfl rfl ?_
  refine f_iload_n (M := mX9_problem) 22 dX9_problem_21 rfl rfl ?_
  refine e_cV (M := mX9_problem) [_] 0 0 dX9_problem_22 pa_9202 pb_9202 cc_9202 rfl rfl rfl rfl rfl (x_kk rfl) (x_kk rfl) rfl (c_X9_problemOf (I := x_tw I 0) hR hNs hn hq) rfl ?_
  refine e_ri (M := mX9_problem) dX9_problem_25 rfl (x_kk rfl) (x_kk rfl) ?_
  rfl
theorem c_X9_value_1 (hR : x_wf R) {v : Int32} (h : ¬ (0 ≤ v ∧ v ≤ 7)) : x_Cv X mX9_value [.ref 225, .int v] (I, L, R) 233 (.inl (some (.long (0))), (x_tw I 1, L, R), 233) := by
  show x_Ev X mX9_value 0 [some (.ref 225), some (.int v)] [] ((I, L, R), 233, 0, 0) _
  refine f_aload_n (M := mX9_value) 1 dX9_value_0 rfl rfl ?_
  refine f_aload_n (M := mX9_value) 2 dX9_value_1 rfl rfl ?_
  refine f_iload_n (M := mX9_value) 3 dX9_value_2 rfl rfl ?_
  refine e_cV (M := mX9_value) [_, _] 0 0 dX9_value_3 pa_9218 pb_9218 cc_9218 rfl rfl rfl rfl rfl (x_kk rfl) (x_kk rfl) rfl (c_X9_bidRefusal_1 hR h) rfl ?_
  refine e_putI (M := mX9_value) dX9_value_6 fl_9033 (x_kk rfl) (x_kk rfl) rfl (fun q9 => Bool.noConfusion q9) ?_
  refine f_aload_n (M := mX9_value) 10 dX9_value_9 rfl rfl ?_
  refine e_getI (M := mX9_value) dX9_value_10 fl_9033 (x_kk rfl) (x_kk rfl) rfl ?_
  refine e_if_leF (M := mX9_value) 20 dX9_value_13 rfl (show ¬ (1 : Int32) ≤ 0 by decide) ?_
  refine f_lconst (M := mX9_value) 17 dX9_value_16 kl_0 rfl ?_
  refine f_goto (M := mX9_value) 28 dX9_value_17 rfl ?_
  refine e_rl (M := mX9_value) dX9_value_28 rfl (x_kk rfl) (x_kk rfl) ?_
  rfl
theorem c_X9_value_2 (hR : x_wf R) {q : Nat} (hq : q < 8) (h : ¬ (1 < I 226 0 ∧ ¬ I 226 0 = 6)) : x_Cv X mX9_value [.ref 225, .int (Int32.ofNat q)] (I, L, R) 233 (.inl (some (.long (0))), (x_tw I 2, L, R), 233) := by
  show x_Ev X mX9_value 0 [some (.ref 225), some (.int (Int32.ofNat q))] [] ((I, L, R), 233, 0, 0) _
  refine f_aload_n (M := mX9_value) 1 dX9_value_0 rfl rfl ?_
  refine f_aload_n (M := mX9_value) 2 dX9_value_1 rfl rfl ?_
  refine f_iload_n (M := mX9_value) 3 dX9_value_2 rfl rfl ?_
  refine e_cV (M := mX9_value) [_, _] 0 0 dX9_value_3 pa_9218 pb_9218 cc_9218 rfl rfl rfl rfl rfl (x_kk rfl) (x_kk rfl) rfl (c_X9_bidRefusal_2 hR hq h) rfl ?_
  refine e_putI (M := mX9_value) dX9_value_6 fl_9033 (x_kk rfl) (x_kk rfl) rfl (fun q9 => Bool.noConfusion q9) ?_
  refine f_aload_n (M := mX9_value) 10 dX9_value_9 rfl rfl ?_
  refine e_getI (M := mX9_value) dX9_value_10 fl_9033 (x_kk rfl) (x_kk rfl) rfl ?_
  refine e_if_leF (M := mX9_value) 20 dX9_value_13 rfl (show ¬ (2 : Int32) ≤ 0 by decide) ?_
  refine f_lconst (M := mX9_value) 17 dX9_value_16 kl_0 rfl ?_
  refine f_goto (M := mX9_value) 28 dX9_value_17 rfl ?_
  refine e_rl (M := mX9_value) dX9_value_28 rfl (x_kk rfl) (x_kk rfl) ?_
  rfl
theorem c_X9_value_0 (hR : x_wf R) {q : Nat} (hq : q < 8) {Ns : Nat} (hNs : Ns ≤ 6) (hn : I 226 8 = Int32.ofNat Ns) (h : (1 < I 226 0 ∧ ¬ I 226 0 = 6)) : x_Cv X mX9_value [.ref 225, .int (Int32.ofNat q)] (I, L, R) 233 (.inl (some (.long (sp_val (I 226) q (-1) 100 Ns))), (x_tw I 0, L, R), 233) := by
  show x_Ev X mX9_value 0 [some (.ref 225), some (.int (Int32.ofNat q))] [] ((I, L, R), 233, 0, 0) _
  refine f_aload_n (M := mX9_value) 1 dX9_value_0 rfl rfl ?_
  refine f_aload_n (M := mX9_value) 2 dX9_value_1 rfl rfl ?_
  refine f_iload_n (M := mX9_value) 3 dX9_value_2 rfl rfl ?_
  refine e_cV (M := mX9_value) [_, _] 0 0 dX9_value_3 pa_9218 pb_9218 cc_9218 rfl rfl rfl rfl rfl (x_kk rfl) (x_kk rfl) rfl (c_X9_bidRefusal_0 hR hq h) rfl ?_
  refine e_putI (M := mX9_value) dX9_value_6 fl_9033 (x_kk rfl) (x_kk rfl) rfl (fun q9 => Bool.noConfusion q9) ?_
  refine f_aload_n (M := mX9_value) 10 dX9_value_9 rfl rfl ?_
  refine e_getI (M := mX9_value) dX9_value_10 fl_9033 (x_kk rfl) (x_kk rfl) rfl ?_
  refine e_if_leT (M := mX9_value) 20 dX9_value_13 rfl (show (0 : Int32) ≤ 0 by decide) ?_
  refine f_aload_n (M := mX9_value) 21 dX9_value_20 rfl rfl ?_
  refine f_iload_n (M := mX9_value) 22 dX9_value_21 rfl rfl ?_
  refine f_iconst (M := mX9_value) 23 dX9_value_22 ki_m1 rfl ?_
  refine f_bipush (M := mX9_value) 25 dX9_value_23 kb_100 rfl ?_
  refine e_cV (M := mX9_value) [_] 0 0 dX9_value_25 pa_9207 pb_9207 cc_9207 rfl rfl rfl rfl rfl (x_kk rfl) (x_kk rfl) rfl (c_X9_valueOf (I := x_tw I 0) (σ := -1) (h := 100) hR hNs hn hq) rfl ?_
  refine e_rl (M := mX9_value) dX9_value_28 rfl (x_kk rfl) (x_kk rfl) ?_
  rfl
theorem c_X9_phase (hR : x_wf R) : x_Cv X mX9_phase [.ref 225] (I, L, R) 233 (.inl (some (.int (I 226 0))), (x_tw I 0, L, R), 233) := by
  show x_Ev X mX9_phase 0 [some (.ref 225)] [] ((I, L, R), 233, 0, 0) _
  refine f_aload_n (M := mX9_phase) 1 dX9_phase_0 rfl rfl ?_
  refine f_iconst (M := mX9_phase) 2 dX9_phase_1 ki_0 rfl ?_
  refine e_putI (M := mX9_phase) dX9_phase_2 fl_9033 (x_kk rfl) (x_kk rfl) rfl (fun q9 => Bool.noConfusion q9) ?_
  refine f_aload_n (M := mX9_phase) 6 dX9_phase_5 rfl rfl ?_
  refine e_getR (M := mX9_phase) dX9_phase_6 fl_9007 (x_kk rfl) (x_kk rfl) rfl (wf_9_0 hR) ?_
  refine f_iconst (M := mX9_phase) 10 dX9_phase_9 ki_0 rfl ?_
  refine e_ild (M := mX9_phase) (w := 606) (j := 0) dX9_phase_10 (x_kk rfl) rfl kn_0 (by omega) (by omega) ?_
  refine e_ri (M := mX9_phase) dX9_phase_11 rfl (x_kk rfl) (x_kk rfl) ?_
  rfl
theorem c_X9_plotCount (hR : x_wf R) : x_Cv X mX9_plotCount [.ref 225] (I, L, R) 233 (.inl (some (.int (I 226 9))), (x_tw I 0, L, R), 233) := by
  show x_Ev X mX9_plotCount 0 [some (.ref 225)] [] ((I, L, R), 233, 0, 0) _
  refine f_aload_n (M := mX9_plotCount) 1 dX9_plotCount_0 rfl rfl ?_
  refine f_iconst (M := mX9_plotCount) 2 dX9_plotCount_1 ki_0 rfl ?_
  refine e_putI (M := mX9_plotCount) dX9_plotCount_2 fl_9033 (x_kk rfl) (x_kk rfl) rfl (fun q9 => Bool.noConfusion q9) ?_
  refine f_aload_n (M := mX9_plotCount) 6 dX9_plotCount_5 rfl rfl ?_
  refine e_getR (M := mX9_plotCount) dX9_plotCount_6 fl_9007 (x_kk rfl) (x_kk rfl) rfl (wf_9_0 hR) ?_
  refine f_bipush (M := mX9_plotCount) 11 dX9_plotCount_9 kb_9 rfl ?_
  refine e_ild (M := mX9_plotCount) (w := 606) (j := 9) dX9_plotCount_11 (x_kk rfl) rfl kn_9 (by omega) (by omega) ?_
  refine e_ri (M := mX9_plotCount) dX9_plotCount_12 rfl (x_kk rfl) (x_kk rfl) ?_
  rfl
theorem c_X9_month (hR : x_wf R) : x_Cv X mX9_month [.ref 225] (I, L, R) 233 (.inl (some (.int (I 226 13))), (x_tw I 0, L, R), 233) := by
  show x_Ev X mX9_month 0 [some (.ref 225)] [] ((I, L, R), 233, 0, 0) _
  refine f_aload_n (M := mX9_month) 1 dX9_month_0 rfl rfl ?_
  refine f_iconst (M := mX9_month) 2 dX9_month_1 ki_0 rfl ?_
  refine e_putI (M := mX9_month) dX9_month_2 fl_9033 (x_kk rfl) (x_kk rfl) rfl (fun q9 => Bool.noConfusion q9) ?_
  refine f_aload_n (M := mX9_month) 6 dX9_month_5 rfl rfl ?_
  refine e_getR (M := mX9_month) dX9_month_6 fl_9007 (x_kk rfl) (x_kk rfl) rfl (wf_9_0 hR) ?_
  refine f_bipush (M := mX9_month) 11 dX9_month_9 kb_13 rfl ?_
  refine e_ild (M := mX9_month) (w := 606) (j := 13) dX9_month_11 (x_kk rfl) rfl kn_13 (by omega) (by omega) ?_
  refine e_ri (M := mX9_month) dX9_month_12 rfl (x_kk rfl) (x_kk rfl) ?_
  rfl
theorem c_X9_errorPosition (hR : x_wf R) : x_Cv X mX9_errorPosition [.ref 225] (I, L, R) 233 (.inl (some (.int (I 225 15))), (x_tw I 0, L, R), 233) := by
  show x_Ev X mX9_errorPosition 0 [some (.ref 225)] [] ((I, L, R), 233, 0, 0) _
  refine f_aload_n (M := mX9_errorPosition) 1 dX9_errorPosition_0 rfl rfl ?_
  refine f_iconst (M := mX9_errorPosition) 2 dX9_errorPosition_1 ki_0 rfl ?_
  refine e_putI (M := mX9_errorPosition) dX9_errorPosition_2 fl_9033 (x_kk rfl) (x_kk rfl) rfl (fun q9 => Bool.noConfusion q9) ?_
  refine f_aload_n (M := mX9_errorPosition) 6 dX9_errorPosition_5 rfl rfl ?_
  refine e_getI (M := mX9_errorPosition) dX9_errorPosition_6 fl_9029 (x_kk rfl) (x_kk rfl) rfl ?_
  refine e_ri (M := mX9_errorPosition) dX9_errorPosition_9 rfl (x_kk rfl) (x_kk rfl) ?_
  rfl
theorem c_X9_debt (hR : x_wf R) : x_Cv X mX9_debt [.ref 225] (I, L, R) 233 (.inl (some (.long (L 229 0))), (x_tw I 0, L, R), 233) := by
  show x_Ev X mX9_debt 0 [some (.ref 225)] [] ((I, L, R), 233, 0, 0) _
  refine f_aload_n (M := mX9_debt) 1 dX9_debt_0 rfl rfl ?_
  refine f_iconst (M := mX9_debt) 2 dX9_debt_1 ki_0 rfl ?_
  refine e_putI (M := mX9_debt) dX9_debt_2 fl_9033 (x_kk rfl) (x_kk rfl) rfl (fun q9 => Bool.noConfusion q9) ?_
  refine f_aload_n (M := mX9_debt) 6 dX9_debt_5 rfl rfl ?_
  refine e_getR (M := mX9_debt) dX9_debt_6 fl_9019 (x_kk rfl) (x_kk rfl) rfl (wf_9_3 hR) ?_
  refine f_iconst (M := mX9_debt) 10 dX9_debt_9 ki_0 rfl ?_
  refine e_lld (M := mX9_debt) (w := 37) (j := 0) dX9_debt_10 (x_kk rfl) rfl kn_0 (by omega) (by omega) ?_
  refine e_rl (M := mX9_debt) dX9_debt_11 rfl (x_kk rfl) (x_kk rfl) ?_
  rfl
theorem c_X9_thrown  : x_Cv X mX9_thrown [.ref 225] (I, L, R) 233 (.inl (some (.int (I 225 6))), (I, L, R), 233) := by
  show x_Ev X mX9_thrown 0 [some (.ref 225)] [] ((I, L, R), 233, 0, 0) _
  refine f_aload_n (M := mX9_thrown) 1 dX9_thrown_0 rfl rfl ?_
  refine e_getI (M := mX9_thrown) dX9_thrown_1 fl_9033 (x_kk rfl) (x_kk rfl) rfl ?_
  refine e_ri (M := mX9_thrown) dX9_thrown_4 rfl (x_kk rfl) (x_kk rfl) ?_
  rfl
theorem c_X9_isLoad (hR : x_wf R) {v : Int32} : x_Cv X mX9_isLoad [.ref 225, .int v] (I, L, R) 233 (.inl (some (.int (x_b (0 ≤ v ∧ v ≤ I 226 14 - 1)))), (I, L, R), 233) := by
  show x_Ev X mX9_isLoad 0 [some (.ref 225), some (.int v)] [] ((I, L, R), 233, 0, 0) _
  refine f_iload_n (M := mX9_isLoad) 1 dX9_isLoad_0 rfl rfl ?_
  refine f_i2l (M := mX9_isLoad) 2 dX9_isLoad_1 rfl ?_
  refine f_lconst (M := mX9_isLoad) 3 dX9_isLoad_2 kl_0 rfl ?_
  refine f_aload_n (M := mX9_isLoad) 4 dX9_isLoad_3 rfl rfl ?_
  refine e_getR (M := mX9_isLoad) dX9_isLoad_4 fl_9007 (x_kk rfl) (x_kk rfl) rfl (wf_9_0 hR) ?_
  refine f_bipush (M := mX9_isLoad) 9 dX9_isLoad_7 kb_14 rfl ?_
  refine e_ild (M := mX9_isLoad) (w := 606) (j := 14) dX9_isLoad_9 (x_kk rfl) rfl kn_14 (by omega) (by omega) ?_
  refine f_iconst (M := mX9_isLoad) 11 dX9_isLoad_10 ki_1 rfl ?_
  refine f_isub (M := mX9_isLoad) 12 dX9_isLoad_11 rfl ?_
  refine f_i2l (M := mX9_isLoad) 13 dX9_isLoad_12 rfl ?_
  refine e_cS (M := mX9_isLoad) [_] 0 0 dX9_isLoad_13 pa_9074 cc_9074 rfl rfl rfl rfl rfl (x_kk rfl) (x_kk rfl) rfl (c_X9_isInI (lo := 0)) rfl ?_
  refine e_rb (M := mX9_isLoad) dX9_isLoad_16 rfl (x_kk rfl) (x_kk rfl) (by exact x_bN) ?_
  rfl
theorem c_X9_net_1 (hR : x_wf R) {v : Int32} (h : ¬ (0 ≤ v ∧ v ≤ I 226 14 - 1)) : x_Cv X mX9_net [.ref 225, .int v] (I, L, R) 233 (.inl (some (.int (0))), (x_tw I 1, L, R), 233) := by
  show x_Ev X mX9_net 0 [some (.ref 225), some (.int v)] [] ((I, L, R), 233, 0, 0) _
  refine f_aload_n (M := mX9_net) 1 dX9_net_0 rfl rfl ?_
  refine f_aload_n (M := mX9_net) 2 dX9_net_1 rfl rfl ?_
  refine f_iload_n (M := mX9_net) 3 dX9_net_2 rfl rfl ?_
  refine e_cV (M := mX9_net) [_, _] 0 0 dX9_net_3 pa_9255 pb_9255 cc_9255 rfl rfl rfl rfl rfl (x_kk rfl) (x_kk rfl) rfl (c_X9_isLoad hR) rfl ?_
  refine e_if_eqT (M := mX9_net) 13 dX9_net_6 rfl (x_b0 h) ?_
  refine f_iconst (M := mX9_net) 14 dX9_net_13 ki_1 rfl ?_
  refine e_putI (M := mX9_net) dX9_net_14 fl_9033 (x_kk rfl) (x_kk rfl) rfl (fun q9 => Bool.noConfusion q9) ?_
  refine f_aload_n (M := mX9_net) 18 dX9_net_17 rfl rfl ?_
  refine e_getI (M := mX9_net) dX9_net_18 fl_9033 (x_kk rfl) (x_kk rfl) rfl ?_
  refine e_if_leF (M := mX9_net) 28 dX9_net_21 rfl (show ¬ (1 : Int32) ≤ 0 by decide) ?_
  refine f_iconst (M := mX9_net) 25 dX9_net_24 ki_0 rfl ?_
  refine f_goto (M := mX9_net) 34 dX9_net_25 rfl ?_
  refine e_ri (M := mX9_net) dX9_net_34 rfl (x_kk rfl) (x_kk rfl) ?_
  rfl
theorem c_X9_net_0 (hR : x_wf R) {Nl : Nat} (hNl : Nl ≤ 60) (hl : I 226 14 = Int32.ofNat Nl) {q : Nat} (hq : q < Nl) : x_Cv X mX9_net [.ref 225, .int (Int32.ofNat q)] (I, L, R) 233 (.inl (some (.int (I 226 (366 + 4 * q + 2)))), (x_tw I 0, L, R), 233) := by
  show x_Ev X mX9_net 0 [some (.ref 225), some (.int (Int32.ofNat q))] [] ((I, L, R), 233, 0, 0) _
  refine f_aload_n (M := mX9_net) 1 dX9_net_0 rfl rfl ?_
  refine f_aload_n (M := mX9_net) 2 dX9_net_1 rfl rfl ?_
  refine f_iload_n (M := mX9_net) 3 dX9_net_2 rfl rfl ?_
  refine e_cV (M := mX9_net) [_, _] 0 0 dX9_net_3 pa_9255 pb_9255 cc_9255 rfl rfl rfl rfl rfl (x_kk rfl) (x_kk rfl) rfl (c_X9_isLoad hR) rfl ?_
  refine e_if_eqF (M := mX9_net) 13 dX9_net_6 rfl (x_bn (in_ok hl (by omega) hq)) ?_
  refine f_iconst (M := mX9_net) 10 dX9_net_9 ki_0 rfl ?_
  refine f_goto (M := mX9_net) 14 dX9_net_10 rfl ?_
  refine e_putI (M := mX9_net) dX9_net_14 fl_9033 (x_kk rfl) (x_kk rfl) rfl (fun q9 => Bool.noConfusion q9) ?_
  refine f_aload_n (M := mX9_net) 18 dX9_net_17 rfl rfl ?_
  refine e_getI (M := mX9_net) dX9_net_18 fl_9033 (x_kk rfl) (x_kk rfl) rfl ?_
  refine e_if_leT (M := mX9_net) 28 dX9_net_21 rfl (show (0 : Int32) ≤ 0 by decide) ?_
  refine f_aload_n (M := mX9_net) 29 dX9_net_28 rfl rfl ?_
  refine f_iload_n (M := mX9_net) 30 dX9_net_29 rfl rfl ?_
  refine f_iconst (M := mX9_net) 31 dX9_net_30 ki_2 rfl ?_
  refine e_cV (M := mX9_net) [_] 0 0 dX9_net_31 pa_9258 pb_9258 cc_9258 rfl rfl rfl rfl rfl (x_kk rfl) (x_kk rfl) rfl (c_X9_ofLoad (j := 2) hR (by omega) (by omega)) rfl ?_
  refine e_ri (M := mX9_net) dX9_net_34 rfl (x_kk rfl) (x_kk rfl) ?_
  rfl
end

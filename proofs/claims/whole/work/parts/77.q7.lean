/-! ===== the least index of both (laid by wip/whole/src/q7.py) ===== -/
section
variable {X : x_X} {I : Nat → Nat → Int32} {L : Nat → Nat → Int64} {R : Nat → Nat → Option Nat} {N : Nat}
theorem tw_tw {s t : Int32} : x_tw (x_tw I s) t = x_tw I t := by
  funext q j
  unfold x_tw va_up
  by_cases h : q = 225
  · subst h
    by_cases h1 : j = 6
    · subst h1; rfl
    · simp [h1]
  · simp [h]
theorem ixr_1 : y_ixr 1 = 1 := by decide
theorem ixr_0 : y_ixr 10001 = -1 := by decide
/-- the closed form -/
theorem ix_num {a : Nat → Int32} (hT : y_IT a) (hK : y_IK a) {s : Nat} (hs : s < 6) {w : Int32} (hw : 0 ≤ w ∧ w ≤ 1000000) (h : ¬ w ≤ a (20 + s)) (h0 : ¬ a 4 = 0) : (¬ (if 1 < a (26 + s) + -x_fdiv (-(w - a (288 + s)) * 100) (a 4) then a (26 + s) + -x_fdiv (-(w - a (288 + s)) * 100) (a 4) else 1) ≤ 10000 → y_ixr (sp_ixf a s w) = -1) ∧ ((if 1 < a (26 + s) + -x_fdiv (-(w - a (288 + s)) * 100) (a 4) then a (26 + s) + -x_fdiv (-(w - a (288 + s)) * 100) (a 4) else 1) ≤ 10000 → y_ixr (sp_ixf a s w) = (if 1 < a (26 + s) + -x_fdiv (-(w - a (288 + s)) * 100) (a 4) then a (26 + s) + -x_fdiv (-(w - a (288 + s)) * 100) (a 4) else 1)) := by
  have b1 := (hT.2.2.2.2.2.2.2.2.2 s hs).2
  have b11 := b1.1
  have b12 := b1.2
  have b2 := hT.2.2.2.2.1
  have b21 := b2.1
  have b22 := b2.2
  have b3 := hK.2.2.1 s hs
  have b31 := b3.1
  have b32 := b3.2
  have w1 := t_le.mp hw.1
  have w2 := t_le.mp hw.2
  have z0 : (0 : Int32).toInt = 0 := by decide
  have o1 : (1 : Int32).toInt = 1 := by decide
  have o2 : (100 : Int32).toInt = 100 := by decide
  have o3 : (10000 : Int32).toInt = 10000 := by decide
  rw [z0] at w1
  rw [show (1000000 : Int32).toInt = 1000000 from by decide] at w2
  rw [t_eq, z0] at h0
  have hp : 0 < (a 4).toInt := by omega
  have e1 : (w - a (288 + s)).toInt = w.toInt - (a (288 + s)).toInt := t_sub (by omega) (by omega)
  have e2 : (-(w - a (288 + s))).toInt = -(w.toInt - (a (288 + s)).toInt) := by rw [t_neg (by rw [e1]; omega), e1]
  have e3 : (-(w - a (288 + s)) * 100).toInt = -((w.toInt - (a (288 + s)).toInt) * 100) := by rw [t_mul (by rw [e2, o2]; omega) (by rw [e2, o2]; omega), e2, o2]; omega
  have e4 := fd_i (x := -(w - a (288 + s)) * 100) (y := a 4) hp
  rw [e3] at e4
  have q1 : -100000000 ≤ (-((w.toInt - (a (288 + s)).toInt) * 100)) / (a 4).toInt := (Int.le_ediv_iff_mul_le hp).mpr (by
    have : -100000000 * (a 4).toInt ≤ -100000000 * 1 := Int.mul_le_mul_of_nonpos_left (by decide) (by omega)
    omega)
  have q2 : (-((w.toInt - (a (288 + s)).toInt) * 100)) / (a 4).toInt ≤ 100000000 := by
    have := Int.ediv_lt_iff_lt_mul (a := -((w.toInt - (a (288 + s)).toInt) * 100)) (b := 100000001) hp
    have g : (100000001 : Int) * 1 ≤ 100000001 * (a 4).toInt := Int.mul_le_mul_of_nonneg_left (by omega) (by decide)
    have := this.mpr (by omega)
    omega
  have e5 : (-x_fdiv (-(w - a (288 + s)) * 100) (a 4)).toInt = -((-((w.toInt - (a (288 + s)).toInt) * 100)) / (a 4).toInt) := by rw [t_neg (by rw [e4]; omega), e4]
  have e6 : (a (26 + s) + -x_fdiv (-(w - a (288 + s)) * 100) (a 4)).toInt = (a (26 + s)).toInt + -((-((w.toInt - (a (288 + s)).toInt) * 100)) / (a 4).toInt) := by rw [t_add (by rw [e5]; omega) (by rw [e5]; omega), e5]
  obtain ⟨d1, d2, d3⟩ := ix_D hT hK hs h hp
  generalize hX : a (26 + s) + -x_fdiv (-(w - a (288 + s)) * 100) (a 4) = x at *
  generalize hY : (a (26 + s)).toInt + -((-((w.toInt - (a (288 + s)).toInt) * 100)) / (a 4).toInt) = t at *
  by_cases g : 1 < x
  · rw [if_pos g]
    have g1 := t_lt.mp g
    rw [o1, e6] at g1
    constructor
    · intro z
      rw [t_le, e6, o3] at z
      unfold y_ixr
      rw [if_neg]
      by_cases g2 : t ≤ 10001
      · have := d2 g1 g2; omega
      · have := d3 (by omega); omega
    · intro z
      rw [t_le, e6, o3] at z
      have := d2 g1 (by omega)
      unfold y_ixr
      rw [if_pos (by omega), t_eq, t_n (by omega), e6]
      exact this
  · rw [if_neg g]
    rw [t_lt, o1, e6] at g
    constructor
    · intro z; exact absurd z (by decide)
    · intro _
      rw [d1 (by omega)]
      decide
theorem mi_i {a : Nat → Int32} (hK : y_IK a) {s : Nat} (hs : s < 6) {w : Int32} (hw : 0 ≤ w ∧ w ≤ 1000000) : (w - a (288 + s)).toInt = w.toInt - (a (288 + s)).toInt := by
  have b3 := hK.2.2.1 s hs
  have b31 := b3.1
  have b32 := b3.2
  have w1 := t_le.mp hw.1
  have w2 := t_le.mp hw.2
  rw [show (0 : Int32).toInt = 0 from by decide] at w1
  rw [show (1000000 : Int32).toInt = 1000000 from by decide] at w2
  exact t_sub (by omega) (by omega)
theorem mi_1 {a : Nat → Int32} (hK : y_IK a) {s : Nat} (hs : s < 6) {w : Int32} (hw : 0 ≤ w ∧ w ≤ 1000000) (h : 0 < w - a (288 + s)) : ¬ w.toInt ≤ (a (288 + s)).toInt := by
  have e := mi_i hK hs hw
  have h1 := t_lt.mp h
  rw [e, show (0 : Int32).toInt = 0 from by decide] at h1
  omega
theorem mi_0 {a : Nat → Int32} (hK : y_IK a) {s : Nat} (hs : s < 6) {w : Int32} (hw : 0 ≤ w ∧ w ≤ 1000000) (h : ¬ 0 < w - a (288 + s)) : w.toInt ≤ (a (288 + s)).toInt := by
  have e := mi_i hK hs hw
  rw [t_lt, e, show (0 : Int32).toInt = 0 from by decide] at h
  omega
theorem k_leastIndexFor {N β : Nat} {a : Nat → Int32} {b : Nat → Int64} (H : y_CS N I L R β a b) {s : Nat} (hs : s < 6) {w : Int32} (hw : 0 ≤ w ∧ w ≤ 1000000) : x_Cv X mX1_leastIndexFor [.ref (β + 12), .int (Int32.ofNat s), .int w, .ref (β + 1)] (I, L, R) 233 (.inl (some (.int (y_ixr (sp_ixf a s w)))), (I, L, R), 233) := by
  have hR := h_R H
  have hβ := h_β H
  show x_Ev X mX1_leastIndexFor 0 [some (.ref (β + 12)), some (.int (Int32.ofNat s)), some (.int w), some (.ref (β + 1)), none, none, none, none] [] ((I, L, R), 233, 0, 0) _
  refine f_iload_n (M := mX1_leastIndexFor) 1 dX1_leastIndexFor_0 rfl rfl ?_
  refine f_aload_n (M := mX1_leastIndexFor) 2 dX1_leastIndexFor_1 rfl rfl ?_
  refine e_getR (M := mX1_leastIndexFor) dX1_leastIndexFor_2 fl_1015 (x_kk rfl) (sl_lt hβ 12 rfl) (sl_s hβ 12 rfl rfl) (wf_1_1 hR hβ) ?_
  refine f_iload_n (M := mX1_leastIndexFor) 6 dX1_leastIndexFor_5 rfl rfl ?_
  refine e_ild (M := mX1_leastIndexFor) (w := 6) (j := s) dX1_leastIndexFor_6 (sl_lt hβ 14 rfl) (sl_shp hβ 14 rfl) rfl (by omega) (by omega) ?_
  refine f_isub (M := mX1_leastIndexFor) 8 dX1_leastIndexFor_7 rfl ?_
  rw [(h_K H).2.1 s hs]
  refine f_istore (M := mX1_leastIndexFor) (ls' := [_, _, _, _, _, _, _, _]) 10 dX1_leastIndexFor_8 rfl rfl rfl ?_
  refine f_aload_n (M := mX1_leastIndexFor) 11 dX1_leastIndexFor_10 rfl rfl ?_
  refine e_getR (M := mX1_leastIndexFor) dX1_leastIndexFor_11 fl_1067 (x_kk rfl) (sl_lt hβ 1 rfl) (sl_s hβ 1 rfl rfl) (wf_7_1 hR hβ) ?_
  refine f_iconst (M := mX1_leastIndexFor) 15 dX1_leastIndexFor_14 ki_3 rfl ?_
  refine e_ild (M := mX1_leastIndexFor) (w := 7) (j := 3) dX1_leastIndexFor_15 (sl_lt hβ 2 rfl) (sl_shp hβ 2 rfl) kn_3 (by omega) (by omega) ?_
  rw [(h_T H).2.1 3 (by decide)]
  refine f_istore (M := mX1_leastIndexFor) (ls' := [_, _, _, _, _, _, _, _]) 18 dX1_leastIndexFor_16 rfl rfl rfl ?_
  refine f_iload_n (M := mX1_leastIndexFor) 19 dX1_leastIndexFor_18 rfl rfl ?_
  refine f_aload_n (M := mX1_leastIndexFor) 20 dX1_leastIndexFor_19 rfl rfl ?_
  refine e_getR (M := mX1_leastIndexFor) dX1_leastIndexFor_20 fl_1076 (x_kk rfl) (sl_lt hβ 1 rfl) (sl_s hβ 1 rfl rfl) (wf_7_2 hR hβ) ?_
  refine f_iload_n (M := mX1_leastIndexFor) 24 dX1_leastIndexFor_23 rfl rfl ?_
  refine e_ild (M := mX1_leastIndexFor) (w := 6) (j := s) dX1_leastIndexFor_24 (sl_lt hβ 3 rfl) (sl_shp hβ 3 rfl) rfl (by omega) (by omega) ?_
  rw [(h_T H).2.2.1 s hs]
  refine e_icmp_gt (M := mX1_leastIndexFor) (t := 30) dX1_leastIndexFor_25 rfl (fun h1 => ?_) (fun h1 => ?_)
  · refine f_iload (M := mX1_leastIndexFor) 32 dX1_leastIndexFor_30 rfl rfl ?_
    refine e_if_ne (M := mX1_leastIndexFor) (t := 46) dX1_leastIndexFor_32 rfl (fun h2 => ?_) (fun h2 => ?_)
    · refine f_iload (M := mX1_leastIndexFor) 48 dX1_leastIndexFor_46 rfl rfl ?_
      refine f_ineg (M := mX1_leastIndexFor) 49 dX1_leastIndexFor_48 rfl ?_
      refine f_bipush (M := mX1_leastIndexFor) 51 dX1_leastIndexFor_49 kb_100 rfl ?_
      refine f_imul (M := mX1_leastIndexFor) 52 dX1_leastIndexFor_51 rfl ?_
      refine f_iload (M := mX1_leastIndexFor) 54 dX1_leastIndexFor_52 rfl rfl ?_
      refine e_cS (M := mX1_leastIndexFor) [_] 0 0 dX1_leastIndexFor_54 pa_1070 cc_1070 rfl rfl rfl rfl rfl (x_kk rfl) (x_kk rfl) rfl (c_J9_floorDiv_7cf53 h2) rfl ?_
      refine f_ineg (M := mX1_leastIndexFor) 58 dX1_leastIndexFor_57 rfl ?_
      refine f_istore (M := mX1_leastIndexFor) (ls' := [_, _, _, _, _, _, _, _]) 60 dX1_leastIndexFor_58 rfl rfl rfl ?_
      refine f_iconst (M := mX1_leastIndexFor) 61 dX1_leastIndexFor_60 ki_1 rfl ?_
      refine f_aload_n (M := mX1_leastIndexFor) 62 dX1_leastIndexFor_61 rfl rfl ?_
      refine e_getR (M := mX1_leastIndexFor) dX1_leastIndexFor_62 fl_1058 (x_kk rfl) (sl_lt hβ 1 rfl) (sl_s hβ 1 rfl rfl) (wf_7_3 hR hβ) ?_
      refine f_iload_n (M := mX1_leastIndexFor) 66 dX1_leastIndexFor_65 rfl rfl ?_
      refine e_ild (M := mX1_leastIndexFor) (w := 6) (j := s) dX1_leastIndexFor_66 (sl_lt hβ 4 rfl) (sl_shp hβ 4 rfl) rfl (by omega) (by omega) ?_
      refine f_iload (M := mX1_leastIndexFor) 69 dX1_leastIndexFor_67 rfl rfl ?_
      refine f_iadd (M := mX1_leastIndexFor) 70 dX1_leastIndexFor_69 rfl ?_
      rw [(h_T H).2.2.2 s hs]
      refine e_cS (M := mX1_leastIndexFor) [_] 0 0 dX1_leastIndexFor_70 pa_1079 cc_1079 rfl rfl rfl rfl rfl (x_kk rfl) (x_kk rfl) rfl (c_J9_max_7cf53) rfl ?_
      refine f_istore (M := mX1_leastIndexFor) (ls' := [_, _, _, _, _, _, _, _]) 75 dX1_leastIndexFor_73 rfl rfl rfl ?_
      refine f_iload (M := mX1_leastIndexFor) 77 dX1_leastIndexFor_75 rfl rfl ?_
      refine f_sipush (M := mX1_leastIndexFor) 80 dX1_leastIndexFor_77 ks_10000 rfl ?_
      refine e_icmp_gt (M := mX1_leastIndexFor) (t := 88) dX1_leastIndexFor_80 rfl (fun h3 => ?_) (fun h3 => ?_)
      · refine f_iconst (M := mX1_leastIndexFor) 89 dX1_leastIndexFor_88 ki_m1 rfl ?_
        refine e_ri (M := mX1_leastIndexFor) dX1_leastIndexFor_89 rfl (x_kk rfl) (x_kk rfl) ?_
        exact r_i ((ix_num (h_IT H) (h_IK H) hs hw (i_nle.mpr h1) h2).1 (i_nle.mpr h3)).symm
      · refine f_iload (M := mX1_leastIndexFor) 85 dX1_leastIndexFor_83 rfl rfl ?_
        refine f_goto (M := mX1_leastIndexFor) 89 dX1_leastIndexFor_85 rfl ?_
        refine e_ri (M := mX1_leastIndexFor) dX1_leastIndexFor_89 rfl (x_kk rfl) (x_kk rfl) ?_
        exact r_i ((ix_num (h_IT H) (h_IK H) hs hw (i_nle.mpr h1) h2).2 (i_nlt.mp h3)).symm
    · refine f_iload (M := mX1_leastIndexFor) 37 dX1_leastIndexFor_35 rfl rfl ?_
      refine e_if_gt (M := mX1_leastIndexFor) (t := 44) dX1_leastIndexFor_37 rfl (fun h3 => ?_) (fun h3 => ?_)
      · refine f_iconst (M := mX1_leastIndexFor) 45 dX1_leastIndexFor_44 ki_m1 rfl ?_
        refine e_ri (M := mX1_leastIndexFor) dX1_leastIndexFor_45 rfl (x_kk rfl) (x_kk rfl) ?_
        exact r_i (by rw [ix_B (h_IT H) (h_IK H) hs (i_nle.mpr h1) (x_dn h2), if_neg (mi_1 (h_IK H) hs hw h3)]; exact ixr_0.symm)
      · refine f_iconst (M := mX1_leastIndexFor) 41 dX1_leastIndexFor_40 ki_1 rfl ?_
        refine f_goto (M := mX1_leastIndexFor) 45 dX1_leastIndexFor_41 rfl ?_
        refine e_ri (M := mX1_leastIndexFor) dX1_leastIndexFor_45 rfl (x_kk rfl) (x_kk rfl) ?_
        exact r_i (by rw [ix_B (h_IT H) (h_IK H) hs (i_nle.mpr h1) (x_dn h2), if_pos (mi_0 (h_IK H) hs hw h3)]; exact ixr_1.symm)
  · refine f_iconst (M := mX1_leastIndexFor) 29 dX1_leastIndexFor_28 ki_1 rfl ?_
    refine e_ri (M := mX1_leastIndexFor) dX1_leastIndexFor_29 rfl (x_kk rfl) (x_kk rfl) ?_
    exact r_i (by rw [ix_A (h_IT H) (h_IK H) hs (i_nlt.mp h1)]; exact ixr_1.symm)
theorem ko_indexFor {N β : Nat} {a : Nat → Int32} {b : Nat → Int64} (H : y_CS N I L R β a b) {Ns Np Nl Nm : Nat} (Z : y_Z a Ns Np Nl Nm) {w : Int32} {s : Nat} (hs : s < Ns) (h1 : 0 ≤ w ∧ w ≤ 1000000) (h2 : 3 ≤ a 0) (h : sp_ixf a s w ≤ 10000) : x_Cv X mX8_indexFor [.ref 0, .int (Int32.ofNat s), .int w] (I, L, R) 233 (.inl (some (.int (Int32.ofNat (sp_ixf a s w)))), (I, L, R), 233) := by
  obtain ⟨hNs, hn, hNp, hp, hNl, hl, hNm, hmm⟩ := Z
  have hR := h_R H
  have hβ := h_β H
  have hS := h_S H
  show x_Ev X mX8_indexFor 0 [some (.ref 0), some (.int (Int32.ofNat s)), some (.int w), none] [] ((I, L, R), 233, 0, 0) _
  refine f_aload_n (M := mX8_indexFor) 1 dX8_indexFor_0 rfl rfl ?_
  refine f_iload_n (M := mX8_indexFor) 2 dX8_indexFor_1 rfl rfl ?_
  refine e_cV (M := mX8_indexFor) [_] 0 0 dX8_indexFor_2 pa_8161 pb_8161 cc_8161 rfl rfl rfl rfl rfl (x_kk rfl) (x_kk rfl) rfl (k_isSpecies H) rfl ?_
  refine e_cS (M := mX8_indexFor) [] 1 6 dX8_indexFor_5 pa_8103 cc_8103 rfl rfl rfl rfl rfl (x_kk rfl) (x_kk rfl) rfl (c_X8_requireExisting (x_bn (in_ok hn (by omega) hs))) rfl ?_
  refine f_iload_n (M := mX8_indexFor) 9 dX8_indexFor_8 rfl rfl ?_
  refine f_iconst (M := mX8_indexFor) 10 dX8_indexFor_9 ki_0 rfl ?_
  refine f_ldcI (M := mX8_indexFor) 12 dX8_indexFor_10 (x_kk rfl) cst_8167 rfl ?_
  refine e_cS (M := mX8_indexFor) [_] 1 6 dX8_indexFor_12 pa_8049 cc_8049 rfl rfl rfl rfl rfl (x_kk rfl) (x_kk rfl) rfl (c_X8_isIn (lo := 0) (hi := 1000000)) rfl ?_
  refine e_cS (M := mX8_indexFor) [] 2 12 dX8_indexFor_15 pa_8053 cc_8053 rfl rfl rfl rfl rfl (x_kk rfl) (x_kk rfl) rfl (c_X8_requireArgument (x_bn h1)) rfl ?_
  refine f_aload_n (M := mX8_indexFor) 19 dX8_indexFor_18 rfl rfl ?_
  refine e_getR (M := mX8_indexFor) dX8_indexFor_19 fl_8026 (x_kk rfl) (x_kk rfl) rfl hS ?_
  refine e_cV (M := mX8_indexFor) [_] 2 12 dX8_indexFor_22 pa_8236 pb_8236 cc_8236 rfl rfl rfl rfl rfl (x_kk rfl) (x_kk rfl) (x_rcvOK (sl_lt hβ 0 rfl) (sl_s hβ 0 rfl rfl) rfl) (k_hasContract H) rfl ?_
  refine e_cS (M := mX8_indexFor) [] 3 18 dX8_indexFor_25 pa_8037 cc_8037 rfl rfl rfl rfl rfl (x_kk rfl) (x_kk rfl) rfl (c_X8_requireState (x_bn h2)) rfl ?_
  refine f_aload_n (M := mX8_indexFor) 29 dX8_indexFor_28 rfl rfl ?_
  refine e_getR (M := mX8_indexFor) dX8_indexFor_29 fl_8026 (x_kk rfl) (x_kk rfl) rfl hS ?_
  refine e_getR (M := mX8_indexFor) dX8_indexFor_32 fl_8227 (x_kk rfl) (sl_lt hβ 0 rfl) (sl_s hβ 0 rfl rfl) (wf_6_4 hR hβ) ?_
  refine f_iload_n (M := mX8_indexFor) 36 dX8_indexFor_35 rfl rfl ?_
  refine f_iload_n (M := mX8_indexFor) 37 dX8_indexFor_36 rfl rfl ?_
  refine f_aload_n (M := mX8_indexFor) 38 dX8_indexFor_37 rfl rfl ?_
  refine e_getR (M := mX8_indexFor) dX8_indexFor_38 fl_8026 (x_kk rfl) (x_kk rfl) rfl hS ?_
  refine e_getR (M := mX8_indexFor) dX8_indexFor_41 fl_8083 (x_kk rfl) (sl_lt hβ 0 rfl) (sl_s hβ 0 rfl rfl) (wf_6_1 hR hβ) ?_
  refine e_cV (M := mX8_indexFor) [_] 3 18 dX8_indexFor_44 pa_8242 pb_8242 cc_8242 rfl rfl rfl rfl rfl (x_kk rfl) (x_kk rfl) (x_rcvOK (sl_lt hβ 12 rfl) (sl_s hβ 12 rfl rfl) rfl) ((by have e := k_leastIndexFor (X := X) H (show s < 6 by omega) h1; rw [show y_ixr (sp_ixf a s w) = Int32.ofNat (sp_ixf a s w) from if_pos h] at e; exact e)) rfl ?_
  refine f_istore_n (M := mX8_indexFor) (ls' := [_, _, _, _]) 48 dX8_indexFor_47 rfl rfl rfl ?_
  refine f_iload_n (M := mX8_indexFor) 49 dX8_indexFor_48 rfl rfl ?_
  refine f_iconst (M := mX8_indexFor) 50 dX8_indexFor_49 ki_m1 rfl ?_
  refine e_icmp_eqF (M := mX8_indexFor) 57 dX8_indexFor_50 rfl (n_ne1 (by omega)) ?_
  refine f_iconst (M := mX8_indexFor) 54 dX8_indexFor_53 ki_1 rfl ?_
  refine f_goto (M := mX8_indexFor) 58 dX8_indexFor_54 rfl ?_
  refine e_cS (M := mX8_indexFor) [] 4 24 dX8_indexFor_58 pa_8211 cc_8211 rfl rfl rfl rfl rfl (x_kk rfl) (x_kk rfl) rfl (c_X8_requireFound (by decide)) rfl ?_
  refine f_iload_n (M := mX8_indexFor) 62 dX8_indexFor_61 rfl rfl ?_
  refine e_ri (M := mX8_indexFor) dX8_indexFor_62 rfl (x_kk rfl) (x_kk rfl) ?_
  rfl
theorem kf_indexFor_3 {N β : Nat} {a : Nat → Int32} {b : Nat → Int64} (H : y_CS N I L R β a b) {Ns Np Nl Nm : Nat} (Z : y_Z a Ns Np Nl Nm) {w : Int32} {s : Nat} (hs : s < Ns) (h1 : 0 ≤ w ∧ w ≤ 1000000) (h2 : 3 ≤ a 0) (h : ¬ sp_ixf a s w ≤ 10000) : x_Cv X mX8_indexFor [.ref 0, .int (Int32.ofNat s), .int w] (I, L, R) 233 (.inr 3, (I, L, R), 233) := by
  obtain ⟨hNs, hn, hNp, hp, hNl, hl, hNm, hmm⟩ := Z
  have hR := h_R H
  have hβ := h_β H
  have hS := h_S H
  show x_Ev X mX8_indexFor 0 [some (.ref 0), some (.int (Int32.ofNat s)), some (.int w), none] [] ((I, L, R), 233, 0, 0) _
  refine f_aload_n (M := mX8_indexFor) 1 dX8_indexFor_0 rfl rfl ?_
  refine f_iload_n (M := mX8_indexFor) 2 dX8_indexFor_1 rfl rfl ?_
  refine e_cV (M := mX8_indexFor) [_] 0 0 dX8_indexFor_2 pa_8161 pb_8161 cc_8161 rfl rfl rfl rfl rfl (x_kk rfl) (x_kk rfl) rfl (k_isSpecies H) rfl ?_
  refine e_cS (M := mX8_indexFor) [] 1 6 dX8_indexFor_5 pa_8103 cc_8103 rfl rfl rfl rfl rfl (x_kk rfl) (x_kk rfl) rfl (c_X8_requireExisting (x_bn (in_ok hn (by omega) hs))) rfl ?_
  refine f_iload_n (M := mX8_indexFor) 9 dX8_indexFor_8 rfl rfl ?_
  refine f_iconst (M := mX8_indexFor) 10 dX8_indexFor_9 ki_0 rfl ?_
  refine f_ldcI (M := mX8_indexFor) 12 dX8_indexFor_10 (x_kk rfl) cst_8167 rfl ?_
  refine e_cS (M := mX8_indexFor) [_] 1 6 dX8_indexFor_12 pa_8049 cc_8049 rfl rfl rfl rfl rfl (x_kk rfl) (x_kk rfl) rfl (c_X8_isIn (lo := 0) (hi := 1000000)) rfl ?_
  refine e_cS (M := mX8_indexFor) [] 2 12 dX8_indexFor_15 pa_8053 cc_8053 rfl rfl rfl rfl rfl (x_kk rfl) (x_kk rfl) rfl (c_X8_requireArgument (x_bn h1)) rfl ?_
  refine f_aload_n (M := mX8_indexFor) 19 dX8_indexFor_18 rfl rfl ?_
  refine e_getR (M := mX8_indexFor) dX8_indexFor_19 fl_8026 (x_kk rfl) (x_kk rfl) rfl hS ?_
  refine e_cV (M := mX8_indexFor) [_] 2 12 dX8_indexFor_22 pa_8236 pb_8236 cc_8236 rfl rfl rfl rfl rfl (x_kk rfl) (x_kk rfl) (x_rcvOK (sl_lt hβ 0 rfl) (sl_s hβ 0 rfl rfl) rfl) (k_hasContract H) rfl ?_
  refine e_cS (M := mX8_indexFor) [] 3 18 dX8_indexFor_25 pa_8037 cc_8037 rfl rfl rfl rfl rfl (x_kk rfl) (x_kk rfl) rfl (c_X8_requireState (x_bn h2)) rfl ?_
  refine f_aload_n (M := mX8_indexFor) 29 dX8_indexFor_28 rfl rfl ?_
  refine e_getR (M := mX8_indexFor) dX8_indexFor_29 fl_8026 (x_kk rfl) (x_kk rfl) rfl hS ?_
  refine e_getR (M := mX8_indexFor) dX8_indexFor_32 fl_8227 (x_kk rfl) (sl_lt hβ 0 rfl) (sl_s hβ 0 rfl rfl) (wf_6_4 hR hβ) ?_
  refine f_iload_n (M := mX8_indexFor) 36 dX8_indexFor_35 rfl rfl ?_
  refine f_iload_n (M := mX8_indexFor) 37 dX8_indexFor_36 rfl rfl ?_
  refine f_aload_n (M := mX8_indexFor) 38 dX8_indexFor_37 rfl rfl ?_
  refine e_getR (M := mX8_indexFor) dX8_indexFor_38 fl_8026 (x_kk rfl) (x_kk rfl) rfl hS ?_
  refine e_getR (M := mX8_indexFor) dX8_indexFor_41 fl_8083 (x_kk rfl) (sl_lt hβ 0 rfl) (sl_s hβ 0 rfl rfl) (wf_6_1 hR hβ) ?_
  refine e_cV (M := mX8_indexFor) [_] 3 18 dX8_indexFor_44 pa_8242 pb_8242 cc_8242 rfl rfl rfl rfl rfl (x_kk rfl) (x_kk rfl) (x_rcvOK (sl_lt hβ 12 rfl) (sl_s hβ 12 rfl rfl) rfl) ((by have e := k_leastIndexFor (X := X) H (show s < 6 by omega) h1; rw [show y_ixr (sp_ixf a s w) = -1 from if_neg h] at e; exact e)) rfl ?_
  refine f_istore_n (M := mX8_indexFor) (ls' := [_, _, _, _]) 48 dX8_indexFor_47 rfl rfl rfl ?_
  refine f_iload_n (M := mX8_indexFor) 49 dX8_indexFor_48 rfl rfl ?_
  refine f_iconst (M := mX8_indexFor) 50 dX8_indexFor_49 ki_m1 rfl ?_
  refine e_icmp_eqT (M := mX8_indexFor) 57 dX8_indexFor_50 rfl rfl ?_
  refine f_iconst (M := mX8_indexFor) 58 dX8_indexFor_57 ki_0 rfl ?_
  exact e_cSX (M := mX8_indexFor) 4 24 dX8_indexFor_58 pa_8211 cc_8211 rfl rfl rfl rfl rfl (x_kk rfl) (x_kk rfl) rfl (c_X8_requireFound_x rfl) rfl
theorem l_X9_indexFor (hR : x_wf R) {s : Nat} (hs : s < 6) {w : Int32} {r : x_O × x_Mem × Nat} : ∀ d k, k + d = 10001 → x_Ev X mX9_indexFor 81 [some (.ref 225), some (.int (Int32.ofNat s)), some (.int w), some (.int (Int32.ofNat (y_sch (fun k => w ≤ sp_rateBy (I 226) s (Int32.ofNat k)) d k)))] [] ((I, L, R), 233, 0, 0) r → x_Ev X mX9_indexFor 58 [some (.ref 225), some (.int (Int32.ofNat s)), some (.int w), some (.int (Int32.ofNat k))] [] ((I, L, R), 233, 0, 0) r := by
  intro d
  induction d with
  | zero =>
    intro k hd he
    obtain rfl : 10001 = k := by omega
    refine f_iload_n (M := mX9_indexFor) 59 dX9_indexFor_58 rfl rfl ?_
    refine f_sipush (M := mX9_indexFor) 62 dX9_indexFor_59 ks_10000 rfl ?_
    refine e_icmp_gtT (M := mX9_indexFor) 81 dX9_indexFor_62 rfl (by decide) ?_
    exact he
  | succ d ih =>
    intro k hd he
    refine f_iload_n (M := mX9_indexFor) 59 dX9_indexFor_58 rfl rfl ?_
    refine f_sipush (M := mX9_indexFor) 62 dX9_indexFor_59 ks_10000 rfl ?_
    refine e_icmp_gtF (M := mX9_indexFor) 81 dX9_indexFor_62 rfl (by rw [kn_10000, n_lt (by omega) (by omega)]; omega) ?_
    refine f_aload_n (M := mX9_indexFor) 66 dX9_indexFor_65 rfl rfl ?_
    refine f_iload_n (M := mX9_indexFor) 67 dX9_indexFor_66 rfl rfl ?_
    refine f_iload_n (M := mX9_indexFor) 68 dX9_indexFor_67 rfl rfl ?_
    refine e_cV (M := mX9_indexFor) [_] 0 0 dX9_indexFor_68 pa_9243 pb_9243 cc_9243 rfl rfl rfl rfl rfl (x_kk rfl) (x_kk rfl) rfl (c_X9_rateBy hR hs) rfl ?_
    refine f_iload_n (M := mX9_indexFor) 72 dX9_indexFor_71 rfl rfl ?_
    refine e_icmp_ge (M := mX9_indexFor) (t := 81) dX9_indexFor_72 rfl (fun h1 => ?_) (fun h1 => ?_)
    · rw [show y_sch (fun k => w ≤ sp_rateBy (I 226) s (Int32.ofNat k)) (d + 1) k = _ from if_pos h1] at he; exact he
    · refine f_iinc (M := mX9_indexFor) (ls' := [_, _, _, _]) 78 dX9_indexFor_75 ki_1 rfl rfl rfl rfl ?_
      refine f_goto (M := mX9_indexFor) 58 dX9_indexFor_78 rfl ?_
      rw [n_inc (s := k)]; rw [show y_sch (fun k => w ≤ sp_rateBy (I 226) s (Int32.ofNat k)) (d + 1) k = _ from if_neg h1] at he; exact ih (k + 1) (by omega) he
theorem mo_indexFor (hR : x_wf R) {Ns Np Nl Nm : Nat} (Z : y_Z (I 226) Ns Np Nl Nm) {w : Int32} {s : Nat} (hs : s < Ns) (h1 : 0 ≤ w ∧ w ≤ 1000000) (h2 : 3 ≤ I 226 0) (h : sp_ixf (I 226) s w ≤ 10000) : x_Cv X mX9_indexFor [.ref 225, .int (Int32.ofNat s), .int w] (I, L, R) 233 (.inl (some (.int (Int32.ofNat (sp_ixf (I 226) s w)))), (x_tw I 0, L, R), 233) := by
  obtain ⟨hNs, hn, hNp, hp, hNl, hl, hNm, hmm⟩ := Z
  show x_Ev X mX9_indexFor 0 [some (.ref 225), some (.int (Int32.ofNat s)), some (.int w), none] [] ((I, L, R), 233, 0, 0) _
  refine f_aload_n (M := mX9_indexFor) 1 dX9_indexFor_0 rfl rfl ?_
  refine f_aload_n (M := mX9_indexFor) 2 dX9_indexFor_1 rfl rfl ?_
  refine f_iload_n (M := mX9_indexFor) 3 dX9_indexFor_2 rfl rfl ?_
  refine e_cV (M := mX9_indexFor) [_, _] 0 0 dX9_indexFor_3 pa_9137 pb_9137 cc_9137 rfl rfl rfl rfl rfl (x_kk rfl) (x_kk rfl) rfl (c_X9_isSpecies hR) rfl ?_
  refine e_if_neT (M := mX9_indexFor) 13 dX9_indexFor_6 rfl (x_bn (in_ok hn (by omega) hs)) ?_
  refine f_iload_n (M := mX9_indexFor) 14 dX9_indexFor_13 rfl rfl ?_
  refine f_i2l (M := mX9_indexFor) 15 dX9_indexFor_14 rfl ?_
  refine f_lconst (M := mX9_indexFor) 16 dX9_indexFor_15 kl_0 rfl ?_
  refine f_ldc2 (M := mX9_indexFor) 19 dX9_indexFor_16 (x_kk rfl) csl_9188 rfl ?_
  refine e_cS (M := mX9_indexFor) [_, _] 0 0 dX9_indexFor_19 pa_9074 cc_9074 rfl rfl rfl rfl rfl (x_kk rfl) (x_kk rfl) rfl (c_X9_isInI (lo := 0) (hi := 1000000)) rfl ?_
  refine e_if_neT (M := mX9_indexFor) 29 dX9_indexFor_22 rfl (x_bn h1) ?_
  refine f_aload_n (M := mX9_indexFor) 30 dX9_indexFor_29 rfl rfl ?_
  refine e_getR (M := mX9_indexFor) dX9_indexFor_30 fl_9007 (x_kk rfl) (x_kk rfl) rfl (wf_9_0 hR) ?_
  refine f_iconst (M := mX9_indexFor) 34 dX9_indexFor_33 ki_0 rfl ?_
  refine e_ild (M := mX9_indexFor) (w := 606) (j := 0) dX9_indexFor_34 (x_kk rfl) rfl kn_0 (by omega) (by omega) ?_
  refine f_iconst (M := mX9_indexFor) 36 dX9_indexFor_35 ki_3 rfl ?_
  refine e_icmp_geT (M := mX9_indexFor) 43 dX9_indexFor_36 rfl h2 ?_
  refine f_iconst (M := mX9_indexFor) 44 dX9_indexFor_43 ki_0 rfl ?_
  refine e_putI (M := mX9_indexFor) dX9_indexFor_44 fl_9033 (x_kk rfl) (x_kk rfl) rfl (fun q9 => Bool.noConfusion q9) ?_
  refine f_aload_n (M := mX9_indexFor) 48 dX9_indexFor_47 rfl rfl ?_
  refine e_getI (M := mX9_indexFor) dX9_indexFor_48 fl_9033 (x_kk rfl) (x_kk rfl) rfl ?_
  refine e_if_leT (M := mX9_indexFor) 56 dX9_indexFor_51 rfl (show (0 : Int32) ≤ 0 by decide) ?_
  refine f_iconst (M := mX9_indexFor) 57 dX9_indexFor_56 ki_1 rfl ?_
  refine f_istore_n (M := mX9_indexFor) (ls' := [_, _, _, _]) 58 dX9_indexFor_57 rfl rfl rfl ?_
  refine l_X9_indexFor (I := x_tw I 0) hR (by omega) 10000 1 (by omega) ?_
  refine f_aload_n (M := mX9_indexFor) 82 dX9_indexFor_81 rfl rfl ?_
  refine f_iload_n (M := mX9_indexFor) 83 dX9_indexFor_82 rfl rfl ?_
  refine f_sipush (M := mX9_indexFor) 86 dX9_indexFor_83 ks_10000 rfl ?_
  refine e_icmp_leT (M := mX9_indexFor) 93 dX9_indexFor_86 rfl ((n_le (a := sp_ixf (I 226) s w) (b := 10000) (by omega) (by decide)).mpr h) ?_
  refine f_iconst (M := mX9_indexFor) 94 dX9_indexFor_93 ki_0 rfl ?_
  refine e_putI (M := mX9_indexFor) dX9_indexFor_94 fl_9033 (x_kk rfl) (x_kk rfl) rfl (fun q9 => Bool.noConfusion q9) ?_
  refine f_aload_n (M := mX9_indexFor) 98 dX9_indexFor_97 rfl rfl ?_
  refine e_getI (M := mX9_indexFor) dX9_indexFor_98 fl_9033 (x_kk rfl) (x_kk rfl) rfl ?_
  refine e_if_leT (M := mX9_indexFor) 108 dX9_indexFor_101 rfl (show (0 : Int32) ≤ 0 by decide) ?_
  refine f_iload_n (M := mX9_indexFor) 109 dX9_indexFor_108 rfl rfl ?_
  refine e_ri (M := mX9_indexFor) dX9_indexFor_109 rfl (x_kk rfl) (x_kk rfl) ?_
  exact congrArg (fun q9 => ((.inl (some (.int (Int32.ofNat (sp_ixf (I 226) s w)))), (q9, L, R), 233) : x_O × x_Mem × Nat)) (tw_tw (I := I) (s := 0) (t := 0))
theorem mo_indexFor_3 (hR : x_wf R) {Ns Np Nl Nm : Nat} (Z : y_Z (I 226) Ns Np Nl Nm) {w : Int32} {s : Nat} (hs : s < Ns) (h1 : 0 ≤ w ∧ w ≤ 1000000) (h2 : 3 ≤ I 226 0) (h : ¬ sp_ixf (I 226) s w ≤ 10000) (hlt : sp_ixf (I 226) s w < 1000000000) : x_Cv X mX9_indexFor [.ref 225, .int (Int32.ofNat s), .int w] (I, L, R) 233 (.inl (some (.int (0))), (x_tw I 4, L, R), 233) := by
  obtain ⟨hNs, hn, hNp, hp, hNl, hl, hNm, hmm⟩ := Z
  show x_Ev X mX9_indexFor 0 [some (.ref 225), some (.int (Int32.ofNat s)), some (.int w), none] [] ((I, L, R), 233, 0, 0) _
  refine f_aload_n (M := mX9_indexFor) 1 dX9_indexFor_0 rfl rfl ?_
  refine f_aload_n (M := mX9_indexFor) 2 dX9_indexFor_1 rfl rfl ?_
  refine f_iload_n (M := mX9_indexFor) 3 dX9_indexFor_2 rfl rfl ?_
  refine e_cV (M := mX9_indexFor) [_, _] 0 0 dX9_indexFor_3 pa_9137 pb_9137 cc_9137 rfl rfl rfl rfl rfl (x_kk rfl) (x_kk rfl) rfl (c_X9_isSpecies hR) rfl ?_
  refine e_if_neT (M := mX9_indexFor) 13 dX9_indexFor_6 rfl (x_bn (in_ok hn (by omega) hs)) ?_
  refine f_iload_n (M := mX9_indexFor) 14 dX9_indexFor_13 rfl rfl ?_
  refine f_i2l (M := mX9_indexFor) 15 dX9_indexFor_14 rfl ?_
  refine f_lconst (M := mX9_indexFor) 16 dX9_indexFor_15 kl_0 rfl ?_
  refine f_ldc2 (M := mX9_indexFor) 19 dX9_indexFor_16 (x_kk rfl) csl_9188 rfl ?_
  refine e_cS (M := mX9_indexFor) [_, _] 0 0 dX9_indexFor_19 pa_9074 cc_9074 rfl rfl rfl rfl rfl (x_kk rfl) (x_kk rfl) rfl (c_X9_isInI (lo := 0) (hi := 1000000)) rfl ?_
  refine e_if_neT (M := mX9_indexFor) 29 dX9_indexFor_22 rfl (x_bn h1) ?_
  refine f_aload_n (M := mX9_indexFor) 30 dX9_indexFor_29 rfl rfl ?_
  refine e_getR (M := mX9_indexFor) dX9_indexFor_30 fl_9007 (x_kk rfl) (x_kk rfl) rfl (wf_9_0 hR) ?_
  refine f_iconst (M := mX9_indexFor) 34 dX9_indexFor_33 ki_0 rfl ?_
  refine e_ild (M := mX9_indexFor) (w := 606) (j := 0) dX9_indexFor_34 (x_kk rfl) rfl kn_0 (by omega) (by omega) ?_
  refine f_iconst (M := mX9_indexFor) 36 dX9_indexFor_35 ki_3 rfl ?_
  refine e_icmp_geT (M := mX9_indexFor) 43 dX9_indexFor_36 rfl h2 ?_
  refine f_iconst (M := mX9_indexFor) 44 dX9_indexFor_43 ki_0 rfl ?_
  refine e_putI (M := mX9_indexFor) dX9_indexFor_44 fl_9033 (x_kk rfl) (x_kk rfl) rfl (fun q9 => Bool.noConfusion q9) ?_
  refine f_aload_n (M := mX9_indexFor) 48 dX9_indexFor_47 rfl rfl ?_
  refine e_getI (M := mX9_indexFor) dX9_indexFor_48 fl_9033 (x_kk rfl) (x_kk rfl) rfl ?_
  refine e_if_leT (M := mX9_indexFor) 56 dX9_indexFor_51 rfl (show (0 : Int32) ≤ 0 by decide) ?_
  refine f_iconst (M := mX9_indexFor) 57 dX9_indexFor_56 ki_1 rfl ?_
  refine f_istore_n (M := mX9_indexFor) (ls' := [_, _, _, _]) 58 dX9_indexFor_57 rfl rfl rfl ?_
  refine l_X9_indexFor (I := x_tw I 0) hR (by omega) 10000 1 (by omega) ?_
  refine f_aload_n (M := mX9_indexFor) 82 dX9_indexFor_81 rfl rfl ?_
  refine f_iload_n (M := mX9_indexFor) 83 dX9_indexFor_82 rfl rfl ?_
  refine f_sipush (M := mX9_indexFor) 86 dX9_indexFor_83 ks_10000 rfl ?_
  refine e_icmp_leF (M := mX9_indexFor) 93 dX9_indexFor_86 rfl (fun z => h ((n_le hlt (by omega)).mp z)) ?_
  refine f_iconst (M := mX9_indexFor) 90 dX9_indexFor_89 ki_4 rfl ?_
  refine f_goto (M := mX9_indexFor) 94 dX9_indexFor_90 rfl ?_
  refine e_putI (M := mX9_indexFor) dX9_indexFor_94 fl_9033 (x_kk rfl) (x_kk rfl) rfl (fun q9 => Bool.noConfusion q9) ?_
  refine f_aload_n (M := mX9_indexFor) 98 dX9_indexFor_97 rfl rfl ?_
  refine e_getI (M := mX9_indexFor) dX9_indexFor_98 fl_9033 (x_kk rfl) (x_kk rfl) rfl ?_
  refine e_if_leF (M := mX9_indexFor) 108 dX9_indexFor_101 rfl (show ¬ ((4 : Int32) ≤ 0) by decide) ?_
  refine f_iconst (M := mX9_indexFor) 105 dX9_indexFor_104 ki_0 rfl ?_
  refine f_goto (M := mX9_indexFor) 109 dX9_indexFor_105 rfl ?_
  refine e_ri (M := mX9_indexFor) dX9_indexFor_109 rfl (x_kk rfl) (x_kk rfl) ?_
  exact congrArg (fun q9 => ((.inl (some (.int 0)), (q9, L, R), 233) : x_O × x_Mem × Nat)) (tw_tw (I := I) (s := 0) (t := 4))
theorem sch_le {C : Nat → Prop} [DecidablePred C] : ∀ (d m : Nat), y_sch C d m ≤ m + d
  | 0, m => Nat.le_refl _
  | d + 1, m => by
    rw [y_sch]
    by_cases h : C m
    · rw [if_pos h]; omega
    · rw [if_neg h]; have := sch_le (C := C) d (m + 1); omega
theorem sim_indexFor (T : y_T N I L R) {v : Int32} {w : Int32} : y_OI N X mL_indexFor [.ref 0, .int v, .int w, .ref 232] mX9_indexFor [.ref 225, .int v, .int w] I L R := by
  have T0 := T
  obtain ⟨a, b, kn, ks, bf, bn, ep, ⟨β, δ, γ, ν, hB⟩, hM, hI⟩ := T
  have H : y_CS N I L R β a b := ⟨hM.1, hB.1.2.1, hB.1.2.2.2.2.1, hB.2.2.2.2.2.1, hI.1⟩
  obtain ⟨Ns, Np, Nl, Nm, Z⟩ := Z_of hI.1
  have hR := hM.1
  have ha : I 226 = a := hM.2.1
  have hb : L 229 = b := hM.2.2.1
  subst ha
  subst hb
  obtain ⟨hNs, hn, hNp, hp, hNl, hl, hNm, hmm⟩ := id Z
  by_cases h0 : 0 ≤ v ∧ v ≤ I 226 8 - 1
  · obtain ⟨s, hs, rfl⟩ := in_of hn (by omega) h0
    by_cases h1 : 0 ≤ w ∧ w ≤ 1000000
    · skip
      by_cases h2 : 3 ≤ I 226 0
      · skip
        by_cases h : sp_ixf (I 226) s w ≤ 10000
        · exact OI_q T0 (w_indexFor (ko_indexFor H Z hs h1 h2 h)) (mo_indexFor hR Z hs h1 h2 h)
        · exact OI_x T0 (by decide) (w_indexFor_x3 (kf_indexFor_3 H Z hs h1 h2 h)) (mo_indexFor_3 hR Z hs h1 h2 h (Nat.lt_of_le_of_lt (sch_le 10000 1) (by decide)))
      · exact OI_x T0 (by decide) (w_indexFor_x0 (kf_indexFor_2 H Z hs h1 h2)) (mf_indexFor_2 hR Z hs h1 h2)
    · exact OI_x T0 (by decide) (w_indexFor_x1 (kf_indexFor_1 H Z hs h1)) (mf_indexFor_1 hR Z hs h1)
  · exact OI_x T0 (by decide) (w_indexFor_x2 (kf_indexFor_0 H Z h0)) (mf_indexFor_0 hR Z h0)
end

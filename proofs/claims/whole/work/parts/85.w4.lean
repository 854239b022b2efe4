/-! ===== changes of both, fourth (laid by wip/whole/src/w4.py) ===== -/
section
variable {X : x_X} {I : Nat → Nat → Int32} {L : Nat → Nat → Int64} {R : Nat → Nat → Option Nat} {N : Nat}
section
variable {β : Nat} {a a' : Nat → Int32} {b : Nat → Int64}
theorem IK_ph (ha : ∀ j, j = 11 ∨ j = 13 ∨ j = 15 ∨ j = 16 ∨ (288 ≤ j ∧ j < 366) → a' j = a j) (h3 : 3 ≤ a' 0 → 3 ≤ a 0) (h4 : a' 0 = 4 ↔ a 0 = 4) (h8 : ¬ a' 0 = 8) (h : y_IK a) : y_IK a' := by
  obtain ⟨h1, h2, h5, h6, h7, h9, _⟩ := h
  unfold y_IK
  rw [ha 11 (by omega), ha 13 (by omega), ha 15 (by omega), ha 16 (by omega)]
  refine ⟨h1, h2, fun s hs => by rw [ha _ (by omega)]; exact h5 s hs, fun j hj => by rw [ha _ (by omega)]; exact h6 j hj, fun z => h7 (h3 z), ?_, fun z => absurd z h8⟩
  rw [h9]
  by_cases g : a 0 = 4
  · rw [if_pos g, if_pos (h4.mpr g)]
  · rw [if_neg g, if_neg (fun z => g (h4.mp z))]
theorem Rep_ph {x : Int32} (h6 : 6 ≤ x ↔ 6 ≤ a 0) (h3 : 3 ≤ x → 3 ≤ a 0) (h60 : (a 14).toNatClampNeg ≤ 60) (h : y_Rep I L β a b) : y_Rep (va_up I β (va_up (I β) 0 x)) L β (va_up a 0 x) b := by
  obtain ⟨_, hT, hC, hB, hK, hL⟩ := h
  refine ⟨by rw [x_up_self, x_up_self, x_up_self], RT_c (fun k z1 z2 => x_up_ne _ _ (by omega)) (fun j hj => x_up_ne _ _ (by omega)) hT, RC_c (fun k z1 z2 => x_up_ne _ _ (by omega)) (fun j hj => x_up_ne _ _ (by omega)) hC, RB_c (fun k z1 z2 => x_up_ne _ _ (by omega)) (by rw [x_up_self]; exact h6) (fun j hj => x_up_ne _ _ (by omega)) hB, RK_c (fun k z1 z2 => x_up_ne _ _ (by omega)) rfl rfl (fun z => h3 (by rw [x_up_self] at z; exact z)) (fun j hj => x_up_ne _ _ (by omega)) hK, RL_c (fun k z1 z2 => x_up_ne _ _ (by omega)) (fun j hj => x_up_ne _ _ (by omega)) h60 hL⟩
theorem Inv_ph {M : Nat} (hM : N ≤ M) {x : Int32} {P : Nat} (hP : P ≤ 8) (hx : x = Int32.ofNat P) (h0 : ¬ x = 0) (h3 : 3 ≤ x → 3 ≤ a 0) (h4 : x = 4 ↔ a 0 = 4) (h8 : ¬ x = 8) (h : y_Inv N a b) : y_Inv M (va_up a 0 x) b := by
  obtain ⟨hT, hC, hB, hV, hK, hL, ha, hb⟩ := h
  refine ⟨IT_c ⟨P, hP, by rw [x_up_self]; exact hx⟩ (fun j hj => x_up_ne _ _ (by omega)) hT, IC_c (fun j hj => x_up_ne _ _ (by omega)) hC, IB_c hM (fun z => absurd (by rw [x_up_self] at z; exact z) h0) (fun j hj => x_up_ne _ _ (by omega)) hB, IV_c (fun j hj => x_up_ne _ _ (by omega)) hV, IK_ph (fun j hj => x_up_ne _ _ (by omega)) (fun z => h3 (by rw [x_up_self] at z; exact z)) (by rw [x_up_self]; exact h4) (by rw [x_up_self]; exact h8) hK, IL_c (fun j hj => x_up_ne _ _ (by omega)) hL, fun j hj => (x_up_ne _ _ (by omega)).trans (ha j hj), hb⟩
end
theorem kx_open_1 {N β : Nat} {a : Nat → Int32} {b : Nat → Int64} (H : y_CS N I L R β a b) {Ns Np Nl Nm : Nat} (Z : y_Z a Ns Np Nl Nm) {I0 : Nat → Nat → Int32} {L0 : Nat → Nat → Int64} (hk : x_Cv X mX3_keep [.ref 3, .ref β] (I, L, R) 233 (.inl none, (I0, L0, R), 233)) (H1 : y_CS N I0 L0 R β a b) (h0 : a 0 = 1 ∨ a 0 = 6) (h : a 0 = 1) (H2 : y_CS N (va_up I0 β (va_up (I0 β) 0 2)) L0 R β (va_up a 0 2) b) : x_Cv X mX8_open [.ref 0] (I, L, R) 233 (.inl (some (.int (Int32.ofNat (x_cnt (fun q => sp_prob (va_up a 0 2) q Ns = 0) 8)))), ((va_up I0 β (va_up (I0 β) 0 2)), L0, R), 233) := by
  obtain ⟨hNs, hn, hNp, hp, hNl, hl, hNm, hmm⟩ := Z
  have hR := h_R H
  have hβ := h_β H
  have hS := h_S H
  show x_Ev X mX8_open 0 [some (.ref 0)] [] ((I, L, R), 233, 0, 0) _
  refine f_aload_n (M := mX8_open) 1 dX8_open_0 rfl rfl ?_
  refine e_getR (M := mX8_open) dX8_open_1 fl_8026 (x_kk rfl) (x_kk rfl) rfl hS ?_
  refine e_cV (M := mX8_open) [_] 0 0 dX8_open_4 pa_8168 pb_8168 cc_8168 rfl rfl rfl rfl rfl (x_kk rfl) (x_kk rfl) (x_rcvOK (sl_lt hβ 0 rfl) (sl_s hβ 0 rfl rfl) rfl) (k_isBidding H) rfl ?_
  refine e_cS (M := mX8_open) [] 1 6 dX8_open_7 pa_8037 cc_8037 rfl rfl rfl rfl rfl (x_kk rfl) (x_kk rfl) rfl (c_X8_requireState (x_bn h0)) rfl ?_
  refine f_aload_n (M := mX8_open) 11 dX8_open_10 rfl rfl ?_
  refine e_getR (M := mX8_open) dX8_open_11 fl_8019 (x_kk rfl) (x_kk rfl) rfl (wf_8_1 hR) ?_
  refine f_aload_n (M := mX8_open) 15 dX8_open_14 rfl rfl ?_
  refine e_getR (M := mX8_open) dX8_open_15 fl_8026 (x_kk rfl) (x_kk rfl) rfl hS ?_
  refine e_cV (M := mX8_open) [] 1 6 dX8_open_18 pa_8060 pb_8060 cc_8060 rfl rfl rfl rfl rfl (x_kk rfl) (x_kk rfl) rfl (hk) rfl ?_
  refine f_aload_n (M := mX8_open) 22 dX8_open_21 rfl rfl ?_
  refine e_getR (M := mX8_open) dX8_open_22 fl_8026 (x_kk rfl) (x_kk rfl) rfl hS ?_
  refine f_aload_n (M := mX8_open) 26 dX8_open_25 rfl rfl ?_
  refine e_getR (M := mX8_open) dX8_open_26 fl_8026 (x_kk rfl) (x_kk rfl) rfl hS ?_
  refine e_getI (M := mX8_open) dX8_open_29 fl_8067 (x_kk rfl) (sl_lt hβ 0 rfl) (sl_s hβ 0 rfl rfl) ?_
  refine f_iconst (M := mX8_open) 33 dX8_open_32 ki_1 rfl ?_
  refine e_icmp_neF (M := mX8_open) 40 dX8_open_33 rfl (fun z => z ((h_ph H1).trans h)) ?_
  refine f_iconst (M := mX8_open) 37 dX8_open_36 ki_2 rfl ?_
  refine f_goto (M := mX8_open) 42 dX8_open_37 rfl ?_
  refine e_putI (M := mX8_open) dX8_open_42 fl_8067 (x_kk rfl) (sl_lt hβ 0 rfl) (sl_s hβ 0 rfl rfl) (fun q9 => Bool.noConfusion q9) ?_
  refine f_aload_n (M := mX8_open) 46 dX8_open_45 rfl rfl ?_
  refine e_getR (M := mX8_open) dX8_open_46 fl_8026 (x_kk rfl) (x_kk rfl) rfl hS ?_
  refine e_getR (M := mX8_open) dX8_open_49 fl_8148 (x_kk rfl) (sl_lt hβ 0 rfl) (sl_s hβ 0 rfl rfl) (wf_6_3 hR hβ) ?_
  refine f_aload_n (M := mX8_open) 53 dX8_open_52 rfl rfl ?_
  refine e_getR (M := mX8_open) dX8_open_53 fl_8026 (x_kk rfl) (x_kk rfl) rfl hS ?_
  refine e_getR (M := mX8_open) dX8_open_56 fl_8083 (x_kk rfl) (sl_lt hβ 0 rfl) (sl_s hβ 0 rfl rfl) (wf_6_1 hR hβ) ?_
  refine e_cV (M := mX8_open) [_] 1 6 dX8_open_59 pa_8191 pb_8191 cc_8191 rfl rfl rfl rfl rfl (x_kk rfl) (x_kk rfl) (x_rcvOK (sl_lt hβ 7 rfl) (sl_s hβ 7 rfl rfl) rfl) (k_validBids H2 hNs hn) rfl ?_
  refine e_ri (M := mX8_open) dX8_open_62 rfl (x_kk rfl) (x_kk rfl) ?_
  rfl
theorem kx_open_6 {N β : Nat} {a : Nat → Int32} {b : Nat → Int64} (H : y_CS N I L R β a b) {Ns Np Nl Nm : Nat} (Z : y_Z a Ns Np Nl Nm) {I0 : Nat → Nat → Int32} {L0 : Nat → Nat → Int64} (hk : x_Cv X mX3_keep [.ref 3, .ref β] (I, L, R) 233 (.inl none, (I0, L0, R), 233)) (H1 : y_CS N I0 L0 R β a b) (h0 : a 0 = 1 ∨ a 0 = 6) (h : a 0 = 6) (H2 : y_CS N (va_up I0 β (va_up (I0 β) 0 7)) L0 R β (va_up a 0 7) b) : x_Cv X mX8_open [.ref 0] (I, L, R) 233 (.inl (some (.int (Int32.ofNat (x_cnt (fun q => sp_prob (va_up a 0 7) q Ns = 0) 8)))), ((va_up I0 β (va_up (I0 β) 0 7)), L0, R), 233) := by
  obtain ⟨hNs, hn, hNp, hp, hNl, hl, hNm, hmm⟩ := Z
  have hR := h_R H
  have hβ := h_β H
  have hS := h_S H
  show x_Ev X mX8_open 0 [some (.ref 0)] [] ((I, L, R), 233, 0, 0) _
  refine f_aload_n (M := mX8_open) 1 dX8_open_0 rfl rfl ?_
  refine e_getR (M := mX8_open) dX8_open_1 fl_8026 (x_kk rfl) (x_kk rfl) rfl hS ?_
  refine e_cV (M := mX8_open) [_] 0 0 dX8_open_4 pa_8168 pb_8168 cc_8168 rfl rfl rfl rfl rfl (x_kk rfl) (x_kk rfl) (x_rcvOK (sl_lt hβ 0 rfl) (sl_s hβ 0 rfl rfl) rfl) (k_isBidding H) rfl ?_
  refine e_cS (M := mX8_open) [] 1 6 dX8_open_7 pa_8037 cc_8037 rfl rfl rfl rfl rfl (x_kk rfl) (x_kk rfl) rfl (c_X8_requireState (x_bn h0)) rfl ?_
  refine f_aload_n (M := mX8_open) 11 dX8_open_10 rfl rfl ?_
  refine e_getR (M := mX8_open) dX8_open_11 fl_8019 (x_kk rfl) (x_kk rfl) rfl (wf_8_1 hR) ?_
  refine f_aload_n (M := mX8_open) 15 dX8_open_14 rfl rfl ?_
  refine e_getR (M := mX8_open) dX8_open_15 fl_8026 (x_kk rfl) (x_kk rfl) rfl hS ?_
  refine e_cV (M := mX8_open) [] 1 6 dX8_open_18 pa_8060 pb_8060 cc_8060 rfl rfl rfl rfl rfl (x_kk rfl) (x_kk rfl) rfl (hk) rfl ?_
  refine f_aload_n (M := mX8_open) 22 dX8_open_21 rfl rfl ?_
  refine e_getR (M := mX8_open) dX8_open_22 fl_8026 (x_kk rfl) (x_kk rfl) rfl hS ?_
  refine f_aload_n (M := mX8_open) 26 dX8_open_25 rfl rfl ?_
  refine e_getR (M := mX8_open) dX8_open_26 fl_8026 (x_kk rfl) (x_kk rfl) rfl hS ?_
  refine e_getI (M := mX8_open) dX8_open_29 fl_8067 (x_kk rfl) (sl_lt hβ 0 rfl) (sl_s hβ 0 rfl rfl) ?_
  refine f_iconst (M := mX8_open) 33 dX8_open_32 ki_1 rfl ?_
  refine e_icmp_neT (M := mX8_open) 40 dX8_open_33 rfl (fun z => absurd ((h_ph H1).symm.trans z) (by rw [h]; decide)) ?_
  refine f_bipush (M := mX8_open) 42 dX8_open_40 kb_7 rfl ?_
  refine e_putI (M := mX8_open) dX8_open_42 fl_8067 (x_kk rfl) (sl_lt hβ 0 rfl) (sl_s hβ 0 rfl rfl) (fun q9 => Bool.noConfusion q9) ?_
  refine f_aload_n (M := mX8_open) 46 dX8_open_45 rfl rfl ?_
  refine e_getR (M := mX8_open) dX8_open_46 fl_8026 (x_kk rfl) (x_kk rfl) rfl hS ?_
  refine e_getR (M := mX8_open) dX8_open_49 fl_8148 (x_kk rfl) (sl_lt hβ 0 rfl) (sl_s hβ 0 rfl rfl) (wf_6_3 hR hβ) ?_
  refine f_aload_n (M := mX8_open) 53 dX8_open_52 rfl rfl ?_
  refine e_getR (M := mX8_open) dX8_open_53 fl_8026 (x_kk rfl) (x_kk rfl) rfl hS ?_
  refine e_getR (M := mX8_open) dX8_open_56 fl_8083 (x_kk rfl) (sl_lt hβ 0 rfl) (sl_s hβ 0 rfl rfl) (wf_6_1 hR hβ) ?_
  refine e_cV (M := mX8_open) [_] 1 6 dX8_open_59 pa_8191 pb_8191 cc_8191 rfl rfl rfl rfl rfl (x_kk rfl) (x_kk rfl) (x_rcvOK (sl_lt hβ 7 rfl) (sl_s hβ 7 rfl rfl) rfl) (k_validBids H2 hNs hn) rfl ?_
  refine e_ri (M := mX8_open) dX8_open_62 rfl (x_kk rfl) (x_kk rfl) ?_
  rfl
theorem l_X9_open (hR : x_wf R) {Ns : Nat} (hNs : Ns ≤ 6) (hn : I 226 8 = Int32.ofNat Ns) : ∀ d k, k + d = 8 → x_Ev X mX9_open 43 [some (.ref 225), some (.int (Int32.ofNat (x_cnt (fun q => sp_prob (I 226) q Ns = 0) k))), some (.int (Int32.ofNat k))] [] ((I, L, R), 233, 0, 0) (.inl (some (.int (Int32.ofNat (x_cnt (fun q => sp_prob (I 226) q Ns = 0) 8)))), (I, L, R), 233) := by
  intro d
  induction d with
  | zero =>
    intro k hd
    obtain rfl : 8 = k := by omega
    refine f_iload_n (M := mX9_open) 44 dX9_open_43 rfl rfl ?_
    refine f_bipush (M := mX9_open) 46 dX9_open_44 kb_8 rfl ?_
    refine e_icmp_geT (M := mX9_open) 71 dX9_open_46 rfl (by decide) ?_
    refine f_iload_n (M := mX9_open) 72 dX9_open_71 rfl rfl ?_
    refine e_ri (M := mX9_open) dX9_open_72 rfl (x_kk rfl) (x_kk rfl) ?_
    rfl
  | succ d ih =>
    intro k hd
    refine f_iload_n (M := mX9_open) 44 dX9_open_43 rfl rfl ?_
    refine f_bipush (M := mX9_open) 46 dX9_open_44 kb_8 rfl ?_
    refine e_icmp_geF (M := mX9_open) 71 dX9_open_46 rfl (by rw [kn_8, n_le (by omega) (by omega)]; omega) ?_
    refine f_iload_n (M := mX9_open) 50 dX9_open_49 rfl rfl ?_
    refine f_aload_n (M := mX9_open) 51 dX9_open_50 rfl rfl ?_
    refine f_iload_n (M := mX9_open) 52 dX9_open_51 rfl rfl ?_
    refine e_cV (M := mX9_open) [_, _] 0 0 dX9_open_52 pa_9202 pb_9202 cc_9202 rfl rfl rfl rfl rfl (x_kk rfl) (x_kk rfl) rfl (c_X9_problemOf hR hNs hn (by omega)) rfl ?_
    refine e_if_ne (M := mX9_open) (t := 62) dX9_open_55 rfl (fun h1 => ?_) (fun h1 => ?_)
    · refine f_iconst (M := mX9_open) 63 dX9_open_62 ki_0 rfl ?_
      refine f_iadd (M := mX9_open) 64 dX9_open_63 rfl ?_
      refine f_istore_n (M := mX9_open) (ls' := [_, _, _]) 65 dX9_open_64 rfl rfl rfl ?_
      refine f_iinc (M := mX9_open) (ls' := [_, _, _]) 68 dX9_open_65 ki_1 rfl rfl rfl rfl ?_
      refine f_goto (M := mX9_open) 43 dX9_open_68 rfl ?_
      rw [n_inc (s := k), Int32.add_zero]; have ih1 := ih (k + 1) (by omega); rw [show x_cnt (fun q => sp_prob (I 226) q Ns = 0) (k + 1) = _ from x_cnt_0 h1] at ih1; exact ih1
    · refine f_iconst (M := mX9_open) 59 dX9_open_58 ki_1 rfl ?_
      refine f_goto (M := mX9_open) 63 dX9_open_59 rfl ?_
      refine f_iadd (M := mX9_open) 64 dX9_open_63 rfl ?_
      refine f_istore_n (M := mX9_open) (ls' := [_, _, _]) 65 dX9_open_64 rfl rfl rfl ?_
      refine f_iinc (M := mX9_open) (ls' := [_, _, _]) 68 dX9_open_65 ki_1 rfl rfl rfl rfl ?_
      refine f_goto (M := mX9_open) 43 dX9_open_68 rfl ?_
      rw [n_inc (s := k), n_inc (s := x_cnt (fun q => sp_prob (I 226) q Ns = 0) k)]; have ih1 := ih (k + 1) (by omega); rw [show x_cnt (fun q => sp_prob (I 226) q Ns = 0) (k + 1) = _ from x_cnt_1 (x_dn h1)] at ih1; exact ih1
theorem mx_open (hR : x_wf R) {a : Nat → Int32} (ha : I 226 = a) {Ns Np Nl Nm : Nat} (Z : y_Z a Ns Np Nl Nm) {I0 : Nat → Nat → Int32} {L0 : Nat → Nat → Int64} (hk : x_Cv X mX9_keeps [.ref 225] (x_tw I 0, L, R) 233 (.inl none, (I0, L0, R), 233)) (ha0 : I0 226 = a) (h0 : a 0 = 1 ∨ a 0 = 6) {x : Int32} (hx : a 0 + 1 = x) : x_Cv X mX9_open [.ref 225] (I, L, R) 233 (.inl (some (.int (Int32.ofNat (x_cnt (fun q => sp_prob (va_up a 0 x) q Ns = 0) 8)))), (va_up I0 226 (va_up a 0 x), L0, R), 233) := by
  subst ha
  obtain ⟨hNs, hn, hNp, hp, hNl, hl, hNm, hmm⟩ := Z
  show x_Ev X mX9_open 0 [some (.ref 225), none, none] [] ((I, L, R), 233, 0, 0) _
  refine f_aload_n (M := mX9_open) 1 dX9_open_0 rfl rfl ?_
  refine f_aload_n (M := mX9_open) 2 dX9_open_1 rfl rfl ?_
  refine e_cV (M := mX9_open) [_, _] 0 0 dX9_open_2 pa_9190 pb_9190 cc_9190 rfl rfl rfl rfl rfl (x_kk rfl) (x_kk rfl) rfl (c_X9_isBidding hR) rfl ?_
  refine e_if_eqF (M := mX9_open) 12 dX9_open_5 rfl (x_bn h0) ?_
  refine f_iconst (M := mX9_open) 9 dX9_open_8 ki_0 rfl ?_
  refine f_goto (M := mX9_open) 13 dX9_open_9 rfl ?_
  refine e_putI (M := mX9_open) dX9_open_13 fl_9033 (x_kk rfl) (x_kk rfl) rfl (fun q9 => Bool.noConfusion q9) ?_
  refine f_aload_n (M := mX9_open) 17 dX9_open_16 rfl rfl ?_
  refine e_getI (M := mX9_open) dX9_open_17 fl_9033 (x_kk rfl) (x_kk rfl) rfl ?_
  refine e_if_leT (M := mX9_open) 25 dX9_open_20 rfl (show (0 : Int32) ≤ 0 by decide) ?_
  refine f_aload_n (M := mX9_open) 26 dX9_open_25 rfl rfl ?_
  refine e_cV (M := mX9_open) [] 0 0 dX9_open_26 pa_9128 pb_9128 cc_9128 rfl rfl rfl rfl rfl (x_kk rfl) (x_kk rfl) rfl (hk) rfl ?_
  refine f_aload_n (M := mX9_open) 30 dX9_open_29 rfl rfl ?_
  refine e_getR (M := mX9_open) dX9_open_30 fl_9007 (x_kk rfl) (x_kk rfl) rfl (wf_9_0 hR) ?_
  refine f_iconst (M := mX9_open) 34 dX9_open_33 ki_0 rfl ?_
  refine f_dup2 (M := mX9_open) 35 dX9_open_34 rfl rfl rfl ?_
  refine e_ild (M := mX9_open) (w := 606) (j := 0) dX9_open_35 (x_kk rfl) rfl kn_0 (by omega) (by omega) ?_
  refine f_iconst (M := mX9_open) 37 dX9_open_36 ki_1 rfl ?_
  refine f_iadd (M := mX9_open) 38 dX9_open_37 rfl ?_
  refine e_ist (M := mX9_open) (w := 606) (j := 0) dX9_open_38 (x_kk rfl) rfl kn_0 (by omega) (by omega) ?_
  refine f_iconst (M := mX9_open) 40 dX9_open_39 ki_0 rfl ?_
  refine f_istore_n (M := mX9_open) (ls' := [_, _, _]) 41 dX9_open_40 rfl rfl rfl ?_
  refine f_iconst (M := mX9_open) 42 dX9_open_41 ki_0 rfl ?_
  refine f_istore_n (M := mX9_open) (ls' := [_, _, _]) 43 dX9_open_42 rfl rfl rfl ?_
  rw [ha0, hx]; exact l_X9_open (I := va_up I0 226 (va_up (I 226) 0 x)) hR hNs hn 8 0 rfl
theorem sim_open (T : y_T N I L R) : y_OI N X mL_open [.ref 0, .ref 232] mX9_open [.ref 225] I L R := by
  have T0 := T
  obtain ⟨a, b, kn, ks, bf, bn, ep, ⟨β, δ, γ, ν, hB⟩, hM, hI⟩ := T
  have H : y_CS N I L R β a b := ⟨hM.1, hB.1.2.1, hB.1.2.2.2.2.1, hB.2.2.2.2.2.1, hI.1⟩
  obtain ⟨Ns, Np, Nl, Nm, Z⟩ := Z_of hI.1
  have hR := hM.1
  have ha : I 226 = a := hM.2.1
  have hb : L 229 = b := hM.2.2.1
  subst ha
  subst hb
  obtain ⟨hNs, hn, hNp, hp, hNl, hl, hNm, hmm⟩ := id Z
  by_cases h0 : I 226 0 = 1 ∨ I 226 0 = 6
  · skip
    rcases id h0 with h | h
    · obtain ⟨I0, L0, hk, S1, fr, sm⟩ := keep_ok (X := X) hB (h60_of (h_IL H))
      have H1 : y_CS N I0 L0 R β (I 226) (L 229) := ⟨hR, h_β H, h_S H, S1.2.2.2.2.2.1, hI.1⟩
      have hβ := h_β H
      have r2 := Rep_ph (x := 2) (by rw [h]; decide) (by rw [h]; decide) (h60_of (h_IL H)) H1.2.2.2.1
      have i2 := Inv_ph (Nat.le_refl N) (x := 2) (P := 2) (by decide) (by decide) (by decide) (by rw [h]; decide) (by rw [h]; decide) (by decide) hI.1
      have H2 : y_CS N (va_up I0 β (va_up (I0 β) 0 2)) L0 R β (va_up (I 226) 0 2) (L 229) := ⟨hR, h_β H, h_S H, r2, i2⟩
      have k1 := w_open (kx_open_1 H Z hk H1 h0 h H2)
      have out : ∀ cc, (∀ j, j < 22 → ¬ cc = β + j) → (va_up I0 β (va_up (I0 β) 0 2)) cc = I0 cc ∧ L0 cc = L0 cc := fun cc ho => ⟨(x_up_ne _ _ (ho 0 (by decide))), rfl⟩
      have M1 := SM_f (I' := (va_up I0 β (va_up (I0 β) 0 2))) (L' := va_up L0 232 (va_up (L0 232) 0 (Int32.ofNat (x_cnt (fun q => sp_prob (va_up (I 226) 0 2) q Ns = 0) 8)).toInt64)) hM hR (fun cc z1 z2 => ⟨(out cc (fun j hj => sl_far hβ (Or.inr z1) hj)).1.trans (fr cc z1).1, (x_up_ne _ _ (by omega)).trans ((out cc (fun j hj => sl_far hβ (Or.inr z1) hj)).2.trans (fr cc z1).2)⟩)
      obtain ⟨I2, L2, hk9, M2, t6, l25, fr9⟩ := keeps_ok (X := X) (SM_tw (t := 0) M1)
      have m1 := mx_open hR M1.2.1 Z hk9 M2.2.1 h0 (show I 226 0 + 1 = 2 by rw [h]; decide)
      refine OI_c (a' := (va_up (I 226) 0 2)) (b' := (L 229)) k1 ⟨β, δ, γ, _, SB_u S1 out ?_⟩ m1 ?_ (SM_a M2) (fr_t fr_tw (fr_t fr9 fr_a)) (In_p (by omega) hI ?_)
      · exact r2
      · exact t6
      · exact Inv_m (by omega) i2
    · obtain ⟨I0, L0, hk, S1, fr, sm⟩ := keep_ok (X := X) hB (h60_of (h_IL H))
      have H1 : y_CS N I0 L0 R β (I 226) (L 229) := ⟨hR, h_β H, h_S H, S1.2.2.2.2.2.1, hI.1⟩
      have hβ := h_β H
      have r2 := Rep_ph (x := 7) (by rw [h]; decide) (by rw [h]; decide) (h60_of (h_IL H)) H1.2.2.2.1
      have i2 := Inv_ph (Nat.le_refl N) (x := 7) (P := 7) (by decide) (by decide) (by decide) (by rw [h]; decide) (by rw [h]; decide) (by decide) hI.1
      have H2 : y_CS N (va_up I0 β (va_up (I0 β) 0 7)) L0 R β (va_up (I 226) 0 7) (L 229) := ⟨hR, h_β H, h_S H, r2, i2⟩
      have k1 := w_open (kx_open_6 H Z hk H1 h0 h H2)
      have out : ∀ cc, (∀ j, j < 22 → ¬ cc = β + j) → (va_up I0 β (va_up (I0 β) 0 7)) cc = I0 cc ∧ L0 cc = L0 cc := fun cc ho => ⟨(x_up_ne _ _ (ho 0 (by decide))), rfl⟩
      have M1 := SM_f (I' := (va_up I0 β (va_up (I0 β) 0 7))) (L' := va_up L0 232 (va_up (L0 232) 0 (Int32.ofNat (x_cnt (fun q => sp_prob (va_up (I 226) 0 7) q Ns = 0) 8)).toInt64)) hM hR (fun cc z1 z2 => ⟨(out cc (fun j hj => sl_far hβ (Or.inr z1) hj)).1.trans (fr cc z1).1, (x_up_ne _ _ (by omega)).trans ((out cc (fun j hj => sl_far hβ (Or.inr z1) hj)).2.trans (fr cc z1).2)⟩)
      obtain ⟨I2, L2, hk9, M2, t6, l25, fr9⟩ := keeps_ok (X := X) (SM_tw (t := 0) M1)
      have m1 := mx_open hR M1.2.1 Z hk9 M2.2.1 h0 (show I 226 0 + 1 = 7 by rw [h]; decide)
      refine OI_c (a' := (va_up (I 226) 0 7)) (b' := (L 229)) k1 ⟨β, δ, γ, _, SB_u S1 out ?_⟩ m1 ?_ (SM_a M2) (fr_t fr_tw (fr_t fr9 fr_a)) (In_p (by omega) hI ?_)
      · exact r2
      · exact t6
      · exact Inv_m (by omega) i2
  · exact OI_x T0 (by decide) (w_open_x0 (kf_open_0 H Z h0)) (mf_open_0 hR Z h0)
theorem k_isInDefault {N β : Nat} {a : Nat → Int32} {b : Nat → Int64} (H : y_CS N I L R β a b) {Ns Np Nl Nm : Nat} (Z : y_Z a Ns Np Nl Nm) (h3 : 3 ≤ a 0) : x_Cv X mX6_isInDefault [.ref β] (I, L, R) 233 (.inl (some (.int (x_b ((a 15).toInt64 < b 0 ∨ (a 2 ≤ a 13 ∧ 0 < sp_rems a Nl Ns))))), (I, L, R), 233) := by
  obtain ⟨hNs, hn, hNp, hp, hNl, hl, hNm, hmm⟩ := Z
  have hR := h_R H
  have hβ := h_β H
  have hS := h_S H
  show x_Ev X mX6_isInDefault 0 [some (.ref β)] [] ((I, L, R), 233, 0, 0) _
  refine f_aload_n (M := mX6_isInDefault) 1 dX6_isInDefault_0 rfl rfl ?_
  refine e_getR (M := mX6_isInDefault) dX6_isInDefault_1 fl_6035 (x_kk rfl) (sl_lt hβ 0 rfl) (sl_s hβ 0 rfl rfl) (wf_6_4 hR hβ) ?_
  refine e_getL (M := mX6_isInDefault) dX6_isInDefault_4 fl_6143 (x_kk rfl) (sl_lt hβ 12 rfl) (sl_s hβ 12 rfl rfl) ?_
  refine f_aload_n (M := mX6_isInDefault) 8 dX6_isInDefault_7 rfl rfl ?_
  refine e_getR (M := mX6_isInDefault) dX6_isInDefault_8 fl_6035 (x_kk rfl) (sl_lt hβ 0 rfl) (sl_s hβ 0 rfl rfl) (wf_6_4 hR hβ) ?_
  refine e_getI (M := mX6_isInDefault) dX6_isInDefault_11 fl_6111 (x_kk rfl) (sl_lt hβ 12 rfl) (sl_s hβ 12 rfl rfl) ?_
  refine f_i2l (M := mX6_isInDefault) 15 dX6_isInDefault_14 rfl ?_
  rw [(h_K H).2.2.2.2.2.2.2, (h_K H).2.2.2.2.1]
  refine f_lcmp (M := mX6_isInDefault) 16 dX6_isInDefault_15 rfl ?_
  refine e_if_gt (M := mX6_isInDefault) (t := 45) dX6_isInDefault_16 rfl (fun h1 => ?_) (fun h1 => ?_)
  · refine f_iconst (M := mX6_isInDefault) 46 dX6_isInDefault_45 ki_1 rfl ?_
    refine f_goto (M := mX6_isInDefault) 50 dX6_isInDefault_46 rfl ?_
    refine e_rb (M := mX6_isInDefault) dX6_isInDefault_50 rfl (x_kk rfl) (x_kk rfl) (by decide) ?_
    exact r_b1 (Or.inl (lc_gt.mp h1))
  · refine f_aload_n (M := mX6_isInDefault) 20 dX6_isInDefault_19 rfl rfl ?_
    refine e_getR (M := mX6_isInDefault) dX6_isInDefault_20 fl_6035 (x_kk rfl) (sl_lt hβ 0 rfl) (sl_s hβ 0 rfl rfl) (wf_6_4 hR hβ) ?_
    refine e_getI (M := mX6_isInDefault) dX6_isInDefault_23 fl_6133 (x_kk rfl) (sl_lt hβ 12 rfl) (sl_s hβ 12 rfl rfl) ?_
    refine f_aload_n (M := mX6_isInDefault) 27 dX6_isInDefault_26 rfl rfl ?_
    refine e_getR (M := mX6_isInDefault) dX6_isInDefault_27 fl_6012 (x_kk rfl) (sl_lt hβ 0 rfl) (sl_s hβ 0 rfl rfl) (wf_6_1 hR hβ) ?_
    refine e_getR (M := mX6_isInDefault) dX6_isInDefault_30 fl_6084 (x_kk rfl) (sl_lt hβ 1 rfl) (sl_s hβ 1 rfl rfl) (wf_7_1 hR hβ) ?_
    refine f_iconst (M := mX6_isInDefault) 34 dX6_isInDefault_33 ki_1 rfl ?_
    refine e_ild (M := mX6_isInDefault) (w := 7) (j := 1) dX6_isInDefault_34 (sl_lt hβ 2 rfl) (sl_shp hβ 2 rfl) kn_1 (by omega) (by omega) ?_
    rw [(h_K H).2.2.2.2.2.1, (h_T H).2.1 1 (by decide)]
    refine e_icmp_lt (M := mX6_isInDefault) (t := 49) dX6_isInDefault_35 rfl (fun h2 => ?_) (fun h2 => ?_)
    · refine f_iconst (M := mX6_isInDefault) 50 dX6_isInDefault_49 ki_0 rfl ?_
      refine e_rb (M := mX6_isInDefault) dX6_isInDefault_50 rfl (x_kk rfl) (x_kk rfl) (by decide) ?_
      exact r_b0 (fun z => z.elim (fun y => h1 (lc_gt.mpr y)) (fun y => absurd y.1 (i_nle.mpr h2)))
    · refine f_aload_n (M := mX6_isInDefault) 39 dX6_isInDefault_38 rfl rfl ?_
      refine e_cV (M := mX6_isInDefault) [_] 0 0 dX6_isInDefault_39 pa_6158 pb_6158 cc_6158 rfl rfl rfl rfl rfl (x_kk rfl) (x_kk rfl) (x_rcvOK (sl_lt hβ 0 rfl) (sl_s hβ 0 rfl rfl) rfl) (k_remainingSum H hNl hl hNs hn h3) rfl ?_
      refine e_if_le (M := mX6_isInDefault) (t := 49) dX6_isInDefault_42 rfl (fun h4 => ?_) (fun h4 => ?_)
      · refine f_iconst (M := mX6_isInDefault) 50 dX6_isInDefault_49 ki_0 rfl ?_
        refine e_rb (M := mX6_isInDefault) dX6_isInDefault_50 rfl (x_kk rfl) (x_kk rfl) (by decide) ?_
        exact r_b0 (fun z => z.elim (fun y => h1 (lc_gt.mpr y)) (fun y => absurd y.2 (i_nlt.mpr h4)))
      · refine f_iconst (M := mX6_isInDefault) 46 dX6_isInDefault_45 ki_1 rfl ?_
        refine f_goto (M := mX6_isInDefault) 50 dX6_isInDefault_46 rfl ?_
        refine e_rb (M := mX6_isInDefault) dX6_isInDefault_50 rfl (x_kk rfl) (x_kk rfl) (by decide) ?_
        exact r_b1 (Or.inr ⟨i_nlt.mp h2, i_nle.mp h4⟩)
theorem kf_declareDefault_0 {N β : Nat} {a : Nat → Int32} {b : Nat → Int64} (H : y_CS N I L R β a b) {Ns Np Nl Nm : Nat} (Z : y_Z a Ns Np Nl Nm)  (h0 : ¬ a 0 = 3) : x_Cv X mX8_declareDefault [.ref 0] (I, L, R) 233 (.inr 0, (I, L, R), 233) := by
  have Z0 := Z
  obtain ⟨hNs, hn, hNp, hp, hNl, hl, hNm, hmm⟩ := Z
  have hR := h_R H
  have hβ := h_β H
  have hS := h_S H
  show x_Ev X mX8_declareDefault 0 [some (.ref 0)] [] ((I, L, R), 233, 0, 0) _
  refine f_aload_n (M := mX8_declareDefault) 1 dX8_declareDefault_0 rfl rfl ?_
  refine e_getR (M := mX8_declareDefault) dX8_declareDefault_1 fl_8026 (x_kk rfl) (x_kk rfl) rfl hS ?_
  refine e_getI (M := mX8_declareDefault) dX8_declareDefault_4 fl_8067 (x_kk rfl) (sl_lt hβ 0 rfl) (sl_s hβ 0 rfl rfl) ?_
  refine f_iconst (M := mX8_declareDefault) 8 dX8_declareDefault_7 ki_3 rfl ?_
  refine e_icmp_neT (M := mX8_declareDefault) 25 dX8_declareDefault_8 rfl (fun z => h0 ((h_ph H).symm.trans z)) ?_
  refine f_iconst (M := mX8_declareDefault) 26 dX8_declareDefault_25 ki_0 rfl ?_
  exact e_cSX (M := mX8_declareDefault) 1 6 dX8_declareDefault_26 pa_8037 cc_8037 rfl rfl rfl rfl rfl (x_kk rfl) (x_kk rfl) rfl (c_X8_requireState_x rfl) rfl
theorem kf_declareDefault_1 {N β : Nat} {a : Nat → Int32} {b : Nat → Int64} (H : y_CS N I L R β a b) {Ns Np Nl Nm : Nat} (Z : y_Z a Ns Np Nl Nm)  (h0 : a 0 = 3) (h1 : ¬ ((a 15).toInt64 < b 0 ∨ (a 2 ≤ a 13 ∧ 0 < sp_rems a Nl Ns))) : x_Cv X mX8_declareDefault [.ref 0] (I, L, R) 233 (.inr 0, (I, L, R), 233) := by
  have Z0 := Z
  obtain ⟨hNs, hn, hNp, hp, hNl, hl, hNm, hmm⟩ := Z
  have hR := h_R H
  have hβ := h_β H
  have hS := h_S H
  show x_Ev X mX8_declareDefault 0 [some (.ref 0)] [] ((I, L, R), 233, 0, 0) _
  refine f_aload_n (M := mX8_declareDefault) 1 dX8_declareDefault_0 rfl rfl ?_
  refine e_getR (M := mX8_declareDefault) dX8_declareDefault_1 fl_8026 (x_kk rfl) (x_kk rfl) rfl hS ?_
  refine e_getI (M := mX8_declareDefault) dX8_declareDefault_4 fl_8067 (x_kk rfl) (sl_lt hβ 0 rfl) (sl_s hβ 0 rfl rfl) ?_
  refine f_iconst (M := mX8_declareDefault) 8 dX8_declareDefault_7 ki_3 rfl ?_
  refine e_icmp_neF (M := mX8_declareDefault) 25 dX8_declareDefault_8 rfl (fun z => z ((h_ph H).trans h0)) ?_
  refine f_aload_n (M := mX8_declareDefault) 12 dX8_declareDefault_11 rfl rfl ?_
  refine e_getR (M := mX8_declareDefault) dX8_declareDefault_12 fl_8026 (x_kk rfl) (x_kk rfl) rfl hS ?_
  refine e_cV (M := mX8_declareDefault) [_] 0 0 dX8_declareDefault_15 pa_8319 pb_8319 cc_8319 rfl rfl rfl rfl rfl (x_kk rfl) (x_kk rfl) (x_rcvOK (sl_lt hβ 0 rfl) (sl_s hβ 0 rfl rfl) rfl) (k_isInDefault H Z0 (by rw [h0]; decide)) rfl ?_
  refine e_if_eqT (M := mX8_declareDefault) 25 dX8_declareDefault_18 rfl (x_b0 h1) ?_
  refine f_iconst (M := mX8_declareDefault) 26 dX8_declareDefault_25 ki_0 rfl ?_
  exact e_cSX (M := mX8_declareDefault) 1 6 dX8_declareDefault_26 pa_8037 cc_8037 rfl rfl rfl rfl rfl (x_kk rfl) (x_kk rfl) rfl (c_X8_requireState_x rfl) rfl
theorem kx_declareDefault {N β : Nat} {a : Nat → Int32} {b : Nat → Int64} (H : y_CS N I L R β a b) {Ns Np Nl Nm : Nat} (Z : y_Z a Ns Np Nl Nm) {I0 : Nat → Nat → Int32} {L0 : Nat → Nat → Int64} (hk : x_Cv X mX3_keep [.ref 3, .ref β] (I, L, R) 233 (.inl none, (I0, L0, R), 233)) (H1 : y_CS N I0 L0 R β a b) (h0 : a 0 = 3) (h1 : (a 15).toInt64 < b 0 ∨ (a 2 ≤ a 13 ∧ 0 < sp_rems a Nl Ns)) (H2 : y_CS N (va_up I0 β (va_up (I0 β) 0 5)) L0 R β (va_up a 0 5) b) : x_Cv X mX8_declareDefault [.ref 0] (I, L, R) 233 (.inl (some (.int (sp_rems (va_up a 0 5) Nl Ns))), ((va_up I0 β (va_up (I0 β) 0 5)), L0, R), 233) := by
  have Z0 := Z
  obtain ⟨hNs, hn, hNp, hp, hNl, hl, hNm, hmm⟩ := Z
  have hR := h_R H
  have hβ := h_β H
  have hS := h_S H
  show x_Ev X mX8_declareDefault 0 [some (.ref 0)] [] ((I, L, R), 233, 0, 0) _
  refine f_aload_n (M := mX8_declareDefault) 1 dX8_declareDefault_0 rfl rfl ?_
  refine e_getR (M := mX8_declareDefault) dX8_declareDefault_1 fl_8026 (x_kk rfl) (x_kk rfl) rfl hS ?_
  refine e_getI (M := mX8_declareDefault) dX8_declareDefault_4 fl_8067 (x_kk rfl) (sl_lt hβ 0 rfl) (sl_s hβ 0 rfl rfl) ?_
  refine f_iconst (M := mX8_declareDefault) 8 dX8_declareDefault_7 ki_3 rfl ?_
  refine e_icmp_neF (M := mX8_declareDefault) 25 dX8_declareDefault_8 rfl (fun z => z ((h_ph H).trans h0)) ?_
  refine f_aload_n (M := mX8_declareDefault) 12 dX8_declareDefault_11 rfl rfl ?_
  refine e_getR (M := mX8_declareDefault) dX8_declareDefault_12 fl_8026 (x_kk rfl) (x_kk rfl) rfl hS ?_
  refine e_cV (M := mX8_declareDefault) [_] 0 0 dX8_declareDefault_15 pa_8319 pb_8319 cc_8319 rfl rfl rfl rfl rfl (x_kk rfl) (x_kk rfl) (x_rcvOK (sl_lt hβ 0 rfl) (sl_s hβ 0 rfl rfl) rfl) (k_isInDefault H Z0 (by rw [h0]; decide)) rfl ?_
  refine e_if_eqF (M := mX8_declareDefault) 25 dX8_declareDefault_18 rfl (x_bn h1) ?_
  refine f_iconst (M := mX8_declareDefault) 22 dX8_declareDefault_21 ki_1 rfl ?_
  refine f_goto (M := mX8_declareDefault) 26 dX8_declareDefault_22 rfl ?_
  refine e_cS (M := mX8_declareDefault) [] 1 6 dX8_declareDefault_26 pa_8037 cc_8037 rfl rfl rfl rfl rfl (x_kk rfl) (x_kk rfl) rfl (c_X8_requireState (by decide)) rfl ?_
  refine f_aload_n (M := mX8_declareDefault) 30 dX8_declareDefault_29 rfl rfl ?_
  refine e_getR (M := mX8_declareDefault) dX8_declareDefault_30 fl_8019 (x_kk rfl) (x_kk rfl) rfl (wf_8_1 hR) ?_
  refine f_aload_n (M := mX8_declareDefault) 34 dX8_declareDefault_33 rfl rfl ?_
  refine e_getR (M := mX8_declareDefault) dX8_declareDefault_34 fl_8026 (x_kk rfl) (x_kk rfl) rfl hS ?_
  refine e_cV (M := mX8_declareDefault) [] 1 6 dX8_declareDefault_37 pa_8060 pb_8060 cc_8060 rfl rfl rfl rfl rfl (x_kk rfl) (x_kk rfl) rfl (hk) rfl ?_
  refine f_aload_n (M := mX8_declareDefault) 41 dX8_declareDefault_40 rfl rfl ?_
  refine e_getR (M := mX8_declareDefault) dX8_declareDefault_41 fl_8026 (x_kk rfl) (x_kk rfl) rfl hS ?_
  refine f_iconst (M := mX8_declareDefault) 45 dX8_declareDefault_44 ki_5 rfl ?_
  refine e_putI (M := mX8_declareDefault) dX8_declareDefault_45 fl_8067 (x_kk rfl) (sl_lt hβ 0 rfl) (sl_s hβ 0 rfl rfl) (fun q9 => Bool.noConfusion q9) ?_
  refine f_aload_n (M := mX8_declareDefault) 49 dX8_declareDefault_48 rfl rfl ?_
  refine e_getR (M := mX8_declareDefault) dX8_declareDefault_49 fl_8026 (x_kk rfl) (x_kk rfl) rfl hS ?_
  refine e_cV (M := mX8_declareDefault) [_] 1 6 dX8_declareDefault_52 pa_8322 pb_8322 cc_8322 rfl rfl rfl rfl rfl (x_kk rfl) (x_kk rfl) (x_rcvOK (sl_lt hβ 0 rfl) (sl_s hβ 0 rfl rfl) rfl) (k_remainingSum H2 hNl hl hNs hn (show (3 : Int32) ≤ 5 by decide)) rfl ?_
  refine e_ri (M := mX8_declareDefault) dX8_declareDefault_55 rfl (x_kk rfl) (x_kk rfl) ?_
  rfl
theorem mf_declareDefault_0 (hR : x_wf R) {Ns Np Nl Nm : Nat} (Z : y_Z (I 226) Ns Np Nl Nm) (h0 : ¬ I 226 0 = 3) : x_Cv X mX9_declareDefault [.ref 225] (I, L, R) 233 (.inl (some (.int (0))), (x_tw I 1, L, R), 233) := by
  obtain ⟨hNs, hn, hNp, hp, hNl, hl, hNm, hmm⟩ := Z
  show x_Ev X mX9_declareDefault 0 [some (.ref 225), none] [] ((I, L, R), 233, 0, 0) _
  refine f_aload_n (M := mX9_declareDefault) 1 dX9_declareDefault_0 rfl rfl ?_
  refine e_getR (M := mX9_declareDefault) dX9_declareDefault_1 fl_9007 (x_kk rfl) (x_kk rfl) rfl (wf_9_0 hR) ?_
  refine f_iconst (M := mX9_declareDefault) 5 dX9_declareDefault_4 ki_0 rfl ?_
  refine e_ild (M := mX9_declareDefault) (w := 606) (j := 0) dX9_declareDefault_5 (x_kk rfl) rfl kn_0 (by omega) (by omega) ?_
  refine f_iconst (M := mX9_declareDefault) 7 dX9_declareDefault_6 ki_3 rfl ?_
  refine e_icmp_neT (M := mX9_declareDefault) 55 dX9_declareDefault_7 rfl h0 ?_
  refine f_iconst (M := mX9_declareDefault) 56 dX9_declareDefault_55 ki_0 rfl ?_
  refine f_istore_n (M := mX9_declareDefault) (ls' := [_, _]) 57 dX9_declareDefault_56 rfl rfl rfl ?_
  refine f_aload_n (M := mX9_declareDefault) 58 dX9_declareDefault_57 rfl rfl ?_
  refine f_iload_n (M := mX9_declareDefault) 59 dX9_declareDefault_58 rfl rfl ?_
  refine e_if_eqT (M := mX9_declareDefault) 66 dX9_declareDefault_59 rfl (show (0 : Int32) = 0 by decide) ?_
  refine f_iconst (M := mX9_declareDefault) 67 dX9_declareDefault_66 ki_1 rfl ?_
  refine e_putI (M := mX9_declareDefault) dX9_declareDefault_67 fl_9033 (x_kk rfl) (x_kk rfl) rfl (fun q9 => Bool.noConfusion q9) ?_
  refine f_aload_n (M := mX9_declareDefault) 71 dX9_declareDefault_70 rfl rfl ?_
  refine e_getI (M := mX9_declareDefault) dX9_declareDefault_71 fl_9033 (x_kk rfl) (x_kk rfl) rfl ?_
  refine e_if_leF (M := mX9_declareDefault) 79 dX9_declareDefault_74 rfl (show ¬ ((1 : Int32) ≤ 0) by decide) ?_
  refine f_iconst (M := mX9_declareDefault) 78 dX9_declareDefault_77 ki_0 rfl ?_
  refine e_ri (M := mX9_declareDefault) dX9_declareDefault_78 rfl (x_kk rfl) (x_kk rfl) ?_
  rfl
theorem mf_declareDefault_1 (hR : x_wf R) {Ns Np Nl Nm : Nat} (Z : y_Z (I 226) Ns Np Nl Nm) (h0 : I 226 0 = 3) (h1 : ¬ ((I 226 15).toInt64 < L 229 0 ∨ (I 226 2 ≤ I 226 13 ∧ 0 < sp_rems (I 226) Nl Ns))) : x_Cv X mX9_declareDefault [.ref 225] (I, L, R) 233 (.inl (some (.int (0))), (x_tw I 1, L, R), 233) := by
  obtain ⟨hNs, hn, hNp, hp, hNl, hl, hNm, hmm⟩ := Z
  show x_Ev X mX9_declareDefault 0 [some (.ref 225), none] [] ((I, L, R), 233, 0, 0) _
  by_cases h2 : I 226 2 ≤ I 226 13
  · refine f_aload_n (M := mX9_declareDefault) 1 dX9_declareDefault_0 rfl rfl ?_
    refine e_getR (M := mX9_declareDefault) dX9_declareDefault_1 fl_9007 (x_kk rfl) (x_kk rfl) rfl (wf_9_0 hR) ?_
    refine f_iconst (M := mX9_declareDefault) 5 dX9_declareDefault_4 ki_0 rfl ?_
    refine e_ild (M := mX9_declareDefault) (w := 606) (j := 0) dX9_declareDefault_5 (x_kk rfl) rfl kn_0 (by omega) (by omega) ?_
    refine f_iconst (M := mX9_declareDefault) 7 dX9_declareDefault_6 ki_3 rfl ?_
    refine e_icmp_neF (M := mX9_declareDefault) 55 dX9_declareDefault_7 rfl (fun z => z h0) ?_
    refine f_aload_n (M := mX9_declareDefault) 11 dX9_declareDefault_10 rfl rfl ?_
    refine e_getR (M := mX9_declareDefault) dX9_declareDefault_11 fl_9019 (x_kk rfl) (x_kk rfl) rfl (wf_9_3 hR) ?_
    refine f_iconst (M := mX9_declareDefault) 15 dX9_declareDefault_14 ki_0 rfl ?_
    refine e_lld (M := mX9_declareDefault) (w := 37) (j := 0) dX9_declareDefault_15 (x_kk rfl) rfl kn_0 (by omega) (by omega) ?_
    refine f_aload_n (M := mX9_declareDefault) 17 dX9_declareDefault_16 rfl rfl ?_
    refine e_getR (M := mX9_declareDefault) dX9_declareDefault_17 fl_9007 (x_kk rfl) (x_kk rfl) rfl (wf_9_0 hR) ?_
    refine f_bipush (M := mX9_declareDefault) 22 dX9_declareDefault_20 kb_15 rfl ?_
    refine e_ild (M := mX9_declareDefault) (w := 606) (j := 15) dX9_declareDefault_22 (x_kk rfl) rfl kn_15 (by omega) (by omega) ?_
    refine f_i2l (M := mX9_declareDefault) 24 dX9_declareDefault_23 rfl ?_
    refine f_lcmp (M := mX9_declareDefault) 25 dX9_declareDefault_24 rfl ?_
    refine e_if_gtF (M := mX9_declareDefault) 51 dX9_declareDefault_25 rfl (fun z => h1 (Or.inl (lc_gt.mp z))) ?_
    refine f_aload_n (M := mX9_declareDefault) 29 dX9_declareDefault_28 rfl rfl ?_
    refine e_getR (M := mX9_declareDefault) dX9_declareDefault_29 fl_9007 (x_kk rfl) (x_kk rfl) rfl (wf_9_0 hR) ?_
    refine f_bipush (M := mX9_declareDefault) 34 dX9_declareDefault_32 kb_13 rfl ?_
    refine e_ild (M := mX9_declareDefault) (w := 606) (j := 13) dX9_declareDefault_34 (x_kk rfl) rfl kn_13 (by omega) (by omega) ?_
    refine f_aload_n (M := mX9_declareDefault) 36 dX9_declareDefault_35 rfl rfl ?_
    refine e_getR (M := mX9_declareDefault) dX9_declareDefault_36 fl_9007 (x_kk rfl) (x_kk rfl) rfl (wf_9_0 hR) ?_
    refine f_iconst (M := mX9_declareDefault) 40 dX9_declareDefault_39 ki_2 rfl ?_
    refine e_ild (M := mX9_declareDefault) (w := 606) (j := 2) dX9_declareDefault_40 (x_kk rfl) rfl kn_2 (by omega) (by omega) ?_
    refine e_icmp_ltF (M := mX9_declareDefault) 55 dX9_declareDefault_41 rfl (i_nlt.mpr h2) ?_
    refine f_aload_n (M := mX9_declareDefault) 45 dX9_declareDefault_44 rfl rfl ?_
    refine e_cV (M := mX9_declareDefault) [_] 0 0 dX9_declareDefault_45 pa_9292 pb_9292 cc_9292 rfl rfl rfl rfl rfl (x_kk rfl) (x_kk rfl) rfl (c_X9_remainsInAll hR hNl hl hNs hn) rfl ?_
    refine e_if_leT (M := mX9_declareDefault) 55 dX9_declareDefault_48 rfl (i_nlt.mp (fun z => h1 (Or.inr ⟨h2, z⟩))) ?_
    refine f_iconst (M := mX9_declareDefault) 56 dX9_declareDefault_55 ki_0 rfl ?_
    refine f_istore_n (M := mX9_declareDefault) (ls' := [_, _]) 57 dX9_declareDefault_56 rfl rfl rfl ?_
    refine f_aload_n (M := mX9_declareDefault) 58 dX9_declareDefault_57 rfl rfl ?_
    refine f_iload_n (M := mX9_declareDefault) 59 dX9_declareDefault_58 rfl rfl ?_
    refine e_if_eqT (M := mX9_declareDefault) 66 dX9_declareDefault_59 rfl (show (0 : Int32) = 0 by decide) ?_
    refine f_iconst (M := mX9_declareDefault) 67 dX9_declareDefault_66 ki_1 rfl ?_
    refine e_putI (M := mX9_declareDefault) dX9_declareDefault_67 fl_9033 (x_kk rfl) (x_kk rfl) rfl (fun q9 => Bool.noConfusion q9) ?_
    refine f_aload_n (M := mX9_declareDefault) 71 dX9_declareDefault_70 rfl rfl ?_
    refine e_getI (M := mX9_declareDefault) dX9_declareDefault_71 fl_9033 (x_kk rfl) (x_kk rfl) rfl ?_
    refine e_if_leF (M := mX9_declareDefault) 79 dX9_declareDefault_74 rfl (show ¬ ((1 : Int32) ≤ 0) by decide) ?_
    refine f_iconst (M := mX9_declareDefault) 78 dX9_declareDefault_77 ki_0 rfl ?_
    refine e_ri (M := mX9_declareDefault) dX9_declareDefault_78 rfl (x_kk rfl) (x_kk rfl) ?_
    rfl
  · refine f_aload_n (M := mX9_declareDefault) 1 dX9_declareDefault_0 rfl rfl ?_
    refine e_getR (M := mX9_declareDefault) dX9_declareDefault_1 fl_9007 (x_kk rfl) (x_kk rfl) rfl (wf_9_0 hR) ?_
    refine f_iconst (M := mX9_declareDefault) 5 dX9_declareDefault_4 ki_0 rfl ?_
    refine e_ild (M := mX9_declareDefault) (w := 606) (j := 0) dX9_declareDefault_5 (x_kk rfl) rfl kn_0 (by omega) (by omega) ?_
    refine f_iconst (M := mX9_declareDefault) 7 dX9_declareDefault_6 ki_3 rfl ?_
    refine e_icmp_neF (M := mX9_declareDefault) 55 dX9_declareDefault_7 rfl (fun z => z h0) ?_
    refine f_aload_n (M := mX9_declareDefault) 11 dX9_declareDefault_10 rfl rfl ?_
    refine e_getR (M := mX9_declareDefault) dX9_declareDefault_11 fl_9019 (x_kk rfl) (x_kk rfl) rfl (wf_9_3 hR) ?_
    refine f_iconst (M := mX9_declareDefault) 15 dX9_declareDefault_14 ki_0 rfl ?_
    refine e_lld (M := mX9_declareDefault) (w := 37) (j := 0) dX9_declareDefault_15 (x_kk rfl) rfl kn_0 (by omega) (by omega) ?_
    refine f_aload_n (M := mX9_declareDefault) 17 dX9_declareDefault_16 rfl rfl ?_
    refine e_getR (M := mX9_declareDefault) dX9_declareDefault_17 fl_9007 (x_kk rfl) (x_kk rfl) rfl (wf_9_0 hR) ?_
    refine f_bipush (M := mX9_declareDefault) 22 dX9_declareDefault_20 kb_15 rfl ?_
    refine e_ild (M := mX9_declareDefault) (w := 606) (j := 15) dX9_declareDefault_22 (x_kk rfl) rfl kn_15 (by omega) (by omega) ?_
    refine f_i2l (M := mX9_declareDefault) 24 dX9_declareDefault_23 rfl ?_
    refine f_lcmp (M := mX9_declareDefault) 25 dX9_declareDefault_24 rfl ?_
    refine e_if_gtF (M := mX9_declareDefault) 51 dX9_declareDefault_25 rfl (fun z => h1 (Or.inl (lc_gt.mp z))) ?_
    refine f_aload_n (M := mX9_declareDefault) 29 dX9_declareDefault_28 rfl rfl ?_
    refine e_getR (M := mX9_declareDefault) dX9_declareDefault_29 fl_9007 (x_kk rfl) (x_kk rfl) rfl (wf_9_0 hR) ?_
    refine f_bipush (M := mX9_declareDefault) 34 dX9_declareDefault_32 kb_13 rfl ?_
    refine e_ild (M := mX9_declareDefault) (w := 606) (j := 13) dX9_declareDefault_34 (x_kk rfl) rfl kn_13 (by omega) (by omega) ?_
    refine f_aload_n (M := mX9_declareDefault) 36 dX9_declareDefault_35 rfl rfl ?_
    refine e_getR (M := mX9_declareDefault) dX9_declareDefault_36 fl_9007 (x_kk rfl) (x_kk rfl) rfl (wf_9_0 hR) ?_
    refine f_iconst (M := mX9_declareDefault) 40 dX9_declareDefault_39 ki_2 rfl ?_
    refine e_ild (M := mX9_declareDefault) (w := 606) (j := 2) dX9_declareDefault_40 (x_kk rfl) rfl kn_2 (by omega) (by omega) ?_
    refine e_icmp_ltT (M := mX9_declareDefault) 55 dX9_declareDefault_41 rfl (i_nle.mp h2) ?_
    refine f_iconst (M := mX9_declareDefault) 56 dX9_declareDefault_55 ki_0 rfl ?_
    refine f_istore_n (M := mX9_declareDefault) (ls' := [_, _]) 57 dX9_declareDefault_56 rfl rfl rfl ?_
    refine f_aload_n (M := mX9_declareDefault) 58 dX9_declareDefault_57 rfl rfl ?_
    refine f_iload_n (M := mX9_declareDefault) 59 dX9_declareDefault_58 rfl rfl ?_
    refine e_if_eqT (M := mX9_declareDefault) 66 dX9_declareDefault_59 rfl (show (0 : Int32) = 0 by decide) ?_
    refine f_iconst (M := mX9_declareDefault) 67 dX9_declareDefault_66 ki_1 rfl ?_
    refine e_putI (M := mX9_declareDefault) dX9_declareDefault_67 fl_9033 (x_kk rfl) (x_kk rfl) rfl (fun q9 => Bool.noConfusion q9) ?_
    refine f_aload_n (M := mX9_declareDefault) 71 dX9_declareDefault_70 rfl rfl ?_
    refine e_getI (M := mX9_declareDefault) dX9_declareDefault_71 fl_9033 (x_kk rfl) (x_kk rfl) rfl ?_
    refine e_if_leF (M := mX9_declareDefault) 79 dX9_declareDefault_74 rfl (show ¬ ((1 : Int32) ≤ 0) by decide) ?_
    refine f_iconst (M := mX9_declareDefault) 78 dX9_declareDefault_77 ki_0 rfl ?_
    refine e_ri (M := mX9_declareDefault) dX9_declareDefault_78 rfl (x_kk rfl) (x_kk rfl) ?_
    rfl
theorem mx_declareDefault (hR : x_wf R) {a : Nat → Int32} (ha : I 226 = a) {Ns Np Nl Nm : Nat} (Z : y_Z a Ns Np Nl Nm) {I0 : Nat → Nat → Int32} {L0 : Nat → Nat → Int64} (hk : x_Cv X mX9_keeps [.ref 225] (x_tw I 0, L, R) 233 (.inl none, (I0, L0, R), 233)) (ha0 : I0 226 = a) (h0 : a 0 = 3) {b : Nat → Int64} (hb : L 229 = b) (h1 : (a 15).toInt64 < b 0 ∨ (a 2 ≤ a 13 ∧ 0 < sp_rems a Nl Ns)) : x_Cv X mX9_declareDefault [.ref 225] (I, L, R) 233 (.inl (some (.int (sp_rems (va_up a 0 5) Nl Ns))), (va_up I0 226 (va_up a 0 5), L0, R), 233) := by
  subst ha
  subst hb
  obtain ⟨hNs, hn, hNp, hp, hNl, hl, hNm, hmm⟩ := Z
  show x_Ev X mX9_declareDefault 0 [some (.ref 225), none] [] ((I, L, R), 233, 0, 0) _
  have e5 : va_up I0 226 (va_up (I0 226) 0 5) = va_up I0 226 (va_up (I 226) 0 5) := by rw [ha0]
  by_cases h2 : (I 226 15).toInt64 < L 229 0
  · refine f_aload_n (M := mX9_declareDefault) 1 dX9_declareDefault_0 rfl rfl ?_
    refine e_getR (M := mX9_declareDefault) dX9_declareDefault_1 fl_9007 (x_kk rfl) (x_kk rfl) rfl (wf_9_0 hR) ?_
    refine f_iconst (M := mX9_declareDefault) 5 dX9_declareDefault_4 ki_0 rfl ?_
    refine e_ild (M := mX9_declareDefault) (w := 606) (j := 0) dX9_declareDefault_5 (x_kk rfl) rfl kn_0 (by omega) (by omega) ?_
    refine f_iconst (M := mX9_declareDefault) 7 dX9_declareDefault_6 ki_3 rfl ?_
    refine e_icmp_neF (M := mX9_declareDefault) 55 dX9_declareDefault_7 rfl (fun z => z h0) ?_
    refine f_aload_n (M := mX9_declareDefault) 11 dX9_declareDefault_10 rfl rfl ?_
    refine e_getR (M := mX9_declareDefault) dX9_declareDefault_11 fl_9019 (x_kk rfl) (x_kk rfl) rfl (wf_9_3 hR) ?_
    refine f_iconst (M := mX9_declareDefault) 15 dX9_declareDefault_14 ki_0 rfl ?_
    refine e_lld (M := mX9_declareDefault) (w := 37) (j := 0) dX9_declareDefault_15 (x_kk rfl) rfl kn_0 (by omega) (by omega) ?_
    refine f_aload_n (M := mX9_declareDefault) 17 dX9_declareDefault_16 rfl rfl ?_
    refine e_getR (M := mX9_declareDefault) dX9_declareDefault_17 fl_9007 (x_kk rfl) (x_kk rfl) rfl (wf_9_0 hR) ?_
    refine f_bipush (M := mX9_declareDefault) 22 dX9_declareDefault_20 kb_15 rfl ?_
    refine e_ild (M := mX9_declareDefault) (w := 606) (j := 15) dX9_declareDefault_22 (x_kk rfl) rfl kn_15 (by omega) (by omega) ?_
    refine f_i2l (M := mX9_declareDefault) 24 dX9_declareDefault_23 rfl ?_
    refine f_lcmp (M := mX9_declareDefault) 25 dX9_declareDefault_24 rfl ?_
    refine e_if_gtT (M := mX9_declareDefault) 51 dX9_declareDefault_25 rfl (lc_gt.mpr h2) ?_
    refine f_iconst (M := mX9_declareDefault) 52 dX9_declareDefault_51 ki_1 rfl ?_
    refine f_goto (M := mX9_declareDefault) 56 dX9_declareDefault_52 rfl ?_
    refine f_istore_n (M := mX9_declareDefault) (ls' := [_, _]) 57 dX9_declareDefault_56 rfl rfl rfl ?_
    refine f_aload_n (M := mX9_declareDefault) 58 dX9_declareDefault_57 rfl rfl ?_
    refine f_iload_n (M := mX9_declareDefault) 59 dX9_declareDefault_58 rfl rfl ?_
    refine e_if_eqF (M := mX9_declareDefault) 66 dX9_declareDefault_59 rfl (show ¬ ((1 : Int32) = 0) by decide) ?_
    refine f_iconst (M := mX9_declareDefault) 63 dX9_declareDefault_62 ki_0 rfl ?_
    refine f_goto (M := mX9_declareDefault) 67 dX9_declareDefault_63 rfl ?_
    refine e_putI (M := mX9_declareDefault) dX9_declareDefault_67 fl_9033 (x_kk rfl) (x_kk rfl) rfl (fun q9 => Bool.noConfusion q9) ?_
    refine f_aload_n (M := mX9_declareDefault) 71 dX9_declareDefault_70 rfl rfl ?_
    refine e_getI (M := mX9_declareDefault) dX9_declareDefault_71 fl_9033 (x_kk rfl) (x_kk rfl) rfl ?_
    refine e_if_leT (M := mX9_declareDefault) 79 dX9_declareDefault_74 rfl (show (0 : Int32) ≤ 0 by decide) ?_
    refine f_aload_n (M := mX9_declareDefault) 80 dX9_declareDefault_79 rfl rfl ?_
    refine e_cV (M := mX9_declareDefault) [] 0 0 dX9_declareDefault_80 pa_9128 pb_9128 cc_9128 rfl rfl rfl rfl rfl (x_kk rfl) (x_kk rfl) rfl (hk) rfl ?_
    refine f_aload_n (M := mX9_declareDefault) 84 dX9_declareDefault_83 rfl rfl ?_
    refine e_getR (M := mX9_declareDefault) dX9_declareDefault_84 fl_9007 (x_kk rfl) (x_kk rfl) rfl (wf_9_0 hR) ?_
    refine f_iconst (M := mX9_declareDefault) 88 dX9_declareDefault_87 ki_0 rfl ?_
    refine f_iconst (M := mX9_declareDefault) 89 dX9_declareDefault_88 ki_5 rfl ?_
    refine e_ist (M := mX9_declareDefault) (w := 606) (j := 0) dX9_declareDefault_89 (x_kk rfl) rfl kn_0 (by omega) (by omega) ?_
    rw [e5]
    refine f_aload_n (M := mX9_declareDefault) 91 dX9_declareDefault_90 rfl rfl ?_
    refine e_cV (M := mX9_declareDefault) [_] 0 0 dX9_declareDefault_91 pa_9292 pb_9292 cc_9292 rfl rfl rfl rfl rfl (x_kk rfl) (x_kk rfl) rfl (c_X9_remainsInAll (I := va_up I0 226 (va_up (I 226) 0 5)) hR hNl hl hNs hn) rfl ?_
    refine e_ri (M := mX9_declareDefault) dX9_declareDefault_94 rfl (x_kk rfl) (x_kk rfl) ?_
    rfl
  · have h3 := h1.elim (fun z => absurd z h2) id
    refine f_aload_n (M := mX9_declareDefault) 1 dX9_declareDefault_0 rfl rfl ?_
    refine e_getR (M := mX9_declareDefault) dX9_declareDefault_1 fl_9007 (x_kk rfl) (x_kk rfl) rfl (wf_9_0 hR) ?_
    refine f_iconst (M := mX9_declareDefault) 5 dX9_declareDefault_4 ki_0 rfl ?_
    refine e_ild (M := mX9_declareDefault) (w := 606) (j := 0) dX9_declareDefault_5 (x_kk rfl) rfl kn_0 (by omega) (by omega) ?_
    refine f_iconst (M := mX9_declareDefault) 7 dX9_declareDefault_6 ki_3 rfl ?_
    refine e_icmp_neF (M := mX9_declareDefault) 55 dX9_declareDefault_7 rfl (fun z => z h0) ?_
    refine f_aload_n (M := mX9_declareDefault) 11 dX9_declareDefault_10 rfl rfl ?_
    refine e_getR (M := mX9_declareDefault) dX9_declareDefault_11 fl_9019 (x_kk rfl) (x_kk rfl) rfl (wf_9_3 hR) ?_
    refine f_iconst (M := mX9_declareDefault) 15 dX9_declareDefault_14 ki_0 rfl ?_
    refine e_lld (M := mX9_declareDefault) (w := 37) (j := 0) dX9_declareDefault_15 (x_kk rfl) rfl kn_0 (by omega) (by omega) ?_
    refine f_aload_n (M := mX9_declareDefault) 17 dX9_declareDefault_16 rfl rfl ?_
    refine e_getR (M := mX9_declareDefault) dX9_declareDefault_17 fl_9007 (x_kk rfl) (x_kk rfl) rfl (wf_9_0 hR) ?_
    refine f_bipush (M := mX9_declareDefault) 22 dX9_declareDefault_20 kb_15 rfl ?_
    refine e_ild (M := mX9_declareDefault) (w := 606) (j := 15) dX9_declareDefault_22 (x_kk rfl) rfl kn_15 (by omega) (by omega) ?_
    refine f_i2l (M := mX9_declareDefault) 24 dX9_declareDefault_23 rfl ?_
    refine f_lcmp (M := mX9_declareDefault) 25 dX9_declareDefault_24 rfl ?_
    refine e_if_gtF (M := mX9_declareDefault) 51 dX9_declareDefault_25 rfl (fun z => h2 (lc_gt.mp z)) ?_
    refine f_aload_n (M := mX9_declareDefault) 29 dX9_declareDefault_28 rfl rfl ?_
    refine e_getR (M := mX9_declareDefault) dX9_declareDefault_29 fl_9007 (x_kk rfl) (x_kk rfl) rfl (wf_9_0 hR) ?_
    refine f_bipush (M := mX9_declareDefault) 34 dX9_declareDefault_32 kb_13 rfl ?_
    refine e_ild (M := mX9_declareDefault) (w := 606) (j := 13) dX9_declareDefault_34 (x_kk rfl) rfl kn_13 (by omega) (by omega) ?_
    refine f_aload_n (M := mX9_declareDefault) 36 dX9_declareDefault_35 rfl rfl ?_
    refine e_getR (M := mX9_declareDefault) dX9_declareDefault_36 fl_9007 (x_kk rfl) (x_kk rfl) rfl (wf_9_0 hR) ?_
    refine f_iconst (M := mX9_declareDefault) 40 dX9_declareDefault_39 ki_2 rfl ?_
    refine e_ild (M := mX9_declareDefault) (w := 606) (j := 2) dX9_declareDefault_40 (x_kk rfl) rfl kn_2 (by omega) (by omega) ?_
    refine e_icmp_ltF (M := mX9_declareDefault) 55 dX9_declareDefault_41 rfl (i_nlt.mpr h3.1) ?_
    refine f_aload_n (M := mX9_declareDefault) 45 dX9_declareDefault_44 rfl rfl ?_
    refine e_cV (M := mX9_declareDefault) [_] 0 0 dX9_declareDefault_45 pa_9292 pb_9292 cc_9292 rfl rfl rfl rfl rfl (x_kk rfl) (x_kk rfl) rfl (c_X9_remainsInAll hR hNl hl hNs hn) rfl ?_
    refine e_if_leF (M := mX9_declareDefault) 55 dX9_declareDefault_48 rfl (i_nle.mpr h3.2) ?_
    refine f_iconst (M := mX9_declareDefault) 52 dX9_declareDefault_51 ki_1 rfl ?_
    refine f_goto (M := mX9_declareDefault) 56 dX9_declareDefault_52 rfl ?_
    refine f_istore_n (M := mX9_declareDefault) (ls' := [_, _]) 57 dX9_declareDefault_56 rfl rfl rfl ?_
    refine f_aload_n (M := mX9_declareDefault) 58 dX9_declareDefault_57 rfl rfl ?_
    refine f_iload_n (M := mX9_declareDefault) 59 dX9_declareDefault_58 rfl rfl ?_
    refine e_if_eqF (M := mX9_declareDefault) 66 dX9_declareDefault_59 rfl (show ¬ ((1 : Int32) = 0) by decide) ?_
    refine f_iconst (M := mX9_declareDefault) 63 dX9_declareDefault_62 ki_0 rfl ?_
    refine f_goto (M := mX9_declareDefault) 67 dX9_declareDefault_63 rfl ?_
    refine e_putI (M := mX9_declareDefault) dX9_declareDefault_67 fl_9033 (x_kk rfl) (x_kk rfl) rfl (fun q9 => Bool.noConfusion q9) ?_
    refine f_aload_n (M := mX9_declareDefault) 71 dX9_declareDefault_70 rfl rfl ?_
    refine e_getI (M := mX9_declareDefault) dX9_declareDefault_71 fl_9033 (x_kk rfl) (x_kk rfl) rfl ?_
    refine e_if_leT (M := mX9_declareDefault) 79 dX9_declareDefault_74 rfl (show (0 : Int32) ≤ 0 by decide) ?_
    refine f_aload_n (M := mX9_declareDefault) 80 dX9_declareDefault_79 rfl rfl ?_
    refine e_cV (M := mX9_declareDefault) [] 0 0 dX9_declareDefault_80 pa_9128 pb_9128 cc_9128 rfl rfl rfl rfl rfl (x_kk rfl) (x_kk rfl) rfl (hk) rfl ?_
    refine f_aload_n (M := mX9_declareDefault) 84 dX9_declareDefault_83 rfl rfl ?_
    refine e_getR (M := mX9_declareDefault) dX9_declareDefault_84 fl_9007 (x_kk rfl) (x_kk rfl) rfl (wf_9_0 hR) ?_
    refine f_iconst (M := mX9_declareDefault) 88 dX9_declareDefault_87 ki_0 rfl ?_
    refine f_iconst (M := mX9_declareDefault) 89 dX9_declareDefault_88 ki_5 rfl ?_
    refine e_ist (M := mX9_declareDefault) (w := 606) (j := 0) dX9_declareDefault_89 (x_kk rfl) rfl kn_0 (by omega) (by omega) ?_
    rw [e5]
    refine f_aload_n (M := mX9_declareDefault) 91 dX9_declareDefault_90 rfl rfl ?_
    refine e_cV (M := mX9_declareDefault) [_] 0 0 dX9_declareDefault_91 pa_9292 pb_9292 cc_9292 rfl rfl rfl rfl rfl (x_kk rfl) (x_kk rfl) rfl (c_X9_remainsInAll (I := va_up I0 226 (va_up (I 226) 0 5)) hR hNl hl hNs hn) rfl ?_
    refine e_ri (M := mX9_declareDefault) dX9_declareDefault_94 rfl (x_kk rfl) (x_kk rfl) ?_
    rfl
theorem sim_declareDefault (T : y_T N I L R) : y_OI N X mL_declareDefault [.ref 0, .ref 232] mX9_declareDefault [.ref 225] I L R := by
  have T0 := T
  obtain ⟨a, b, kn, ks, bf, bn, ep, ⟨β, δ, γ, ν, hB⟩, hM, hI⟩ := T
  have H : y_CS N I L R β a b := ⟨hM.1, hB.1.2.1, hB.1.2.2.2.2.1, hB.2.2.2.2.2.1, hI.1⟩
  obtain ⟨Ns, Np, Nl, Nm, Z⟩ := Z_of hI.1
  have hR := hM.1
  have ha : I 226 = a := hM.2.1
  have hb : L 229 = b := hM.2.2.1
  subst ha
  subst hb
  obtain ⟨hNs, hn, hNp, hp, hNl, hl, hNm, hmm⟩ := id Z
  by_cases h0 : I 226 0 = 3
  · by_cases h1 : (I 226 15).toInt64 < L 229 0 ∨ (I 226 2 ≤ I 226 13 ∧ 0 < sp_rems (I 226) Nl Ns)
    · obtain ⟨I0, L0, hk, S1, fr, sm⟩ := keep_ok (X := X) hB (h60_of (h_IL H))
      have H1 : y_CS N I0 L0 R β (I 226) (L 229) := ⟨hR, h_β H, h_S H, S1.2.2.2.2.2.1, hI.1⟩
      have hβ := h_β H
      have r2 := Rep_ph (x := 5) (by rw [h0]; decide) (by rw [h0]; decide) (h60_of (h_IL H)) H1.2.2.2.1
      have i2 := Inv_ph (Nat.le_refl N) (x := 5) (P := 5) (by decide) (by decide) (by decide) (by rw [h0]; decide) (by rw [h0]; decide) (by decide) hI.1
      have H2 : y_CS N (va_up I0 β (va_up (I0 β) 0 5)) L0 R β (va_up (I 226) 0 5) (L 229) := ⟨hR, h_β H, h_S H, r2, i2⟩
      have k1 := w_declareDefault (kx_declareDefault H Z hk H1  h0 h1 H2)
      have out : ∀ cc, (∀ j, j < 22 → ¬ cc = β + j) → (va_up I0 β (va_up (I0 β) 0 5)) cc = I0 cc ∧ L0 cc = L0 cc := fun cc ho => ⟨(x_up_ne _ _ (ho 0 (by decide))), rfl⟩
      have M1 := SM_f (I' := (va_up I0 β (va_up (I0 β) 0 5))) (L' := va_up L0 232 (va_up (L0 232) 0 (sp_rems (va_up (I 226) 0 5) Nl Ns).toInt64)) hM hR (fun cc z1 z2 => ⟨(out cc (fun j hj => sl_far hβ (Or.inr z1) hj)).1.trans (fr cc z1).1, (x_up_ne _ _ (by omega)).trans ((out cc (fun j hj => sl_far hβ (Or.inr z1) hj)).2.trans (fr cc z1).2)⟩)
      obtain ⟨I2, L2, hk9, M2, t6, l25, fr9⟩ := keeps_ok (X := X) (SM_tw (t := 0) M1)
      have m1 := mx_declareDefault hR M1.2.1 Z hk9 M2.2.1  h0 M1.2.2.1 h1
      refine OI_c (a' := (va_up (I 226) 0 5)) (b' := (L 229)) k1 ⟨β, δ, γ, _, SB_u S1 out ?_⟩ m1 ?_ (SM_a M2) (fr_t fr_tw (fr_t fr9 fr_a)) (In_p (by omega) hI ?_)
      · exact r2
      · exact t6
      · exact Inv_m (by omega) i2
    · exact OI_x T0 (by decide) (w_declareDefault_x0 (kf_declareDefault_1 H Z h0 h1)) (mf_declareDefault_1 hR Z h0 h1)
  · exact OI_x T0 (by decide) (w_declareDefault_x0 (kf_declareDefault_0 H Z h0)) (mf_declareDefault_0 hR Z h0)
end

/-! ===== changes of both, second (laid by wip/whole/src/w2.py) ===== -/
section
variable {X : x_X} {I : Nat → Nat → Int32} {L : Nat → Nat → Int64} {R : Nat → Nat → Option Nat} {N : Nat}
theorem c_X0_sealNext (hR : x_wf R) {β : Nat} (hβ : x_sl β) {q : Nat} (hq : q < 8) : x_Cv X mX0_sealNext [.ref (β + 7), .int (Int32.ofNat q)] (I, L, R) 233 (.inl (some (.int (I (β + 7) 4 + 1))), ((va_up (va_up I (β + 7) (va_up (I (β + 7)) 4 (I (β + 7) 4 + 1))) (β + 11) (va_up (I (β + 11)) q (I (β + 7) 4 + 1))), L, R), 233) := by
  show x_Ev X mX0_sealNext 0 [some (.ref (β + 7)), some (.int (Int32.ofNat q))] [] ((I, L, R), 233, 0, 0) _
  refine f_aload_n (M := mX0_sealNext) 1 dX0_sealNext_0 rfl rfl ?_
  refine f_dup (M := mX0_sealNext) 2 dX0_sealNext_1 rfl rfl ?_
  refine e_getI (M := mX0_sealNext) dX0_sealNext_2 fl_34 (x_kk rfl) (sl_lt hβ 7 rfl) (sl_s hβ 7 rfl rfl) ?_
  refine f_iconst (M := mX0_sealNext) 6 dX0_sealNext_5 ki_1 rfl ?_
  refine f_iadd (M := mX0_sealNext) 7 dX0_sealNext_6 rfl ?_
  refine e_putI (M := mX0_sealNext) dX0_sealNext_7 fl_34 (x_kk rfl) (sl_lt hβ 7 rfl) (sl_s hβ 7 rfl rfl) (fun q9 => Bool.noConfusion q9) ?_
  refine f_aload_n (M := mX0_sealNext) 11 dX0_sealNext_10 rfl rfl ?_
  refine e_getR (M := mX0_sealNext) dX0_sealNext_11 fl_21 (x_kk rfl) (sl_lt hβ 7 rfl) (sl_s hβ 7 rfl rfl) (wf_0_3 hR hβ) ?_
  refine f_iload_n (M := mX0_sealNext) 15 dX0_sealNext_14 rfl rfl ?_
  refine f_aload_n (M := mX0_sealNext) 16 dX0_sealNext_15 rfl rfl ?_
  refine e_getI (M := mX0_sealNext) dX0_sealNext_16 fl_34 (x_kk rfl) (sl_lt hβ 7 rfl) (sl_s hβ 7 rfl rfl) ?_
  refine e_ist (M := mX0_sealNext) (w := 8) (j := q) dX0_sealNext_19 (sl_lt hβ 11 rfl) (sl_shp hβ 11 rfl) rfl (by omega) (by omega) ?_
  refine f_aload_n (M := mX0_sealNext) 21 dX0_sealNext_20 rfl rfl ?_
  refine e_getI (M := mX0_sealNext) dX0_sealNext_21 fl_34 (x_kk rfl) (sl_lt hβ 7 rfl) (sl_s hβ 7 rfl rfl) ?_
  refine e_ri (M := mX0_sealNext) dX0_sealNext_24 rfl (x_kk rfl) (x_kk rfl) ?_
  exact (by simp only [x_up_self, x_up_ne _ _ (show β + 11 ≠ β + 7 by omega), x_up_ne _ _ (show β + 7 ≠ β + 11 by omega)])
theorem kx_seal {N β : Nat} {a : Nat → Int32} {b : Nat → Int64} (H : y_CS N I L R β a b) {Ns Np Nl Nm : Nat} (Z : y_Z a Ns Np Nl Nm) {I0 : Nat → Nat → Int32} {L0 : Nat → Nat → Int64} (hk : x_Cv X mX3_keep [.ref 3, .ref β] (I, L, R) 233 (.inl none, (I0, L0, R), 233)) (H1 : y_CS N I0 L0 R β a b) {q : Nat} (hq : q < 8) (h1 : a 0 = 1 ∨ a 0 = 6) (h2 : ¬ 0 < a (224 + 8 * q + 7))  : x_Cv X mX8_seal [.ref 0, .int (Int32.ofNat q)] (I, L, R) 233 (.inl (some (.int (a 10 + 1))), ((va_up (va_up I0 (β + 7) (va_up (I0 (β + 7)) 4 (a 10 + 1))) (β + 11) (va_up (I0 (β + 11)) q (a 10 + 1))), L0, R), 233) := by
  obtain ⟨hNs, hn, hNp, hp, hNl, hl, hNm, hmm⟩ := Z
  have hR := h_R H
  have hβ := h_β H
  have hS := h_S H
  show x_Ev X mX8_seal 0 [some (.ref 0), some (.int (Int32.ofNat q))] [] ((I, L, R), 233, 0, 0) _
  refine f_iload_n (M := mX8_seal) 1 dX8_seal_0 rfl rfl ?_
  refine e_cS (M := mX8_seal) [_] 0 0 dX8_seal_1 pa_8164 cc_8164 rfl rfl rfl rfl rfl (x_kk rfl) (x_kk rfl) rfl (c_X8_isBidder) rfl ?_
  refine e_cS (M := mX8_seal) [] 1 6 dX8_seal_4 pa_8103 cc_8103 rfl rfl rfl rfl rfl (x_kk rfl) (x_kk rfl) rfl (c_X8_requireExisting (x_bn (ib_ok kn_7 (by omega) (by omega)))) rfl ?_
  refine f_aload_n (M := mX8_seal) 8 dX8_seal_7 rfl rfl ?_
  refine e_getR (M := mX8_seal) dX8_seal_8 fl_8026 (x_kk rfl) (x_kk rfl) rfl hS ?_
  refine e_cV (M := mX8_seal) [_] 1 6 dX8_seal_11 pa_8168 pb_8168 cc_8168 rfl rfl rfl rfl rfl (x_kk rfl) (x_kk rfl) (x_rcvOK (sl_lt hβ 0 rfl) (sl_s hβ 0 rfl rfl) rfl) (k_isBidding H) rfl ?_
  refine e_if_eqF (M := mX8_seal) 35 dX8_seal_14 rfl (x_bn h1) ?_
  refine f_aload_n (M := mX8_seal) 18 dX8_seal_17 rfl rfl ?_
  refine e_getR (M := mX8_seal) dX8_seal_18 fl_8026 (x_kk rfl) (x_kk rfl) rfl hS ?_
  refine e_getR (M := mX8_seal) dX8_seal_21 fl_8148 (x_kk rfl) (sl_lt hβ 0 rfl) (sl_s hβ 0 rfl rfl) (wf_6_3 hR hβ) ?_
  refine f_iload_n (M := mX8_seal) 25 dX8_seal_24 rfl rfl ?_
  refine e_cV (M := mX8_seal) [_] 1 6 dX8_seal_25 pa_8171 pb_8171 cc_8171 rfl rfl rfl rfl rfl (x_kk rfl) (x_kk rfl) (x_rcvOK (sl_lt hβ 7 rfl) (sl_s hβ 7 rfl rfl) rfl) (k_isSealed H hq) rfl ?_
  refine e_if_neF (M := mX8_seal) 35 dX8_seal_28 rfl (x_bnn h2) ?_
  refine f_iconst (M := mX8_seal) 32 dX8_seal_31 ki_1 rfl ?_
  refine f_goto (M := mX8_seal) 36 dX8_seal_32 rfl ?_
  refine e_cS (M := mX8_seal) [] 2 12 dX8_seal_36 pa_8037 cc_8037 rfl rfl rfl rfl rfl (x_kk rfl) (x_kk rfl) rfl (c_X8_requireState (by decide)) rfl ?_
  refine f_aload_n (M := mX8_seal) 40 dX8_seal_39 rfl rfl ?_
  refine e_getR (M := mX8_seal) dX8_seal_40 fl_8019 (x_kk rfl) (x_kk rfl) rfl (wf_8_1 hR) ?_
  refine f_aload_n (M := mX8_seal) 44 dX8_seal_43 rfl rfl ?_
  refine e_getR (M := mX8_seal) dX8_seal_44 fl_8026 (x_kk rfl) (x_kk rfl) rfl hS ?_
  refine e_cV (M := mX8_seal) [] 2 12 dX8_seal_47 pa_8060 pb_8060 cc_8060 rfl rfl rfl rfl rfl (x_kk rfl) (x_kk rfl) rfl (hk) rfl ?_
  refine f_aload_n (M := mX8_seal) 51 dX8_seal_50 rfl rfl ?_
  refine e_getR (M := mX8_seal) dX8_seal_51 fl_8026 (x_kk rfl) (x_kk rfl) rfl hS ?_
  refine e_getR (M := mX8_seal) dX8_seal_54 fl_8148 (x_kk rfl) (sl_lt hβ 0 rfl) (sl_s hβ 0 rfl rfl) (wf_6_3 hR hβ) ?_
  refine f_iload_n (M := mX8_seal) 58 dX8_seal_57 rfl rfl ?_
  refine e_cV (M := mX8_seal) [_] 2 12 dX8_seal_58 pa_8185 pb_8185 cc_8185 rfl rfl rfl rfl rfl (x_kk rfl) (x_kk rfl) (x_rcvOK (sl_lt hβ 7 rfl) (sl_s hβ 7 rfl rfl) rfl) (c_X0_sealNext hR hβ hq) rfl ?_
  refine e_ri (M := mX8_seal) dX8_seal_61 rfl (x_kk rfl) (x_kk rfl) ?_
  exact (by rw [(h_B H1).2.2.2.2.1])
theorem mx_seal (hR : x_wf R) {a : Nat → Int32} (ha : I 226 = a) {Ns Np Nl Nm : Nat} (Z : y_Z a Ns Np Nl Nm) {I0 : Nat → Nat → Int32} {L0 : Nat → Nat → Int64} (hk : x_Cv X mX9_keeps [.ref 225] (x_tw I 0, L, R) 233 (.inl none, (I0, L0, R), 233)) (ha0 : I0 226 = a) {q : Nat} (hq : q < 8) (h1 : a 0 = 1 ∨ a 0 = 6) (h2 : ¬ 0 < a (224 + 8 * q + 7))  : x_Cv X mX9_seal [.ref 225, .int (Int32.ofNat q)] (I, L, R) 233 (.inl (some (.int (a 10 + 1))), (va_up I0 226 (va_up (va_up a (224 + 8 * q + 7) (a 10 + 1)) 10 (a 10 + 1)), L0, R), 233) := by
  subst ha
  obtain ⟨hNs, hn, hNp, hp, hNl, hl, hNm, hmm⟩ := Z
  show x_Ev X mX9_seal 0 [some (.ref 225), some (.int (Int32.ofNat q))] [] ((I, L, R), 233, 0, 0) _
  refine f_aload_n (M := mX9_seal) 1 dX9_seal_0 rfl rfl ?_
  refine f_iload_n (M := mX9_seal) 2 dX9_seal_1 rfl rfl ?_
  refine e_cS (M := mX9_seal) [_, _] 0 0 dX9_seal_2 pa_9185 cc_9185 rfl rfl rfl rfl rfl (x_kk rfl) (x_kk rfl) rfl (c_X9_isBidder) rfl ?_
  refine e_if_neT (M := mX9_seal) 12 dX9_seal_5 rfl (x_bn (ib_ok kn_7 (by omega) (by omega))) ?_
  refine f_aload_n (M := mX9_seal) 13 dX9_seal_12 rfl rfl ?_
  refine e_cV (M := mX9_seal) [_, _] 0 0 dX9_seal_13 pa_9190 pb_9190 cc_9190 rfl rfl rfl rfl rfl (x_kk rfl) (x_kk rfl) rfl (c_X9_isBidding hR) rfl ?_
  refine e_if_eqF (M := mX9_seal) 27 dX9_seal_16 rfl (x_bn h1) ?_
  refine f_aload_n (M := mX9_seal) 20 dX9_seal_19 rfl rfl ?_
  refine f_iload_n (M := mX9_seal) 21 dX9_seal_20 rfl rfl ?_
  refine e_cV (M := mX9_seal) [_, _] 0 0 dX9_seal_21 pa_9193 pb_9193 cc_9193 rfl rfl rfl rfl rfl (x_kk rfl) (x_kk rfl) rfl (c_X9_isSealed hR hq) rfl ?_
  refine e_if_eqT (M := mX9_seal) 31 dX9_seal_24 rfl (x_b0 h2) ?_
  refine f_iconst (M := mX9_seal) 32 dX9_seal_31 ki_0 rfl ?_
  refine e_putI (M := mX9_seal) dX9_seal_32 fl_9033 (x_kk rfl) (x_kk rfl) rfl (fun q9 => Bool.noConfusion q9) ?_
  refine f_aload_n (M := mX9_seal) 36 dX9_seal_35 rfl rfl ?_
  refine e_getI (M := mX9_seal) dX9_seal_36 fl_9033 (x_kk rfl) (x_kk rfl) rfl ?_
  refine e_if_leT (M := mX9_seal) 44 dX9_seal_39 rfl (show (0 : Int32) ≤ 0 by decide) ?_
  refine f_aload_n (M := mX9_seal) 45 dX9_seal_44 rfl rfl ?_
  refine f_iload_n (M := mX9_seal) 46 dX9_seal_45 rfl rfl ?_
  refine f_bipush (M := mX9_seal) 48 dX9_seal_46 kb_7 rfl ?_
  refine f_aload_n (M := mX9_seal) 49 dX9_seal_48 rfl rfl ?_
  refine e_getR (M := mX9_seal) dX9_seal_49 fl_9007 (x_kk rfl) (x_kk rfl) rfl (wf_9_0 hR) ?_
  refine f_bipush (M := mX9_seal) 54 dX9_seal_52 kb_10 rfl ?_
  refine e_ild (M := mX9_seal) (w := 606) (j := 10) dX9_seal_54 (x_kk rfl) rfl kn_10 (by omega) (by omega) ?_
  refine f_iconst (M := mX9_seal) 56 dX9_seal_55 ki_1 rfl ?_
  refine f_iadd (M := mX9_seal) 57 dX9_seal_56 rfl ?_
  refine e_cV (M := mX9_seal) [_] 0 0 dX9_seal_57 pa_9196 pb_9196 cc_9196 rfl rfl rfl rfl rfl (x_kk rfl) (x_kk rfl) rfl (m_setsBid (j := 7) hR hk hq (by omega)) rfl ?_
  refine f_pop (M := mX9_seal) 61 dX9_seal_60 rfl rfl ?_
  refine f_aload_n (M := mX9_seal) 62 dX9_seal_61 rfl rfl ?_
  refine e_getR (M := mX9_seal) dX9_seal_62 fl_9007 (x_kk rfl) (x_kk rfl) rfl (wf_9_0 hR) ?_
  refine f_bipush (M := mX9_seal) 67 dX9_seal_65 kb_10 rfl ?_
  refine f_dup2 (M := mX9_seal) 68 dX9_seal_67 rfl rfl rfl ?_
  refine e_ild (M := mX9_seal) (w := 606) (j := 10) dX9_seal_68 (x_kk rfl) rfl kn_10 (by omega) (by omega) ?_
  refine f_iconst (M := mX9_seal) 70 dX9_seal_69 ki_1 rfl ?_
  refine f_iadd (M := mX9_seal) 71 dX9_seal_70 rfl ?_
  refine e_ist (M := mX9_seal) (w := 606) (j := 10) dX9_seal_71 (x_kk rfl) rfl kn_10 (by omega) (by omega) ?_
  refine f_aload_n (M := mX9_seal) 73 dX9_seal_72 rfl rfl ?_
  refine e_getR (M := mX9_seal) dX9_seal_73 fl_9007 (x_kk rfl) (x_kk rfl) rfl (wf_9_0 hR) ?_
  refine f_bipush (M := mX9_seal) 78 dX9_seal_76 kb_10 rfl ?_
  refine e_ild (M := mX9_seal) (w := 606) (j := 10) dX9_seal_78 (x_kk rfl) rfl kn_10 (by omega) (by omega) ?_
  refine e_ri (M := mX9_seal) dX9_seal_79 rfl (x_kk rfl) (x_kk rfl) ?_
  exact (by (try simp only [x_up_self, up_up, ha0, x_up_ne _ _ (show 10 ≠ 224 + 8 * q + 7 by omega)]); first | done | rfl)
section
variable {β : Nat} {a : Nat → Int32}
theorem sl_a {q : Nat} (hq : q < 8) {x : Int32} {j : Nat} (h : ¬ j = 10) (h2 : ¬ j = 224 + 8 * q + 7) : va_up (va_up a (224 + 8 * q + 7) x) 10 x j = a j := by rw [x_up_ne _ _ h, x_up_ne _ _ h2]
theorem sl_7 {q : Nat} (hq : q < 8) {x : Int32} : va_up (va_up a (224 + 8 * q + 7) x) 10 x (224 + 8 * q + 7) = x := by rw [x_up_ne _ _ (by omega), x_up_self]
theorem RB_seal (h : y_RB I β a) {q : Nat} (hq : q < 8) {x : Int32} : y_RB (va_up (va_up I (β + 7) (va_up (I (β + 7)) 4 x)) (β + 11) (va_up (I (β + 11)) q x)) β (va_up (va_up a (224 + 8 * q + 7) x) 10 x) := by
  obtain ⟨h1, h2, h3, h4, h5, h7⟩ := h
  refine ⟨fun k hk => ?_, fun k hk j hj => ?_, fun k hk => ?_, fun k hk => ?_, ?_, ?_⟩
  · rw [x_up_ne _ _ (show β + 8 ≠ β + 11 by omega), x_up_ne _ _ (show β + 8 ≠ β + 7 by omega), h1 k hk]
    exact (vol_c (by rw [sl_a hq (by omega) (by omega)]) (fun j hj => sl_a hq (by omega) (by omega)) hk).symm
  · rw [x_up_ne _ _ (show β + 9 ≠ β + 11 by omega), x_up_ne _ _ (show β + 9 ≠ β + 7 by omega), sl_a hq (by omega) (by omega)]; exact h2 k hk j hj
  · rw [x_up_ne _ _ (show β + 10 ≠ β + 11 by omega), x_up_ne _ _ (show β + 10 ≠ β + 7 by omega), sl_a hq (by omega) (by omega)]; exact h3 k hk
  · rw [x_up_self]
    by_cases e : k = q
    · rw [e, x_up_self, sl_7 hq]
    · rw [x_up_ne _ _ e, sl_a hq (by omega) (by omega)]; exact h4 k hk
  · rw [x_up_ne _ _ (show β + 7 ≠ β + 11 by omega), x_up_self, x_up_self, x_up_self]
  · rw [x_up_ne _ _ (show β + 7 ≠ β + 11 by omega), x_up_self, x_up_ne _ _ (by decide), sl_a hq (by omega) (by omega), sl_a hq (by omega) (by omega)]; exact h7
theorem IB_seal (h0 : ¬ a 0 = 0) (h : y_IB N a) (hN : N ≤ 1000) {q : Nat} (hq : q < 8) : y_IB (N + 1) (va_up (va_up a (224 + 8 * q + 7) (a 10 + 1)) 10 (a 10 + 1)) := by
  obtain ⟨h1, h2, h3, h4⟩ := h
  have h11 := h1.1
  have h12 := h1.2
  have o1 : (1 : Int32).toInt = 1 := by decide
  have e : (a 10 + 1).toInt = (a 10).toInt + 1 := by rw [t_add (by rw [o1]; omega) (by rw [o1]; omega), o1]
  unfold y_IB
  rw [x_up_self, sl_a hq (by omega) (show ¬ 0 = 224 + 8 * q + 7 by omega)]
  refine ⟨⟨by omega, by omega⟩, fun k hk => ⟨fun s hs => ?_, ?_, ?_⟩, fun k j hk hj hne hp => ?_, fun z => absurd z h0⟩
  · rw [sl_a hq (by omega) (by omega)]; exact (h2 k hk).1 s hs
  · rw [sl_a hq (by omega) (by omega)]; exact (h2 k hk).2.1
  · by_cases c : k = q
    · rw [c, sl_7 hq]; exact ⟨by omega, Int.le_refl _⟩
    · rw [sl_a hq (by omega) (by omega)]
      have z := (h2 k hk).2.2
      exact ⟨z.1, by have := z.2; omega⟩
  · by_cases c : k = q
    · subst c
      rw [sl_7 hq, sl_a hq (by omega) (by omega)]
      have z := (h2 j hj).2.2
      intro y
      rw [t_eq, e] at y
      have := z.2
      omega
    · rw [sl_a hq (by omega) (by omega)] at hp ⊢
      by_cases c2 : j = q
      · subst c2
        rw [sl_7 hq]
        have z := (h2 k hk).2.2
        intro y
        rw [t_eq, e] at y
        have := z.2
        omega
      · rw [sl_a hq (by omega) (by omega)]
        exact h3 k j hk hj hne hp
end
theorem sim_seal (T : y_T N I L R) (hN : N ≤ 1000) {u : Int32} : y_OI N X mL_seal [.ref 0, .int u, .ref 232] mX9_seal [.ref 225, .int u] I L R := by
  have T0 := T
  obtain ⟨a, b, kn, ks, bf, bn, ep, ⟨β, δ, γ, ν, hB⟩, hM, hI⟩ := T
  have H : y_CS N I L R β a b := ⟨hM.1, hB.1.2.1, hB.1.2.2.2.2.1, hB.2.2.2.2.2.1, hI.1⟩
  obtain ⟨Ns, Np, Nl, Nm, Z⟩ := Z_of hI.1
  have hR := hM.1
  have ha : I 226 = a := hM.2.1
  have hb : L 229 = b := hM.2.2.1
  subst ha
  subst hb
  obtain ⟨hNs, hn, hNp, hp, hNl, hl, hNm, hmm⟩ := id Z
  by_cases h0 : 0 ≤ u ∧ u ≤ 7
  · obtain ⟨q, hq, rfl⟩ := ib_of kn_7 (by omega) h0
    replace hq : q < 8 := by omega
    by_cases h1 : I 226 0 = 1 ∨ I 226 0 = 6
    · skip
      by_cases h2 : ¬ 0 < I 226 (224 + 8 * q + 7)
      · skip
        obtain ⟨I0, L0, hk, S1, fr, sm⟩ := keep_ok (X := X) hB (h60_of (h_IL H))
        have H1 : y_CS N I0 L0 R β (I 226) (L 229) := ⟨hR, h_β H, h_S H, S1.2.2.2.2.2.1, hI.1⟩
        have hβ := h_β H
        have k1 := w_seal (kx_seal H Z hk H1 hq h1 h2 )
        have out : ∀ cc, (∀ j, j < 22 → ¬ cc = β + j) → (va_up (va_up I0 (β + 7) (va_up (I0 (β + 7)) 4 (I 226 10 + 1))) (β + 11) (va_up (I0 (β + 11)) q (I 226 10 + 1))) cc = I0 cc ∧ L0 cc = L0 cc := fun cc ho => ⟨(by rw [x_up_ne _ _ (ho 11 (by decide)), x_up_ne _ _ (ho 7 (by decide))]), rfl⟩
        have M1 := SM_f (I' := (va_up (va_up I0 (β + 7) (va_up (I0 (β + 7)) 4 (I 226 10 + 1))) (β + 11) (va_up (I0 (β + 11)) q (I 226 10 + 1)))) (L' := va_up L0 232 (va_up (L0 232) 0 (I 226 10 + 1).toInt64)) hM hR (fun cc z1 z2 => ⟨(out cc (fun j hj => sl_far hβ (Or.inr z1) hj)).1.trans (fr cc z1).1, (x_up_ne _ _ (by omega)).trans ((out cc (fun j hj => sl_far hβ (Or.inr z1) hj)).2.trans (fr cc z1).2)⟩)
        obtain ⟨I2, L2, hk9, M2, t6, l25, fr9⟩ := keeps_ok (X := X) (SM_tw (t := 0) M1)
        have m1 := mx_seal hR M1.2.1 Z hk9 M2.2.1 hq h1 h2 
        refine OI_c (a' := (va_up (va_up (I 226) (224 + 8 * q + 7) (I 226 10 + 1)) 10 (I 226 10 + 1))) (b' := (L 229)) k1 ⟨β, δ, γ, _, SB_u S1 out ?_⟩ m1 ?_ (SM_a M2) (fr_t fr_tw (fr_t fr9 fr_a)) (In_p (by omega) hI ?_)
        · exact ⟨(by rw [x_up_ne _ _ (show β ≠ β + 11 by omega), x_up_ne _ _ (show β ≠ β + 7 by omega)]; exact (h_ph H1).trans (show _ = _ from (sl_a hq (by omega) (by omega))).symm), RT_c (fun k z1 z2 => by rw [x_up_ne _ _ (show β + k ≠ β + 11 by omega), x_up_ne _ _ (show β + k ≠ β + 7 by omega)]) (fun j hj => sl_a hq (by omega) (by omega)) (h_T H1), RC_c (fun k z1 z2 => by rw [x_up_ne _ _ (show β + k ≠ β + 11 by omega), x_up_ne _ _ (show β + k ≠ β + 7 by omega)]) (fun j hj => sl_a hq (by omega) (by omega)) (h_C H1), RB_seal (h_B H1) hq, RK_c (fun k z1 z2 => by rw [x_up_ne _ _ (show β + k ≠ β + 11 by omega), x_up_ne _ _ (show β + k ≠ β + 7 by omega)]) rfl rfl (fun z => by rw [sl_a hq (by omega) (by omega)] at z; exact z) (fun j hj => sl_a hq (by omega) (by omega)) (h_K H1), RL_c (fun k z1 z2 => by rw [x_up_ne _ _ (show β + k ≠ β + 11 by omega), x_up_ne _ _ (show β + k ≠ β + 7 by omega)]) (fun j hj => sl_a hq (by omega) (by omega)) (h60_of (h_IL H)) (h_L H1)⟩
        · exact t6
        · have z0 : ¬ I 226 0 = 0 := by rcases h1 with z | z <;> rw [z] <;> decide
          have z8 : ¬ I 226 0 = 8 := by rcases h1 with z | z <;> rw [z] <;> decide
          exact ⟨IT_c (by rw [sl_a hq (by omega) (by omega)]; exact (h_IT H).1) (fun j hj => sl_a hq (by omega) (by omega)) (h_IT H), IC_c (fun j hj => sl_a hq (by omega) (by omega)) (h_IC H), IB_seal z0 (h_IB H) hN hq, IV_c (fun j hj => sl_a hq (by omega) (by omega)) (h_IV H), IK_c (fun j hj => sl_a hq (by omega) (by omega)) z8 (h_IK H), IL_c (fun j hj => sl_a hq (by omega) (by omega)) (h_IL H), (fun j hj => (sl_a hq (by omega) (by omega)).trans (hI.1.2.2.2.2.2.2.1 j hj)), hI.1.2.2.2.2.2.2.2⟩
      · exact OI_x T0 (by decide) (w_seal_x0 (kf_seal_2 H Z hq h1 h2)) (mf_seal_2 hR Z hq h1 h2)
    · exact OI_x T0 (by decide) (w_seal_x0 (kf_seal_1 H Z hq h1)) (mf_seal_1 hR Z hq h1)
  · exact OI_x T0 (by decide) (w_seal_x2 (kf_seal_0 H Z h0)) (mf_seal_0 hR Z h0)
theorem c_X1_setIndexOf (hR : x_wf R) {β : Nat} (hβ : x_sl β) {s : Nat} (hs : s < 6) {Q : Nat} (hQ : Q < 12) {w : Int32} : x_Cv X mX1_setIndexOf [.ref (β + 12), .int (Int32.ofNat s), .int (Int32.ofNat Q), .int w] (I, L, R) 233 (.inl none, (va_up I (β + 15) (va_up (I (β + 15)) (s * 12 + Q) w), L, R), 233) := by
  show x_Ev X mX1_setIndexOf 0 [some (.ref (β + 12)), some (.int (Int32.ofNat s)), some (.int (Int32.ofNat Q)), some (.int w)] [] ((I, L, R), 233, 0, 0) _
  refine f_aload_n (M := mX1_setIndexOf) 1 dX1_setIndexOf_0 rfl rfl ?_
  refine e_getR (M := mX1_setIndexOf) dX1_setIndexOf_1 fl_1018 (x_kk rfl) (sl_lt hβ 12 rfl) (sl_s hβ 12 rfl rfl) (wf_1_2 hR hβ) ?_
  refine f_iload_n (M := mX1_setIndexOf) 5 dX1_setIndexOf_4 rfl rfl ?_
  refine f_bipush (M := mX1_setIndexOf) 7 dX1_setIndexOf_5 kb_12 rfl ?_
  refine f_imul (M := mX1_setIndexOf) 8 dX1_setIndexOf_7 rfl ?_
  refine f_iload_n (M := mX1_setIndexOf) 9 dX1_setIndexOf_8 rfl rfl ?_
  refine f_iadd (M := mX1_setIndexOf) 10 dX1_setIndexOf_9 rfl ?_
  refine f_iload_n (M := mX1_setIndexOf) 11 dX1_setIndexOf_10 rfl rfl ?_
  refine e_ist (M := mX1_setIndexOf) (w := 72) (j := ((s) * (12)) + (Q)) dX1_setIndexOf_11 (sl_lt hβ 15 rfl) (sl_shp hβ 15 rfl) (ix_add (ix_mul rfl kn_12) rfl) (by omega) (by omega) ?_
  refine e_rv (M := mX1_setIndexOf) dX1_setIndexOf_12 rfl (x_kk rfl) (x_kk rfl) ?_
  rfl
theorem kx_setIndex {N β : Nat} {a : Nat → Int32} {b : Nat → Int64} (H : y_CS N I L R β a b) {Ns Np Nl Nm : Nat} (Z : y_Z a Ns Np Nl Nm) {I0 : Nat → Nat → Int32} {L0 : Nat → Nat → Int64} (hk : x_Cv X mX3_keep [.ref 3, .ref β] (I, L, R) 233 (.inl none, (I0, L0, R), 233)) (H1 : y_CS N I0 L0 R β a b) {w : Int32} {Q : Nat} (hQ : Q < 12) {s : Nat} (hs : s < Ns) (h2 : 1 ≤ w ∧ w ≤ 10000) (h3 : a 0 = 3)  : x_Cv X mX8_setIndex [.ref 0, .int (Int32.ofNat Q), .int (Int32.ofNat s), .int w] (I, L, R) 233 (.inl none, ((va_up I0 (β + 15) (va_up (I0 (β + 15)) (s * 12 + Q) w)), L0, R), 233) := by
  obtain ⟨hNs, hn, hNp, hp, hNl, hl, hNm, hmm⟩ := Z
  have hR := h_R H
  have hβ := h_β H
  have hS := h_S H
  show x_Ev X mX8_setIndex 0 [some (.ref 0), some (.int (Int32.ofNat Q)), some (.int (Int32.ofNat s)), some (.int w)] [] ((I, L, R), 233, 0, 0) _
  refine f_iload_n (M := mX8_setIndex) 1 dX8_setIndex_0 rfl rfl ?_
  refine e_cS (M := mX8_setIndex) [_] 0 0 dX8_setIndex_1 pa_8224 cc_8224 rfl rfl rfl rfl rfl (x_kk rfl) (x_kk rfl) rfl (c_X8_isQuarter) rfl ?_
  refine e_if_eqF (M := mX8_setIndex) 19 dX8_setIndex_4 rfl (x_bn (ib_ok kn_11 (by omega) (by omega))) ?_
  refine f_aload_n (M := mX8_setIndex) 8 dX8_setIndex_7 rfl rfl ?_
  refine f_iload_n (M := mX8_setIndex) 9 dX8_setIndex_8 rfl rfl ?_
  refine e_cV (M := mX8_setIndex) [_] 0 0 dX8_setIndex_9 pa_8161 pb_8161 cc_8161 rfl rfl rfl rfl rfl (x_kk rfl) (x_kk rfl) rfl (k_isSpecies H) rfl ?_
  refine e_if_eqF (M := mX8_setIndex) 19 dX8_setIndex_12 rfl (x_bn (in_ok hn (by omega) hs)) ?_
  refine f_iconst (M := mX8_setIndex) 16 dX8_setIndex_15 ki_1 rfl ?_
  refine f_goto (M := mX8_setIndex) 20 dX8_setIndex_16 rfl ?_
  refine e_cS (M := mX8_setIndex) [] 1 6 dX8_setIndex_20 pa_8103 cc_8103 rfl rfl rfl rfl rfl (x_kk rfl) (x_kk rfl) rfl (c_X8_requireExisting (by decide)) rfl ?_
  refine f_iload_n (M := mX8_setIndex) 24 dX8_setIndex_23 rfl rfl ?_
  refine f_iconst (M := mX8_setIndex) 25 dX8_setIndex_24 ki_1 rfl ?_
  refine f_sipush (M := mX8_setIndex) 28 dX8_setIndex_25 ks_10000 rfl ?_
  refine e_cS (M := mX8_setIndex) [_] 1 6 dX8_setIndex_28 pa_8049 cc_8049 rfl rfl rfl rfl rfl (x_kk rfl) (x_kk rfl) rfl (c_X8_isIn (lo := 1) (hi := 10000)) rfl ?_
  refine e_cS (M := mX8_setIndex) [] 2 12 dX8_setIndex_31 pa_8053 cc_8053 rfl rfl rfl rfl rfl (x_kk rfl) (x_kk rfl) rfl (c_X8_requireArgument (x_bn h2)) rfl ?_
  refine f_aload_n (M := mX8_setIndex) 35 dX8_setIndex_34 rfl rfl ?_
  refine e_getR (M := mX8_setIndex) dX8_setIndex_35 fl_8026 (x_kk rfl) (x_kk rfl) rfl hS ?_
  refine e_getI (M := mX8_setIndex) dX8_setIndex_38 fl_8067 (x_kk rfl) (sl_lt hβ 0 rfl) (sl_s hβ 0 rfl rfl) ?_
  refine f_iconst (M := mX8_setIndex) 42 dX8_setIndex_41 ki_3 rfl ?_
  refine e_icmp_neF (M := mX8_setIndex) 49 dX8_setIndex_42 rfl (fun z => z (by rw [h_ph H]; exact h3)) ?_
  refine f_iconst (M := mX8_setIndex) 46 dX8_setIndex_45 ki_1 rfl ?_
  refine f_goto (M := mX8_setIndex) 50 dX8_setIndex_46 rfl ?_
  refine e_cS (M := mX8_setIndex) [] 3 18 dX8_setIndex_50 pa_8037 cc_8037 rfl rfl rfl rfl rfl (x_kk rfl) (x_kk rfl) rfl (c_X8_requireState (by decide)) rfl ?_
  refine f_aload_n (M := mX8_setIndex) 54 dX8_setIndex_53 rfl rfl ?_
  refine e_getR (M := mX8_setIndex) dX8_setIndex_54 fl_8019 (x_kk rfl) (x_kk rfl) rfl (wf_8_1 hR) ?_
  refine f_aload_n (M := mX8_setIndex) 58 dX8_setIndex_57 rfl rfl ?_
  refine e_getR (M := mX8_setIndex) dX8_setIndex_58 fl_8026 (x_kk rfl) (x_kk rfl) rfl hS ?_
  refine e_cV (M := mX8_setIndex) [] 3 18 dX8_setIndex_61 pa_8060 pb_8060 cc_8060 rfl rfl rfl rfl rfl (x_kk rfl) (x_kk rfl) rfl (hk) rfl ?_
  refine f_aload_n (M := mX8_setIndex) 65 dX8_setIndex_64 rfl rfl ?_
  refine e_getR (M := mX8_setIndex) dX8_setIndex_65 fl_8026 (x_kk rfl) (x_kk rfl) rfl hS ?_
  refine e_getR (M := mX8_setIndex) dX8_setIndex_68 fl_8227 (x_kk rfl) (sl_lt hβ 0 rfl) (sl_s hβ 0 rfl rfl) (wf_6_4 hR hβ) ?_
  refine f_iload_n (M := mX8_setIndex) 72 dX8_setIndex_71 rfl rfl ?_
  refine f_iload_n (M := mX8_setIndex) 73 dX8_setIndex_72 rfl rfl ?_
  refine f_iload_n (M := mX8_setIndex) 74 dX8_setIndex_73 rfl rfl ?_
  refine e_cV (M := mX8_setIndex) [] 3 18 dX8_setIndex_74 pa_8231 pb_8231 cc_8231 rfl rfl rfl rfl rfl (x_kk rfl) (x_kk rfl) (x_rcvOK (sl_lt hβ 12 rfl) (sl_s hβ 12 rfl rfl) rfl) (c_X1_setIndexOf hR hβ (by omega) hQ) rfl ?_
  refine e_rv (M := mX8_setIndex) dX8_setIndex_77 rfl (x_kk rfl) (x_kk rfl) ?_
  rfl
theorem mx_setIndex (hR : x_wf R) {a : Nat → Int32} (ha : I 226 = a) {Ns Np Nl Nm : Nat} (Z : y_Z a Ns Np Nl Nm) {I0 : Nat → Nat → Int32} {L0 : Nat → Nat → Int64} (hk : x_Cv X mX9_keeps [.ref 225] (x_tw I 0, L, R) 233 (.inl none, (I0, L0, R), 233)) (ha0 : I0 226 = a) {w : Int32} {Q : Nat} (hQ : Q < 12) {s : Nat} (hs : s < Ns) (h2 : 1 ≤ w ∧ w ≤ 10000) (h3 : a 0 = 3)  : x_Cv X mX9_setIndex [.ref 225, .int (Int32.ofNat Q), .int (Int32.ofNat s), .int w] (I, L, R) 233 (.inl none, (va_up I0 226 (va_up a (294 + 6 * Q + s) w), L0, R), 233) := by
  subst ha
  obtain ⟨hNs, hn, hNp, hp, hNl, hl, hNm, hmm⟩ := Z
  show x_Ev X mX9_setIndex 0 [some (.ref 225), some (.int (Int32.ofNat Q)), some (.int (Int32.ofNat s)), some (.int w)] [] ((I, L, R), 233, 0, 0) _
  refine f_aload_n (M := mX9_setIndex) 1 dX9_setIndex_0 rfl rfl ?_
  refine f_iload_n (M := mX9_setIndex) 2 dX9_setIndex_1 rfl rfl ?_
  refine f_i2l (M := mX9_setIndex) 3 dX9_setIndex_2 rfl ?_
  refine f_lconst (M := mX9_setIndex) 4 dX9_setIndex_3 kl_0 rfl ?_
  refine f_ldc2 (M := mX9_setIndex) 7 dX9_setIndex_4 (x_kk rfl) csl_9239 rfl ?_
  refine e_cS (M := mX9_setIndex) [_, _] 0 0 dX9_setIndex_7 pa_9074 cc_9074 rfl rfl rfl rfl rfl (x_kk rfl) (x_kk rfl) rfl (c_X9_isInI (lo := 0) (hi := 11)) rfl ?_
  refine e_if_eqF (M := mX9_setIndex) 21 dX9_setIndex_10 rfl (x_bn (ib_ok kn_11 (by omega) (by omega))) ?_
  refine f_aload_n (M := mX9_setIndex) 14 dX9_setIndex_13 rfl rfl ?_
  refine f_iload_n (M := mX9_setIndex) 15 dX9_setIndex_14 rfl rfl ?_
  refine e_cV (M := mX9_setIndex) [_, _] 0 0 dX9_setIndex_15 pa_9137 pb_9137 cc_9137 rfl rfl rfl rfl rfl (x_kk rfl) (x_kk rfl) rfl (c_X9_isSpecies hR) rfl ?_
  refine e_if_neT (M := mX9_setIndex) 25 dX9_setIndex_18 rfl (x_bn (in_ok hn (by omega) hs)) ?_
  refine f_iload_n (M := mX9_setIndex) 26 dX9_setIndex_25 rfl rfl ?_
  refine f_i2l (M := mX9_setIndex) 27 dX9_setIndex_26 rfl ?_
  refine f_lconst (M := mX9_setIndex) 28 dX9_setIndex_27 kl_1 rfl ?_
  refine f_ldc2 (M := mX9_setIndex) 31 dX9_setIndex_28 (x_kk rfl) csl_9241 rfl ?_
  refine e_cS (M := mX9_setIndex) [_, _] 0 0 dX9_setIndex_31 pa_9074 cc_9074 rfl rfl rfl rfl rfl (x_kk rfl) (x_kk rfl) rfl (c_X9_isInI (lo := 1) (hi := 10000)) rfl ?_
  refine e_if_neT (M := mX9_setIndex) 41 dX9_setIndex_34 rfl (x_bn h2) ?_
  refine f_aload_n (M := mX9_setIndex) 42 dX9_setIndex_41 rfl rfl ?_
  refine e_getR (M := mX9_setIndex) dX9_setIndex_42 fl_9007 (x_kk rfl) (x_kk rfl) rfl (wf_9_0 hR) ?_
  refine f_iconst (M := mX9_setIndex) 46 dX9_setIndex_45 ki_0 rfl ?_
  refine e_ild (M := mX9_setIndex) (w := 606) (j := 0) dX9_setIndex_46 (x_kk rfl) rfl kn_0 (by omega) (by omega) ?_
  refine f_iconst (M := mX9_setIndex) 48 dX9_setIndex_47 ki_3 rfl ?_
  refine e_icmp_eqT (M := mX9_setIndex) 55 dX9_setIndex_48 rfl h3 ?_
  refine f_iconst (M := mX9_setIndex) 56 dX9_setIndex_55 ki_0 rfl ?_
  refine e_putI (M := mX9_setIndex) dX9_setIndex_56 fl_9033 (x_kk rfl) (x_kk rfl) rfl (fun q9 => Bool.noConfusion q9) ?_
  refine f_aload_n (M := mX9_setIndex) 60 dX9_setIndex_59 rfl rfl ?_
  refine e_getI (M := mX9_setIndex) dX9_setIndex_60 fl_9033 (x_kk rfl) (x_kk rfl) rfl ?_
  refine e_if_leT (M := mX9_setIndex) 67 dX9_setIndex_63 rfl (show (0 : Int32) ≤ 0 by decide) ?_
  refine f_aload_n (M := mX9_setIndex) 68 dX9_setIndex_67 rfl rfl ?_
  refine e_cV (M := mX9_setIndex) [] 0 0 dX9_setIndex_68 pa_9128 pb_9128 cc_9128 rfl rfl rfl rfl rfl (x_kk rfl) (x_kk rfl) rfl (hk) rfl ?_
  refine f_aload_n (M := mX9_setIndex) 72 dX9_setIndex_71 rfl rfl ?_
  refine e_getR (M := mX9_setIndex) dX9_setIndex_72 fl_9007 (x_kk rfl) (x_kk rfl) rfl (wf_9_0 hR) ?_
  refine f_sipush (M := mX9_setIndex) 78 dX9_setIndex_75 ks_294 rfl ?_
  refine f_bipush (M := mX9_setIndex) 80 dX9_setIndex_78 kb_6 rfl ?_
  refine f_iload_n (M := mX9_setIndex) 81 dX9_setIndex_80 rfl rfl ?_
  refine f_imul (M := mX9_setIndex) 82 dX9_setIndex_81 rfl ?_
  refine f_iadd (M := mX9_setIndex) 83 dX9_setIndex_82 rfl ?_
  refine f_iload_n (M := mX9_setIndex) 84 dX9_setIndex_83 rfl rfl ?_
  refine f_iadd (M := mX9_setIndex) 85 dX9_setIndex_84 rfl ?_
  refine f_iload_n (M := mX9_setIndex) 86 dX9_setIndex_85 rfl rfl ?_
  refine e_ist (M := mX9_setIndex) (w := 606) (j := ((294) + ((6) * (Q))) + (s)) dX9_setIndex_86 (x_kk rfl) rfl (ix_add (ix_add kn_294 (ix_mul kn_6 rfl)) rfl) (by omega) (by omega) ?_
  refine e_rv (M := mX9_setIndex) dX9_setIndex_87 rfl (x_kk rfl) (x_kk rfl) ?_
  exact (by rw [ha0])
section
variable {β : Nat} {a : Nat → Int32} {b : Nat → Int64}
theorem RK_ix (h : y_RK I L β a b) {s Q : Nat} (hs : s < 6) (hQ : Q < 12) {w : Int32} : y_RK (va_up I (β + 15) (va_up (I (β + 15)) (s * 12 + Q) w)) L β (va_up a (294 + 6 * Q + s) w) b := by
  obtain ⟨h1, h2, h4, h5, h6, h7, h8, h9⟩ := h
  unfold y_RK
  rw [x_up_self, x_up_ne _ _ (show β + 12 ≠ β + 15 by omega), x_up_ne _ _ (show β + 13 ≠ β + 15 by omega), x_up_ne _ _ (show β + 14 ≠ β + 15 by omega), x_up_ne _ _ (show 0 ≠ 294 + 6 * Q + s by omega), x_up_ne _ _ (show 11 ≠ 294 + 6 * Q + s by omega), x_up_ne _ _ (show 13 ≠ 294 + 6 * Q + s by omega), x_up_ne _ _ (show 15 ≠ 294 + 6 * Q + s by omega)]
  refine ⟨fun z k hk => ?_, fun k hk => ?_, fun k hk q hq => ?_, h5, h6, h7, h8, h9⟩
  · rw [x_up_ne _ _ (by omega)]; exact h1 z k hk
  · rw [x_up_ne _ _ (by omega)]; exact h2 k hk
  · by_cases e : k * 12 + q = s * 12 + Q
    · rw [e, show 294 + 6 * q + k = 294 + 6 * Q + s by omega, x_up_self, x_up_self]
    · rw [x_up_ne _ _ e, x_up_ne _ _ (by omega)]; exact h4 k hk q hq
theorem IK_ix (h : y_IK a) (h8 : ¬ a 0 = 8) {s Q : Nat} (hs : s < 6) (hQ : Q < 12) {w : Int32} (hw : y_in w 0 10000) : y_IK (va_up a (294 + 6 * Q + s) w) := by
  obtain ⟨h1, h2, h3, h4, h5, h6, _⟩ := h
  unfold y_IK
  rw [x_up_ne _ _ (show 13 ≠ 294 + 6 * Q + s by omega), x_up_ne _ _ (show 15 ≠ 294 + 6 * Q + s by omega), x_up_ne _ _ (show 0 ≠ 294 + 6 * Q + s by omega), x_up_ne _ _ (show 11 ≠ 294 + 6 * Q + s by omega), x_up_ne _ _ (show 16 ≠ 294 + 6 * Q + s by omega)]
  refine ⟨h1, h2, fun k hk => by rw [x_up_ne _ _ (by omega)]; exact h3 k hk, fun j hj => ?_, h5, h6, fun z => absurd z h8⟩
  by_cases e : 294 + j = 294 + 6 * Q + s
  · rw [e, x_up_self]; exact hw
  · rw [x_up_ne _ _ e]; exact h4 j hj
end
theorem sim_setIndex (T : y_T N I L R) {u : Int32} {v : Int32} {w : Int32} : y_OV N X mL_setIndex [.ref 0, .int u, .int v, .int w] mX9_setIndex [.ref 225, .int u, .int v, .int w] I L R := by
  have T0 := T
  obtain ⟨a, b, kn, ks, bf, bn, ep, ⟨β, δ, γ, ν, hB⟩, hM, hI⟩ := T
  have H : y_CS N I L R β a b := ⟨hM.1, hB.1.2.1, hB.1.2.2.2.2.1, hB.2.2.2.2.2.1, hI.1⟩
  obtain ⟨Ns, Np, Nl, Nm, Z⟩ := Z_of hI.1
  have hR := hM.1
  have ha : I 226 = a := hM.2.1
  have hb : L 229 = b := hM.2.2.1
  subst ha
  subst hb
  obtain ⟨hNs, hn, hNp, hp, hNl, hl, hNm, hmm⟩ := id Z
  by_cases h0 : 0 ≤ u ∧ u ≤ 11
  · obtain ⟨Q, hQ, rfl⟩ := ib_of kn_11 (by omega) h0
    replace hQ : Q < 12 := by omega
    by_cases h1 : 0 ≤ v ∧ v ≤ I 226 8 - 1
    · obtain ⟨s, hs, rfl⟩ := in_of hn (by omega) h1
      by_cases h2 : 1 ≤ w ∧ w ≤ 10000
      · skip
        by_cases h3 : I 226 0 = 3
        · skip
          obtain ⟨I0, L0, hk, S1, fr, sm⟩ := keep_ok (X := X) hB (h60_of (h_IL H))
          have H1 : y_CS N I0 L0 R β (I 226) (L 229) := ⟨hR, h_β H, h_S H, S1.2.2.2.2.2.1, hI.1⟩
          have hβ := h_β H
          have k1 := w_setIndex (kx_setIndex H Z hk H1 hQ hs h2 h3 )
          have out : ∀ cc, (∀ j, j < 22 → ¬ cc = β + j) → (va_up I0 (β + 15) (va_up (I0 (β + 15)) (s * 12 + Q) w)) cc = I0 cc ∧ L0 cc = L0 cc := fun cc ho => ⟨(x_up_ne _ _ (ho 15 (by decide))), rfl⟩
          have M1 := SM_f (I' := (va_up I0 (β + 15) (va_up (I0 (β + 15)) (s * 12 + Q) w))) (L' := L0) hM hR (fun cc z1 z2 => ⟨(out cc (fun j hj => sl_far hβ (Or.inr z1) hj)).1.trans (fr cc z1).1, ((out cc (fun j hj => sl_far hβ (Or.inr z1) hj)).2.trans (fr cc z1).2)⟩)
          obtain ⟨I2, L2, hk9, M2, t6, l25, fr9⟩ := keeps_ok (X := X) (SM_tw (t := 0) M1)
          have m1 := mx_setIndex hR M1.2.1 Z hk9 M2.2.1 hQ hs h2 h3 
          refine OV_c (a' := (va_up (I 226) (294 + 6 * Q + s) w)) (b' := (L 229)) k1 ⟨β, δ, γ, _, SB_u S1 out ?_⟩ m1 ?_ (SM_a M2) (fr_t fr_tw (fr_t fr9 fr_a)) (In_p (by omega) hI ?_)
          · exact ⟨(by rw [x_up_ne _ _ (show β ≠ β + 15 by omega)]; exact (h_ph H1).trans (show _ = _ from (x_up_ne _ _ (by omega))).symm), RT_c (fun k z1 z2 => by rw [x_up_ne _ _ (show β + k ≠ β + 15 by omega)]) (fun j hj => x_up_ne _ _ (by omega)) (h_T H1), RC_c (fun k z1 z2 => by rw [x_up_ne _ _ (show β + k ≠ β + 15 by omega)]) (fun j hj => x_up_ne _ _ (by omega)) (h_C H1), RB_c (fun k z1 z2 => by rw [x_up_ne _ _ (show β + k ≠ β + 15 by omega)]) (by rw [x_up_ne _ _ (by omega)]) (fun j hj => x_up_ne _ _ (by omega)) (h_B H1), RK_ix (h_K H1) (by omega) hQ, RL_c (fun k z1 z2 => by rw [x_up_ne _ _ (show β + k ≠ β + 15 by omega)]) (fun j hj => x_up_ne _ _ (by omega)) (h60_of (h_IL H)) (h_L H1)⟩
          · exact t6
          · have z8 : ¬ I 226 0 = 8 := by rw [h3]; decide
            exact ⟨IT_c (by rw [x_up_ne _ _ (by omega)]; exact (h_IT H).1) (fun j hj => x_up_ne _ _ (by omega)) (h_IT H), IC_c (fun j hj => x_up_ne _ _ (by omega)) (h_IC H), IB_c (by omega) (fun z => by rw [x_up_ne _ _ (by omega)] at z; exact z) (fun j hj => x_up_ne _ _ (by omega)) (h_IB H), IV_c (fun j hj => x_up_ne _ _ (by omega)) (h_IV H), IK_ix (h_IK H) z8 (by omega) hQ ⟨Int.le_trans (by decide) (in_w h2).1, (in_w h2).2⟩, IL_c (fun j hj => x_up_ne _ _ (by omega)) (h_IL H), (fun j hj => (x_up_ne _ _ (by omega)).trans (hI.1.2.2.2.2.2.2.1 j hj)), hI.1.2.2.2.2.2.2.2⟩
        · exact OV_x T0 (w_setIndex_x0 (kf_setIndex_3 H Z hQ hs h2 h3)) (mf_setIndex_3 hR Z hQ hs h2 h3)
      · exact OV_x T0 (w_setIndex_x1 (kf_setIndex_2 H Z hQ hs h2)) (mf_setIndex_2 hR Z hQ hs h2)
    · exact OV_x T0 (w_setIndex_x2 (kf_setIndex_1 H Z hQ h1)) (mf_setIndex_1 hR Z hQ h1)
  · exact OV_x T0 (w_setIndex_x2 (kf_setIndex_0 H Z h0)) (mf_setIndex_0 hR Z h0)
end

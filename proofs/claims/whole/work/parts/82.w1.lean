/-! ===== changes of both, first (laid by wip/whole/src/w1.py) ===== -/
section
variable {X : x_X} {I : Nat → Nat → Int32} {L : Nat → Nat → Int64} {R : Nat → Nat → Option Nat} {N : Nat}
theorem c_X0_setRate (hR : x_wf R) {β : Nat} (hβ : x_sl β) {q : Nat} (hq : q < 8) {s : Nat} (hs : s < 6) {w : Int32} : x_Cv X mX0_setRate [.ref (β + 7), .int (Int32.ofNat q), .int (Int32.ofNat s), .int w] (I, L, R) 233 (.inl none, (va_up I (β + 9) (va_up (I (β + 9)) (q * 6 + s) w), L, R), 233) := by
  show x_Ev X mX0_setRate 0 [some (.ref (β + 7)), some (.int (Int32.ofNat q)), some (.int (Int32.ofNat s)), some (.int w)] [] ((I, L, R), 233, 0, 0) _
  refine f_aload_n (M := mX0_setRate) 1 dX0_setRate_0 rfl rfl ?_
  refine e_getR (M := mX0_setRate) dX0_setRate_1 fl_15 (x_kk rfl) (sl_lt hβ 7 rfl) (sl_s hβ 7 rfl rfl) (wf_0_1 hR hβ) ?_
  refine f_iload_n (M := mX0_setRate) 5 dX0_setRate_4 rfl rfl ?_
  refine f_bipush (M := mX0_setRate) 7 dX0_setRate_5 kb_6 rfl ?_
  refine f_imul (M := mX0_setRate) 8 dX0_setRate_7 rfl ?_
  refine f_iload_n (M := mX0_setRate) 9 dX0_setRate_8 rfl rfl ?_
  refine f_iadd (M := mX0_setRate) 10 dX0_setRate_9 rfl ?_
  refine f_iload_n (M := mX0_setRate) 11 dX0_setRate_10 rfl rfl ?_
  refine e_ist (M := mX0_setRate) (w := 48) (j := ((q) * (6)) + (s)) dX0_setRate_11 (sl_lt hβ 9 rfl) (sl_shp hβ 9 rfl) (ix_add (ix_mul rfl kn_6) rfl) (by omega) (by omega) ?_
  refine e_rv (M := mX0_setRate) dX0_setRate_12 rfl (x_kk rfl) (x_kk rfl) ?_
  rfl
theorem m_setsBid (hR : x_wf R) {I0 : Nat → Nat → Int32} {L0 : Nat → Nat → Int64} (hk : x_Cv X mX9_keeps [.ref 225] (I, L, R) 233 (.inl none, (I0, L0, R), 233)) {q j : Nat} (hq : q < 8) (hj : j < 8) {w : Int32} : x_Cv X mX9_setsBid [.ref 225, .int (Int32.ofNat q), .int (Int32.ofNat j), .int w] (I, L, R) 233 (.inl (some (.int (I0 226 (224 + 8 * q + j)))), (va_up I0 226 (va_up (I0 226) (224 + 8 * q + j) w), L0, R), 233) := by
  show x_Ev X mX9_setsBid 0 [some (.ref 225), some (.int (Int32.ofNat q)), some (.int (Int32.ofNat j)), some (.int w), none] [] ((I, L, R), 233, 0, 0) _
  refine f_aload_n (M := mX9_setsBid) 1 dX9_setsBid_0 rfl rfl ?_
  refine e_cV (M := mX9_setsBid) [] 0 0 dX9_setsBid_1 pa_9128 pb_9128 cc_9128 rfl rfl rfl rfl rfl (x_kk rfl) (x_kk rfl) rfl (hk) rfl ?_
  refine f_aload_n (M := mX9_setsBid) 5 dX9_setsBid_4 rfl rfl ?_
  refine f_iload_n (M := mX9_setsBid) 6 dX9_setsBid_5 rfl rfl ?_
  refine f_iload_n (M := mX9_setsBid) 7 dX9_setsBid_6 rfl rfl ?_
  refine e_cV (M := mX9_setsBid) [_] 0 0 dX9_setsBid_7 pa_9182 pb_9182 cc_9182 rfl rfl rfl rfl rfl (x_kk rfl) (x_kk rfl) rfl (c_X9_ofBid hR hq hj) rfl ?_
  refine f_istore (M := mX9_setsBid) (ls' := [_, _, _, _, _]) 12 dX9_setsBid_10 rfl rfl rfl ?_
  refine f_aload_n (M := mX9_setsBid) 13 dX9_setsBid_12 rfl rfl ?_
  refine e_getR (M := mX9_setsBid) dX9_setsBid_13 fl_9007 (x_kk rfl) (x_kk rfl) rfl (wf_9_0 hR) ?_
  refine f_sipush (M := mX9_setsBid) 19 dX9_setsBid_16 ks_224 rfl ?_
  refine f_bipush (M := mX9_setsBid) 21 dX9_setsBid_19 kb_8 rfl ?_
  refine f_iload_n (M := mX9_setsBid) 22 dX9_setsBid_21 rfl rfl ?_
  refine f_imul (M := mX9_setsBid) 23 dX9_setsBid_22 rfl ?_
  refine f_iadd (M := mX9_setsBid) 24 dX9_setsBid_23 rfl ?_
  refine f_iload_n (M := mX9_setsBid) 25 dX9_setsBid_24 rfl rfl ?_
  refine f_iadd (M := mX9_setsBid) 26 dX9_setsBid_25 rfl ?_
  refine f_iload_n (M := mX9_setsBid) 27 dX9_setsBid_26 rfl rfl ?_
  refine e_ist (M := mX9_setsBid) (w := 606) (j := ((224) + ((8) * (q))) + (j)) dX9_setsBid_27 (x_kk rfl) rfl (ix_add (ix_add kn_224 (ix_mul kn_8 rfl)) rfl) (by omega) (by omega) ?_
  refine f_iload (M := mX9_setsBid) 30 dX9_setsBid_28 rfl rfl ?_
  refine e_ri (M := mX9_setsBid) dX9_setsBid_30 rfl (x_kk rfl) (x_kk rfl) ?_
  rfl
theorem kx_offer {N β : Nat} {a : Nat → Int32} {b : Nat → Int64} (H : y_CS N I L R β a b) {Ns Np Nl Nm : Nat} (Z : y_Z a Ns Np Nl Nm) {I0 : Nat → Nat → Int32} {L0 : Nat → Nat → Int64} (hk : x_Cv X mX3_keep [.ref 3, .ref β] (I, L, R) 233 (.inl none, (I0, L0, R), 233)) (H1 : y_CS N I0 L0 R β a b) {w : Int32} {q : Nat} (hq : q < 8) {s : Nat} (hs : s < Ns) (h2 : 0 ≤ w ∧ w ≤ 1000000) (h3 : a 0 = 1 ∨ a 0 = 6) (h4 : ¬ 0 < a (224 + 8 * q + 7))  : x_Cv X mX8_offer [.ref 0, .int (Int32.ofNat q), .int (Int32.ofNat s), .int w] (I, L, R) 233 (.inl (some (.int (a (224 + 8 * q + s)))), ((va_up I0 (β + 9) (va_up (I0 (β + 9)) (q * 6 + s) w)), L0, R), 233) := by
  obtain ⟨hNs, hn, hNp, hp, hNl, hl, hNm, hmm⟩ := Z
  have hR := h_R H
  have hβ := h_β H
  have hS := h_S H
  show x_Ev X mX8_offer 0 [some (.ref 0), some (.int (Int32.ofNat q)), some (.int (Int32.ofNat s)), some (.int w), none] [] ((I, L, R), 233, 0, 0) _
  refine f_iload_n (M := mX8_offer) 1 dX8_offer_0 rfl rfl ?_
  refine e_cS (M := mX8_offer) [_] 0 0 dX8_offer_1 pa_8164 cc_8164 rfl rfl rfl rfl rfl (x_kk rfl) (x_kk rfl) rfl (c_X8_isBidder) rfl ?_
  refine e_if_eqF (M := mX8_offer) 19 dX8_offer_4 rfl (x_bn (ib_ok kn_7 (by omega) (by omega))) ?_
  refine f_aload_n (M := mX8_offer) 8 dX8_offer_7 rfl rfl ?_
  refine f_iload_n (M := mX8_offer) 9 dX8_offer_8 rfl rfl ?_
  refine e_cV (M := mX8_offer) [_] 0 0 dX8_offer_9 pa_8161 pb_8161 cc_8161 rfl rfl rfl rfl rfl (x_kk rfl) (x_kk rfl) rfl (k_isSpecies H) rfl ?_
  refine e_if_eqF (M := mX8_offer) 19 dX8_offer_12 rfl (x_bn (in_ok hn (by omega) hs)) ?_
  refine f_iconst (M := mX8_offer) 16 dX8_offer_15 ki_1 rfl ?_
  refine f_goto (M := mX8_offer) 20 dX8_offer_16 rfl ?_
  refine e_cS (M := mX8_offer) [] 1 6 dX8_offer_20 pa_8103 cc_8103 rfl rfl rfl rfl rfl (x_kk rfl) (x_kk rfl) rfl (c_X8_requireExisting (by decide)) rfl ?_
  refine f_iload_n (M := mX8_offer) 24 dX8_offer_23 rfl rfl ?_
  refine f_iconst (M := mX8_offer) 25 dX8_offer_24 ki_0 rfl ?_
  refine f_ldcI (M := mX8_offer) 27 dX8_offer_25 (x_kk rfl) cst_8167 rfl ?_
  refine e_cS (M := mX8_offer) [_] 1 6 dX8_offer_27 pa_8049 cc_8049 rfl rfl rfl rfl rfl (x_kk rfl) (x_kk rfl) rfl (c_X8_isIn (lo := 0) (hi := 1000000)) rfl ?_
  refine e_cS (M := mX8_offer) [] 2 12 dX8_offer_30 pa_8053 cc_8053 rfl rfl rfl rfl rfl (x_kk rfl) (x_kk rfl) rfl (c_X8_requireArgument (x_bn h2)) rfl ?_
  refine f_aload_n (M := mX8_offer) 34 dX8_offer_33 rfl rfl ?_
  refine e_getR (M := mX8_offer) dX8_offer_34 fl_8026 (x_kk rfl) (x_kk rfl) rfl hS ?_
  refine e_cV (M := mX8_offer) [_] 2 12 dX8_offer_37 pa_8168 pb_8168 cc_8168 rfl rfl rfl rfl rfl (x_kk rfl) (x_kk rfl) (x_rcvOK (sl_lt hβ 0 rfl) (sl_s hβ 0 rfl rfl) rfl) (k_isBidding H) rfl ?_
  refine e_if_eqF (M := mX8_offer) 61 dX8_offer_40 rfl (x_bn h3) ?_
  refine f_aload_n (M := mX8_offer) 44 dX8_offer_43 rfl rfl ?_
  refine e_getR (M := mX8_offer) dX8_offer_44 fl_8026 (x_kk rfl) (x_kk rfl) rfl hS ?_
  refine e_getR (M := mX8_offer) dX8_offer_47 fl_8148 (x_kk rfl) (sl_lt hβ 0 rfl) (sl_s hβ 0 rfl rfl) (wf_6_3 hR hβ) ?_
  refine f_iload_n (M := mX8_offer) 51 dX8_offer_50 rfl rfl ?_
  refine e_cV (M := mX8_offer) [_] 2 12 dX8_offer_51 pa_8171 pb_8171 cc_8171 rfl rfl rfl rfl rfl (x_kk rfl) (x_kk rfl) (x_rcvOK (sl_lt hβ 7 rfl) (sl_s hβ 7 rfl rfl) rfl) (k_isSealed H hq) rfl ?_
  refine e_if_neF (M := mX8_offer) 61 dX8_offer_54 rfl (x_bnn h4) ?_
  refine f_iconst (M := mX8_offer) 58 dX8_offer_57 ki_1 rfl ?_
  refine f_goto (M := mX8_offer) 62 dX8_offer_58 rfl ?_
  refine e_cS (M := mX8_offer) [] 3 18 dX8_offer_62 pa_8037 cc_8037 rfl rfl rfl rfl rfl (x_kk rfl) (x_kk rfl) rfl (c_X8_requireState (by decide)) rfl ?_
  refine f_aload_n (M := mX8_offer) 66 dX8_offer_65 rfl rfl ?_
  refine e_getR (M := mX8_offer) dX8_offer_66 fl_8019 (x_kk rfl) (x_kk rfl) rfl (wf_8_1 hR) ?_
  refine f_aload_n (M := mX8_offer) 70 dX8_offer_69 rfl rfl ?_
  refine e_getR (M := mX8_offer) dX8_offer_70 fl_8026 (x_kk rfl) (x_kk rfl) rfl hS ?_
  refine e_cV (M := mX8_offer) [] 3 18 dX8_offer_73 pa_8060 pb_8060 cc_8060 rfl rfl rfl rfl rfl (x_kk rfl) (x_kk rfl) rfl (hk) rfl ?_
  refine f_aload_n (M := mX8_offer) 77 dX8_offer_76 rfl rfl ?_
  refine e_getR (M := mX8_offer) dX8_offer_77 fl_8026 (x_kk rfl) (x_kk rfl) rfl hS ?_
  refine e_getR (M := mX8_offer) dX8_offer_80 fl_8148 (x_kk rfl) (sl_lt hβ 0 rfl) (sl_s hβ 0 rfl rfl) (wf_6_3 hR hβ) ?_
  refine f_iload_n (M := mX8_offer) 84 dX8_offer_83 rfl rfl ?_
  refine f_iload_n (M := mX8_offer) 85 dX8_offer_84 rfl rfl ?_
  refine e_cV (M := mX8_offer) [_] 3 18 dX8_offer_85 pa_8174 pb_8174 cc_8174 rfl rfl rfl rfl rfl (x_kk rfl) (x_kk rfl) (x_rcvOK (sl_lt hβ 7 rfl) (sl_s hβ 7 rfl rfl) rfl) (k_rateOf H1 hq (by omega)) rfl ?_
  refine f_istore (M := mX8_offer) (ls' := [_, _, _, _, _]) 90 dX8_offer_88 rfl rfl rfl ?_
  refine f_aload_n (M := mX8_offer) 91 dX8_offer_90 rfl rfl ?_
  refine e_getR (M := mX8_offer) dX8_offer_91 fl_8026 (x_kk rfl) (x_kk rfl) rfl hS ?_
  refine e_getR (M := mX8_offer) dX8_offer_94 fl_8148 (x_kk rfl) (sl_lt hβ 0 rfl) (sl_s hβ 0 rfl rfl) (wf_6_3 hR hβ) ?_
  refine f_iload_n (M := mX8_offer) 98 dX8_offer_97 rfl rfl ?_
  refine f_iload_n (M := mX8_offer) 99 dX8_offer_98 rfl rfl ?_
  refine f_iload_n (M := mX8_offer) 100 dX8_offer_99 rfl rfl ?_
  refine e_cV (M := mX8_offer) [] 3 18 dX8_offer_100 pa_8177 pb_8177 cc_8177 rfl rfl rfl rfl rfl (x_kk rfl) (x_kk rfl) (x_rcvOK (sl_lt hβ 7 rfl) (sl_s hβ 7 rfl rfl) rfl) (c_X0_setRate hR hβ hq (by omega)) rfl ?_
  refine f_iload (M := mX8_offer) 105 dX8_offer_103 rfl rfl ?_
  refine e_ri (M := mX8_offer) dX8_offer_105 rfl (x_kk rfl) (x_kk rfl) ?_
  rfl
theorem mx_offer (hR : x_wf R) {a : Nat → Int32} (ha : I 226 = a) {Ns Np Nl Nm : Nat} (Z : y_Z a Ns Np Nl Nm) {I0 : Nat → Nat → Int32} {L0 : Nat → Nat → Int64} (hk : x_Cv X mX9_keeps [.ref 225] (x_tw I 0, L, R) 233 (.inl none, (I0, L0, R), 233)) (ha0 : I0 226 = a) {w : Int32} {q : Nat} (hq : q < 8) {s : Nat} (hs : s < Ns) (h2 : 0 ≤ w ∧ w ≤ 1000000) (h3 : a 0 = 1 ∨ a 0 = 6) (h4 : ¬ 0 < a (224 + 8 * q + 7))  : x_Cv X mX9_offer [.ref 225, .int (Int32.ofNat q), .int (Int32.ofNat s), .int w] (I, L, R) 233 (.inl (some (.int (a (224 + 8 * q + s)))), (va_up I0 226 (va_up a (224 + 8 * q + s) w), L0, R), 233) := by
  subst ha
  obtain ⟨hNs, hn, hNp, hp, hNl, hl, hNm, hmm⟩ := Z
  show x_Ev X mX9_offer 0 [some (.ref 225), some (.int (Int32.ofNat q)), some (.int (Int32.ofNat s)), some (.int w)] [] ((I, L, R), 233, 0, 0) _
  refine f_aload_n (M := mX9_offer) 1 dX9_offer_0 rfl rfl ?_
  refine f_iload_n (M := mX9_offer) 2 dX9_offer_1 rfl rfl ?_
  refine e_cS (M := mX9_offer) [_, _] 0 0 dX9_offer_2 pa_9185 cc_9185 rfl rfl rfl rfl rfl (x_kk rfl) (x_kk rfl) rfl (c_X9_isBidder) rfl ?_
  refine e_if_eqF (M := mX9_offer) 16 dX9_offer_5 rfl (x_bn (ib_ok kn_7 (by omega) (by omega))) ?_
  refine f_aload_n (M := mX9_offer) 9 dX9_offer_8 rfl rfl ?_
  refine f_iload_n (M := mX9_offer) 10 dX9_offer_9 rfl rfl ?_
  refine e_cV (M := mX9_offer) [_, _] 0 0 dX9_offer_10 pa_9137 pb_9137 cc_9137 rfl rfl rfl rfl rfl (x_kk rfl) (x_kk rfl) rfl (c_X9_isSpecies hR) rfl ?_
  refine e_if_neT (M := mX9_offer) 20 dX9_offer_13 rfl (x_bn (in_ok hn (by omega) hs)) ?_
  refine f_iload_n (M := mX9_offer) 21 dX9_offer_20 rfl rfl ?_
  refine f_i2l (M := mX9_offer) 22 dX9_offer_21 rfl ?_
  refine f_lconst (M := mX9_offer) 23 dX9_offer_22 kl_0 rfl ?_
  refine f_ldc2 (M := mX9_offer) 26 dX9_offer_23 (x_kk rfl) csl_9188 rfl ?_
  refine e_cS (M := mX9_offer) [_, _] 0 0 dX9_offer_26 pa_9074 cc_9074 rfl rfl rfl rfl rfl (x_kk rfl) (x_kk rfl) rfl (c_X9_isInI (lo := 0) (hi := 1000000)) rfl ?_
  refine e_if_neT (M := mX9_offer) 36 dX9_offer_29 rfl (x_bn h2) ?_
  refine f_aload_n (M := mX9_offer) 37 dX9_offer_36 rfl rfl ?_
  refine e_cV (M := mX9_offer) [_, _] 0 0 dX9_offer_37 pa_9190 pb_9190 cc_9190 rfl rfl rfl rfl rfl (x_kk rfl) (x_kk rfl) rfl (c_X9_isBidding hR) rfl ?_
  refine e_if_eqF (M := mX9_offer) 51 dX9_offer_40 rfl (x_bn h3) ?_
  refine f_aload_n (M := mX9_offer) 44 dX9_offer_43 rfl rfl ?_
  refine f_iload_n (M := mX9_offer) 45 dX9_offer_44 rfl rfl ?_
  refine e_cV (M := mX9_offer) [_, _] 0 0 dX9_offer_45 pa_9193 pb_9193 cc_9193 rfl rfl rfl rfl rfl (x_kk rfl) (x_kk rfl) rfl (c_X9_isSealed hR hq) rfl ?_
  refine e_if_eqT (M := mX9_offer) 55 dX9_offer_48 rfl (x_b0 h4) ?_
  refine f_iconst (M := mX9_offer) 56 dX9_offer_55 ki_0 rfl ?_
  refine e_putI (M := mX9_offer) dX9_offer_56 fl_9033 (x_kk rfl) (x_kk rfl) rfl (fun q9 => Bool.noConfusion q9) ?_
  refine f_aload_n (M := mX9_offer) 60 dX9_offer_59 rfl rfl ?_
  refine e_getI (M := mX9_offer) dX9_offer_60 fl_9033 (x_kk rfl) (x_kk rfl) rfl ?_
  refine e_if_leT (M := mX9_offer) 70 dX9_offer_63 rfl (show (0 : Int32) ≤ 0 by decide) ?_
  refine f_aload_n (M := mX9_offer) 71 dX9_offer_70 rfl rfl ?_
  refine f_iload_n (M := mX9_offer) 72 dX9_offer_71 rfl rfl ?_
  refine f_iload_n (M := mX9_offer) 73 dX9_offer_72 rfl rfl ?_
  refine f_iload_n (M := mX9_offer) 74 dX9_offer_73 rfl rfl ?_
  refine e_cV (M := mX9_offer) [_] 0 0 dX9_offer_74 pa_9196 pb_9196 cc_9196 rfl rfl rfl rfl rfl (x_kk rfl) (x_kk rfl) rfl (m_setsBid hR hk hq (by omega)) rfl ?_
  refine e_ri (M := mX9_offer) dX9_offer_77 rfl (x_kk rfl) (x_kk rfl) ?_
  exact (by rw [ha0])
section
variable {I' : Nat → Nat → Int32} {β : Nat} {a a' : Nat → Int32}
theorem ph0 {P : Int32} (h : P = 1 ∨ P = 6) : ¬ P = 0 ∧ ¬ P = 8 ∧ ¬ 3 ≤ P ∨ P = 6 := by
  rcases h with rfl | rfl
  · exact Or.inl (by decide)
  · exact Or.inr rfl
/-- a bid's places -/
theorem IB_u {M : Nat} (h0 : ¬ a 0 = 0) (h : y_IB N a) (hM : N ≤ M) {q i : Nat} (hq : q < 8) (hi : i < 7) {w : Int32} (hw : if i < 6 then y_in w 0 1000000 else y_in w 0 1000000000) : y_IB M (va_up a (224 + 8 * q + i) w) := by
  obtain ⟨h1, h2, h3, h4⟩ := h
  unfold y_IB
  rw [x_up_ne _ _ (show 10 ≠ 224 + 8 * q + i by omega), x_up_ne _ _ (show 0 ≠ 224 + 8 * q + i by omega)]
  refine ⟨⟨h1.1, Int.le_trans h1.2 (by omega)⟩, fun k hk => ⟨fun s hs => ?_, ?_, ?_⟩, fun k j hk hj hne => ?_, fun z => absurd z h0⟩
  · by_cases e : 224 + 8 * k + s = 224 + 8 * q + i
    · rw [e, x_up_self]
      rw [if_pos (by omega)] at hw
      exact hw
    · rw [x_up_ne _ _ e]; exact (h2 k hk).1 s hs
  · by_cases e : 224 + 8 * k + 6 = 224 + 8 * q + i
    · rw [e, x_up_self]
      rw [if_neg (by omega)] at hw
      exact hw
    · rw [x_up_ne _ _ e]; exact (h2 k hk).2.1
  · rw [x_up_ne _ _ (by omega)]; exact (h2 k hk).2.2
  · rw [x_up_ne _ _ (by omega), x_up_ne _ _ (by omega)]
    exact h3 k j hk hj hne
theorem RB_rate (h : y_RB I β a) {q s : Nat} (hq : q < 8) (hs : s < 6) {w : Int32} : y_RB (va_up I (β + 9) (va_up (I (β + 9)) (q * 6 + s) w)) β (va_up a (224 + 8 * q + s) w) := by
  obtain ⟨h1, h2, h3, h4, h5, h7⟩ := h
  refine ⟨fun k hk => ?_, fun k hk j hj => ?_, fun k hk => ?_, fun k hk => ?_, ?_, ?_⟩
  · rw [x_up_ne _ _ (show β + 8 ≠ β + 9 by omega), h1 k hk]
    exact (vol_c (by rw [x_up_ne _ _ (by omega)]) (fun j hj => x_up_ne _ _ (by omega)) hk).symm
  · rw [x_up_self]
    by_cases e : k * 6 + j = q * 6 + s
    · rw [e, show 224 + 8 * k + j = 224 + 8 * q + s by omega, x_up_self, x_up_self]
    · rw [x_up_ne _ _ e, x_up_ne _ _ (by omega)]; exact h2 k hk j hj
  · rw [x_up_ne _ _ (show β + 10 ≠ β + 9 by omega), x_up_ne _ _ (by omega)]; exact h3 k hk
  · rw [x_up_ne _ _ (show β + 11 ≠ β + 9 by omega), x_up_ne _ _ (by omega)]; exact h4 k hk
  · rw [x_up_ne _ _ (show β + 7 ≠ β + 9 by omega), x_up_ne _ _ (by omega)]; exact h5
  · rw [x_up_ne _ _ (show β + 7 ≠ β + 9 by omega), x_up_ne _ _ (show 0 ≠ 224 + 8 * q + s by omega), x_up_ne _ _ (show 11 ≠ 224 + 8 * q + s by omega)]; exact h7
theorem RB_dep (h : y_RB I β a) {q : Nat} (hq : q < 8) {w : Int32} : y_RB (va_up I (β + 10) (va_up (I (β + 10)) q w)) β (va_up a (224 + 8 * q + 6) w) := by
  obtain ⟨h1, h2, h3, h4, h5, h7⟩ := h
  refine ⟨fun k hk => ?_, fun k hk j hj => ?_, fun k hk => ?_, fun k hk => ?_, ?_, ?_⟩
  · rw [x_up_ne _ _ (show β + 8 ≠ β + 10 by omega), h1 k hk]
    exact (vol_c (by rw [x_up_ne _ _ (by omega)]) (fun j hj => x_up_ne _ _ (by omega)) hk).symm
  · rw [x_up_ne _ _ (show β + 9 ≠ β + 10 by omega), x_up_ne _ _ (by omega)]; exact h2 k hk j hj
  · rw [x_up_self]
    by_cases e : k = q
    · rw [e, x_up_self, x_up_self]
    · rw [x_up_ne _ _ e, x_up_ne _ _ (by omega)]; exact h3 k hk
  · rw [x_up_ne _ _ (show β + 11 ≠ β + 10 by omega), x_up_ne _ _ (by omega)]; exact h4 k hk
  · rw [x_up_ne _ _ (show β + 7 ≠ β + 10 by omega), x_up_ne _ _ (by omega)]; exact h5
  · rw [x_up_ne _ _ (show β + 7 ≠ β + 10 by omega), x_up_ne _ _ (show 0 ≠ 224 + 8 * q + 6 by omega), x_up_ne _ _ (show 11 ≠ 224 + 8 * q + 6 by omega)]; exact h7
theorem in_w {w : Int32} {lo hi : Int32} (h : lo ≤ w ∧ w ≤ hi) : y_in w lo.toInt hi.toInt := ⟨t_le.mp h.1, t_le.mp h.2⟩
end
theorem sim_offer (T : y_T N I L R) {u : Int32} {v : Int32} {w : Int32} : y_OI N X mL_offer [.ref 0, .int u, .int v, .int w, .ref 232] mX9_offer [.ref 225, .int u, .int v, .int w] I L R := by
  have T0 := T
  obtain ⟨a, b, kn, ks, bf, bn, ep, ⟨β, δ, γ, ν, hB⟩, hM, hI⟩ := T
  have H : y_CS N I L R β a b := ⟨hM.1, hB.1.2.1, hB.1.2.2.2.2.1, hB.2.2.2.2.2.1, hI.1⟩
  obtain ⟨Ns, Np, Nl, Nm, Z⟩ := Z_of hI.1
  have hR := hM.1
  have ha : I 226 = a := hM.2.1
  have hb : L 229 = b := hM.2.2.1
  subst ha
  subst hb
  obtain ⟨hNs, hn, hNp, hp, hNl, hl, hNm, hmm⟩ := id Z
  by_cases h0 : 0 ≤ u ∧ u ≤ 7
  · obtain ⟨q, hq, rfl⟩ := ib_of kn_7 (by omega) h0
    replace hq : q < 8 := by omega
    by_cases h1 : 0 ≤ v ∧ v ≤ I 226 8 - 1
    · obtain ⟨s, hs, rfl⟩ := in_of hn (by omega) h1
      by_cases h2 : 0 ≤ w ∧ w ≤ 1000000
      · skip
        by_cases h3 : I 226 0 = 1 ∨ I 226 0 = 6
        · skip
          by_cases h4 : ¬ 0 < I 226 (224 + 8 * q + 7)
          · skip
            obtain ⟨I0, L0, hk, S1, fr, sm⟩ := keep_ok (X := X) hB (h60_of (h_IL H))
            have H1 : y_CS N I0 L0 R β (I 226) (L 229) := ⟨hR, h_β H, h_S H, S1.2.2.2.2.2.1, hI.1⟩
            have hβ := h_β H
            have k1 := w_offer (kx_offer H Z hk H1 hq hs h2 h3 h4 )
            have out : ∀ cc, (∀ j, j < 22 → ¬ cc = β + j) → (va_up I0 (β + 9) (va_up (I0 (β + 9)) (q * 6 + s) w)) cc = I0 cc ∧ L0 cc = L0 cc := fun cc ho => ⟨(x_up_ne _ _ (ho 9 (by decide))), rfl⟩
            have M1 := SM_f (I' := (va_up I0 (β + 9) (va_up (I0 (β + 9)) (q * 6 + s) w))) (L' := va_up L0 232 (va_up (L0 232) 0 (I 226 (224 + 8 * q + s)).toInt64)) hM hR (fun cc z1 z2 => ⟨(out cc (fun j hj => sl_far hβ (Or.inr z1) hj)).1.trans (fr cc z1).1, (x_up_ne _ _ (by omega)).trans ((out cc (fun j hj => sl_far hβ (Or.inr z1) hj)).2.trans (fr cc z1).2)⟩)
            obtain ⟨I2, L2, hk9, M2, t6, l25, fr9⟩ := keeps_ok (X := X) (SM_tw (t := 0) M1)
            have m1 := mx_offer hR M1.2.1 Z hk9 M2.2.1 hq hs h2 h3 h4 
            refine OI_c (a' := (va_up (I 226) (224 + 8 * q + s) w)) (b' := (L 229)) k1 ⟨β, δ, γ, _, SB_u S1 out ?_⟩ m1 ?_ (SM_a M2) (fr_t fr_tw (fr_t fr9 fr_a)) (In_p (by omega) hI ?_)
            · have d1 := h_ph H1
              exact ⟨(congrFun (x_up_ne _ _ (show β ≠ β + 9 by omega)) 0).trans (d1.trans (x_up_ne _ _ (by omega)).symm), RT_c (fun k z1 z2 => x_up_ne _ _ (by omega)) (fun j hj => x_up_ne _ _ (by omega)) (h_T H1), RC_c (fun k z1 z2 => x_up_ne _ _ (by omega)) (fun j hj => x_up_ne _ _ (by omega)) (h_C H1), RB_rate (h_B H1) hq (by omega), RK_c (fun k z1 z2 => x_up_ne _ _ (by omega)) rfl rfl (fun z => by rw [x_up_ne _ _ (by omega)] at z; exact z) (fun j hj => x_up_ne _ _ (by omega)) (h_K H1), RL_c (fun k z1 z2 => x_up_ne _ _ (by omega)) (fun j hj => x_up_ne _ _ (by omega)) (h60_of (h_IL H)) (h_L H1)⟩
            · exact t6
            · have z0 : ¬ I 226 0 = 0 := by rcases h3 with z | z <;> rw [z] <;> decide
              have z8 : ¬ I 226 0 = 8 := by rcases h3 with z | z <;> rw [z] <;> decide
              exact ⟨IT_c (by rw [x_up_ne _ _ (by omega)]; exact (h_IT H).1) (fun j hj => x_up_ne _ _ (by omega)) (h_IT H), IC_c (fun j hj => x_up_ne _ _ (by omega)) (h_IC H), IB_u z0 (h_IB H) (by omega) hq (by omega) (by rw [if_pos (by omega)]; exact in_w h2), IV_c (fun j hj => x_up_ne _ _ (by omega)) (h_IV H), IK_c (fun j hj => x_up_ne _ _ (by omega)) z8 (h_IK H), IL_c (fun j hj => x_up_ne _ _ (by omega)) (h_IL H), fun j hj => (x_up_ne _ _ (by omega)).trans (hI.1.2.2.2.2.2.2.1 j hj), hI.1.2.2.2.2.2.2.2⟩
          · exact OI_x T0 (by decide) (w_offer_x0 (kf_offer_4 H Z hq hs h2 h3 h4)) (mf_offer_4 hR Z hq hs h2 h3 h4)
        · exact OI_x T0 (by decide) (w_offer_x0 (kf_offer_3 H Z hq hs h2 h3)) (mf_offer_3 hR Z hq hs h2 h3)
      · exact OI_x T0 (by decide) (w_offer_x1 (kf_offer_2 H Z hq hs h2)) (mf_offer_2 hR Z hq hs h2)
    · exact OI_x T0 (by decide) (w_offer_x2 (kf_offer_1 H Z hq h1)) (mf_offer_1 hR Z hq h1)
  · exact OI_x T0 (by decide) (w_offer_x2 (kf_offer_0 H Z h0)) (mf_offer_0 hR Z h0)
theorem kx_setDeposit {N β : Nat} {a : Nat → Int32} {b : Nat → Int64} (H : y_CS N I L R β a b) {Ns Np Nl Nm : Nat} (Z : y_Z a Ns Np Nl Nm) {I0 : Nat → Nat → Int32} {L0 : Nat → Nat → Int64} (hk : x_Cv X mX3_keep [.ref 3, .ref β] (I, L, R) 233 (.inl none, (I0, L0, R), 233)) (H1 : y_CS N I0 L0 R β a b) {w : Int32} {q : Nat} (hq : q < 8) (h1 : 0 ≤ w ∧ w ≤ 1000000000) (h2 : a 0 = 1 ∨ a 0 = 6) (h3 : ¬ 0 < a (224 + 8 * q + 7))  : x_Cv X mX8_setDeposit [.ref 0, .int (Int32.ofNat q), .int w] (I, L, R) 233 (.inl (some (.int (a (224 + 8 * q + 6)))), ((va_up I0 (β + 10) (va_up (I0 (β + 10)) q w)), L0, R), 233) := by
  obtain ⟨hNs, hn, hNp, hp, hNl, hl, hNm, hmm⟩ := Z
  have hR := h_R H
  have hβ := h_β H
  have hS := h_S H
  show x_Ev X mX8_setDeposit 0 [some (.ref 0), some (.int (Int32.ofNat q)), some (.int w), none] [] ((I, L, R), 233, 0, 0) _
  refine f_iload_n (M := mX8_setDeposit) 1 dX8_setDeposit_0 rfl rfl ?_
  refine e_cS (M := mX8_setDeposit) [_] 0 0 dX8_setDeposit_1 pa_8164 cc_8164 rfl rfl rfl rfl rfl (x_kk rfl) (x_kk rfl) rfl (c_X8_isBidder) rfl ?_
  refine e_cS (M := mX8_setDeposit) [] 1 6 dX8_setDeposit_4 pa_8103 cc_8103 rfl rfl rfl rfl rfl (x_kk rfl) (x_kk rfl) rfl (c_X8_requireExisting (x_bn (ib_ok kn_7 (by omega) (by omega)))) rfl ?_
  refine f_iload_n (M := mX8_setDeposit) 8 dX8_setDeposit_7 rfl rfl ?_
  refine f_iconst (M := mX8_setDeposit) 9 dX8_setDeposit_8 ki_0 rfl ?_
  refine f_ldcI (M := mX8_setDeposit) 11 dX8_setDeposit_9 (x_kk rfl) cst_8181 rfl ?_
  refine e_cS (M := mX8_setDeposit) [_] 1 6 dX8_setDeposit_11 pa_8049 cc_8049 rfl rfl rfl rfl rfl (x_kk rfl) (x_kk rfl) rfl (c_X8_isIn (lo := 0) (hi := 1000000000)) rfl ?_
  refine e_cS (M := mX8_setDeposit) [] 2 12 dX8_setDeposit_14 pa_8053 cc_8053 rfl rfl rfl rfl rfl (x_kk rfl) (x_kk rfl) rfl (c_X8_requireArgument (x_bn h1)) rfl ?_
  refine f_aload_n (M := mX8_setDeposit) 18 dX8_setDeposit_17 rfl rfl ?_
  refine e_getR (M := mX8_setDeposit) dX8_setDeposit_18 fl_8026 (x_kk rfl) (x_kk rfl) rfl hS ?_
  refine e_cV (M := mX8_setDeposit) [_] 2 12 dX8_setDeposit_21 pa_8168 pb_8168 cc_8168 rfl rfl rfl rfl rfl (x_kk rfl) (x_kk rfl) (x_rcvOK (sl_lt hβ 0 rfl) (sl_s hβ 0 rfl rfl) rfl) (k_isBidding H) rfl ?_
  refine e_if_eqF (M := mX8_setDeposit) 45 dX8_setDeposit_24 rfl (x_bn h2) ?_
  refine f_aload_n (M := mX8_setDeposit) 28 dX8_setDeposit_27 rfl rfl ?_
  refine e_getR (M := mX8_setDeposit) dX8_setDeposit_28 fl_8026 (x_kk rfl) (x_kk rfl) rfl hS ?_
  refine e_getR (M := mX8_setDeposit) dX8_setDeposit_31 fl_8148 (x_kk rfl) (sl_lt hβ 0 rfl) (sl_s hβ 0 rfl rfl) (wf_6_3 hR hβ) ?_
  refine f_iload_n (M := mX8_setDeposit) 35 dX8_setDeposit_34 rfl rfl ?_
  refine e_cV (M := mX8_setDeposit) [_] 2 12 dX8_setDeposit_35 pa_8171 pb_8171 cc_8171 rfl rfl rfl rfl rfl (x_kk rfl) (x_kk rfl) (x_rcvOK (sl_lt hβ 7 rfl) (sl_s hβ 7 rfl rfl) rfl) (k_isSealed H hq) rfl ?_
  refine e_if_neF (M := mX8_setDeposit) 45 dX8_setDeposit_38 rfl (x_bnn h3) ?_
  refine f_iconst (M := mX8_setDeposit) 42 dX8_setDeposit_41 ki_1 rfl ?_
  refine f_goto (M := mX8_setDeposit) 46 dX8_setDeposit_42 rfl ?_
  refine e_cS (M := mX8_setDeposit) [] 3 18 dX8_setDeposit_46 pa_8037 cc_8037 rfl rfl rfl rfl rfl (x_kk rfl) (x_kk rfl) rfl (c_X8_requireState (by decide)) rfl ?_
  refine f_aload_n (M := mX8_setDeposit) 50 dX8_setDeposit_49 rfl rfl ?_
  refine e_getR (M := mX8_setDeposit) dX8_setDeposit_50 fl_8019 (x_kk rfl) (x_kk rfl) rfl (wf_8_1 hR) ?_
  refine f_aload_n (M := mX8_setDeposit) 54 dX8_setDeposit_53 rfl rfl ?_
  refine e_getR (M := mX8_setDeposit) dX8_setDeposit_54 fl_8026 (x_kk rfl) (x_kk rfl) rfl hS ?_
  refine e_cV (M := mX8_setDeposit) [] 3 18 dX8_setDeposit_57 pa_8060 pb_8060 cc_8060 rfl rfl rfl rfl rfl (x_kk rfl) (x_kk rfl) rfl (hk) rfl ?_
  refine f_aload_n (M := mX8_setDeposit) 61 dX8_setDeposit_60 rfl rfl ?_
  refine e_getR (M := mX8_setDeposit) dX8_setDeposit_61 fl_8026 (x_kk rfl) (x_kk rfl) rfl hS ?_
  refine e_getR (M := mX8_setDeposit) dX8_setDeposit_64 fl_8148 (x_kk rfl) (sl_lt hβ 0 rfl) (sl_s hβ 0 rfl rfl) (wf_6_3 hR hβ) ?_
  refine e_getR (M := mX8_setDeposit) dX8_setDeposit_67 fl_8182 (x_kk rfl) (sl_lt hβ 7 rfl) (sl_s hβ 7 rfl rfl) (wf_0_2 hR hβ) ?_
  refine f_iload_n (M := mX8_setDeposit) 71 dX8_setDeposit_70 rfl rfl ?_
  refine e_ild (M := mX8_setDeposit) (w := 8) (j := q) dX8_setDeposit_71 (sl_lt hβ 10 rfl) (sl_shp hβ 10 rfl) rfl (by omega) (by omega) ?_
  refine f_istore_n (M := mX8_setDeposit) (ls' := [_, _, _, _]) 73 dX8_setDeposit_72 rfl rfl rfl ?_
  refine f_aload_n (M := mX8_setDeposit) 74 dX8_setDeposit_73 rfl rfl ?_
  refine e_getR (M := mX8_setDeposit) dX8_setDeposit_74 fl_8026 (x_kk rfl) (x_kk rfl) rfl hS ?_
  refine e_getR (M := mX8_setDeposit) dX8_setDeposit_77 fl_8148 (x_kk rfl) (sl_lt hβ 0 rfl) (sl_s hβ 0 rfl rfl) (wf_6_3 hR hβ) ?_
  refine e_getR (M := mX8_setDeposit) dX8_setDeposit_80 fl_8182 (x_kk rfl) (sl_lt hβ 7 rfl) (sl_s hβ 7 rfl rfl) (wf_0_2 hR hβ) ?_
  refine f_iload_n (M := mX8_setDeposit) 84 dX8_setDeposit_83 rfl rfl ?_
  refine f_iload_n (M := mX8_setDeposit) 85 dX8_setDeposit_84 rfl rfl ?_
  refine e_ist (M := mX8_setDeposit) (w := 8) (j := q) dX8_setDeposit_85 (sl_lt hβ 10 rfl) (sl_shp hβ 10 rfl) rfl (by omega) (by omega) ?_
  refine f_iload_n (M := mX8_setDeposit) 87 dX8_setDeposit_86 rfl rfl ?_
  refine e_ri (M := mX8_setDeposit) dX8_setDeposit_87 rfl (x_kk rfl) (x_kk rfl) ?_
  exact (by rw [(h_B H1).2.2.1 q hq])
theorem mx_setDeposit (hR : x_wf R) {a : Nat → Int32} (ha : I 226 = a) {Ns Np Nl Nm : Nat} (Z : y_Z a Ns Np Nl Nm) {I0 : Nat → Nat → Int32} {L0 : Nat → Nat → Int64} (hk : x_Cv X mX9_keeps [.ref 225] (x_tw I 0, L, R) 233 (.inl none, (I0, L0, R), 233)) (ha0 : I0 226 = a) {w : Int32} {q : Nat} (hq : q < 8) (h1 : 0 ≤ w ∧ w ≤ 1000000000) (h2 : a 0 = 1 ∨ a 0 = 6) (h3 : ¬ 0 < a (224 + 8 * q + 7))  : x_Cv X mX9_setDeposit [.ref 225, .int (Int32.ofNat q), .int w] (I, L, R) 233 (.inl (some (.int (a (224 + 8 * q + 6)))), (va_up I0 226 (va_up a (224 + 8 * q + 6) w), L0, R), 233) := by
  subst ha
  obtain ⟨hNs, hn, hNp, hp, hNl, hl, hNm, hmm⟩ := Z
  show x_Ev X mX9_setDeposit 0 [some (.ref 225), some (.int (Int32.ofNat q)), some (.int w)] [] ((I, L, R), 233, 0, 0) _
  refine f_aload_n (M := mX9_setDeposit) 1 dX9_setDeposit_0 rfl rfl ?_
  refine f_iload_n (M := mX9_setDeposit) 2 dX9_setDeposit_1 rfl rfl ?_
  refine e_cS (M := mX9_setDeposit) [_, _] 0 0 dX9_setDeposit_2 pa_9185 cc_9185 rfl rfl rfl rfl rfl (x_kk rfl) (x_kk rfl) rfl (c_X9_isBidder) rfl ?_
  refine e_if_neT (M := mX9_setDeposit) 12 dX9_setDeposit_5 rfl (x_bn (ib_ok kn_7 (by omega) (by omega))) ?_
  refine f_iload_n (M := mX9_setDeposit) 13 dX9_setDeposit_12 rfl rfl ?_
  refine f_i2l (M := mX9_setDeposit) 14 dX9_setDeposit_13 rfl ?_
  refine f_lconst (M := mX9_setDeposit) 15 dX9_setDeposit_14 kl_0 rfl ?_
  refine f_ldc2 (M := mX9_setDeposit) 18 dX9_setDeposit_15 (x_kk rfl) csl_9200 rfl ?_
  refine e_cS (M := mX9_setDeposit) [_, _] 0 0 dX9_setDeposit_18 pa_9074 cc_9074 rfl rfl rfl rfl rfl (x_kk rfl) (x_kk rfl) rfl (c_X9_isInI (lo := 0) (hi := 1000000000)) rfl ?_
  refine e_if_neT (M := mX9_setDeposit) 28 dX9_setDeposit_21 rfl (x_bn h1) ?_
  refine f_aload_n (M := mX9_setDeposit) 29 dX9_setDeposit_28 rfl rfl ?_
  refine e_cV (M := mX9_setDeposit) [_, _] 0 0 dX9_setDeposit_29 pa_9190 pb_9190 cc_9190 rfl rfl rfl rfl rfl (x_kk rfl) (x_kk rfl) rfl (c_X9_isBidding hR) rfl ?_
  refine e_if_eqF (M := mX9_setDeposit) 43 dX9_setDeposit_32 rfl (x_bn h2) ?_
  refine f_aload_n (M := mX9_setDeposit) 36 dX9_setDeposit_35 rfl rfl ?_
  refine f_iload_n (M := mX9_setDeposit) 37 dX9_setDeposit_36 rfl rfl ?_
  refine e_cV (M := mX9_setDeposit) [_, _] 0 0 dX9_setDeposit_37 pa_9193 pb_9193 cc_9193 rfl rfl rfl rfl rfl (x_kk rfl) (x_kk rfl) rfl (c_X9_isSealed hR hq) rfl ?_
  refine e_if_eqT (M := mX9_setDeposit) 47 dX9_setDeposit_40 rfl (x_b0 h3) ?_
  refine f_iconst (M := mX9_setDeposit) 48 dX9_setDeposit_47 ki_0 rfl ?_
  refine e_putI (M := mX9_setDeposit) dX9_setDeposit_48 fl_9033 (x_kk rfl) (x_kk rfl) rfl (fun q9 => Bool.noConfusion q9) ?_
  refine f_aload_n (M := mX9_setDeposit) 52 dX9_setDeposit_51 rfl rfl ?_
  refine e_getI (M := mX9_setDeposit) dX9_setDeposit_52 fl_9033 (x_kk rfl) (x_kk rfl) rfl ?_
  refine e_if_leT (M := mX9_setDeposit) 62 dX9_setDeposit_55 rfl (show (0 : Int32) ≤ 0 by decide) ?_
  refine f_aload_n (M := mX9_setDeposit) 63 dX9_setDeposit_62 rfl rfl ?_
  refine f_iload_n (M := mX9_setDeposit) 64 dX9_setDeposit_63 rfl rfl ?_
  refine f_bipush (M := mX9_setDeposit) 66 dX9_setDeposit_64 kb_6 rfl ?_
  refine f_iload_n (M := mX9_setDeposit) 67 dX9_setDeposit_66 rfl rfl ?_
  refine e_cV (M := mX9_setDeposit) [_] 0 0 dX9_setDeposit_67 pa_9196 pb_9196 cc_9196 rfl rfl rfl rfl rfl (x_kk rfl) (x_kk rfl) rfl (m_setsBid (j := 6) hR hk hq (by omega)) rfl ?_
  refine e_ri (M := mX9_setDeposit) dX9_setDeposit_70 rfl (x_kk rfl) (x_kk rfl) ?_
  exact (by rw [ha0])
theorem sim_setDeposit (T : y_T N I L R) {u : Int32} {w : Int32} : y_OI N X mL_setDeposit [.ref 0, .int u, .int w, .ref 232] mX9_setDeposit [.ref 225, .int u, .int w] I L R := by
  have T0 := T
  obtain ⟨a, b, kn, ks, bf, bn, ep, ⟨β, δ, γ, ν, hB⟩, hM, hI⟩ := T
  have H : y_CS N I L R β a b := ⟨hM.1, hB.1.2.1, hB.1.2.2.2.2.1, hB.2.2.2.2.2.1, hI.1⟩
  obtain ⟨Ns, Np, Nl, Nm, Z⟩ := Z_of hI.1
  have hR := hM.1
  have ha : I 226 = a := hM.2.1
  have hb : L 229 = b := hM.2.2.1
  subst ha
  subst hb
  obtain ⟨hNs, hn, hNp, hp, hNl, hl, hNm, hmm⟩ := id Z
  by_cases h0 : 0 ≤ u ∧ u ≤ 7
  · obtain ⟨q, hq, rfl⟩ := ib_of kn_7 (by omega) h0
    replace hq : q < 8 := by omega
    by_cases h1 : 0 ≤ w ∧ w ≤ 1000000000
    · skip
      by_cases h2 : I 226 0 = 1 ∨ I 226 0 = 6
      · skip
        by_cases h3 : ¬ 0 < I 226 (224 + 8 * q + 7)
        · skip
          obtain ⟨I0, L0, hk, S1, fr, sm⟩ := keep_ok (X := X) hB (h60_of (h_IL H))
          have H1 : y_CS N I0 L0 R β (I 226) (L 229) := ⟨hR, h_β H, h_S H, S1.2.2.2.2.2.1, hI.1⟩
          have hβ := h_β H
          have k1 := w_setDeposit (kx_setDeposit H Z hk H1 hq h1 h2 h3 )
          have out : ∀ cc, (∀ j, j < 22 → ¬ cc = β + j) → (va_up I0 (β + 10) (va_up (I0 (β + 10)) q w)) cc = I0 cc ∧ L0 cc = L0 cc := fun cc ho => ⟨(x_up_ne _ _ (ho 10 (by decide))), rfl⟩
          have M1 := SM_f (I' := (va_up I0 (β + 10) (va_up (I0 (β + 10)) q w))) (L' := va_up L0 232 (va_up (L0 232) 0 (I 226 (224 + 8 * q + 6)).toInt64)) hM hR (fun cc z1 z2 => ⟨(out cc (fun j hj => sl_far hβ (Or.inr z1) hj)).1.trans (fr cc z1).1, (x_up_ne _ _ (by omega)).trans ((out cc (fun j hj => sl_far hβ (Or.inr z1) hj)).2.trans (fr cc z1).2)⟩)
          obtain ⟨I2, L2, hk9, M2, t6, l25, fr9⟩ := keeps_ok (X := X) (SM_tw (t := 0) M1)
          have m1 := mx_setDeposit hR M1.2.1 Z hk9 M2.2.1 hq h1 h2 h3 
          refine OI_c (a' := (va_up (I 226) (224 + 8 * q + 6) w)) (b' := (L 229)) k1 ⟨β, δ, γ, _, SB_u S1 out ?_⟩ m1 ?_ (SM_a M2) (fr_t fr_tw (fr_t fr9 fr_a)) (In_p (by omega) hI ?_)
          · have d1 := h_ph H1
            exact ⟨(congrFun (x_up_ne _ _ (show β ≠ β + 10 by omega)) 0).trans (d1.trans (x_up_ne _ _ (by omega)).symm), RT_c (fun k z1 z2 => x_up_ne _ _ (by omega)) (fun j hj => x_up_ne _ _ (by omega)) (h_T H1), RC_c (fun k z1 z2 => x_up_ne _ _ (by omega)) (fun j hj => x_up_ne _ _ (by omega)) (h_C H1), RB_dep (h_B H1) hq, RK_c (fun k z1 z2 => x_up_ne _ _ (by omega)) rfl rfl (fun z => by rw [x_up_ne _ _ (by omega)] at z; exact z) (fun j hj => x_up_ne _ _ (by omega)) (h_K H1), RL_c (fun k z1 z2 => x_up_ne _ _ (by omega)) (fun j hj => x_up_ne _ _ (by omega)) (h60_of (h_IL H)) (h_L H1)⟩
          · exact t6
          · have z0 : ¬ I 226 0 = 0 := by rcases h2 with z | z <;> rw [z] <;> decide
            have z8 : ¬ I 226 0 = 8 := by rcases h2 with z | z <;> rw [z] <;> decide
            exact ⟨IT_c (by rw [x_up_ne _ _ (by omega)]; exact (h_IT H).1) (fun j hj => x_up_ne _ _ (by omega)) (h_IT H), IC_c (fun j hj => x_up_ne _ _ (by omega)) (h_IC H), IB_u z0 (h_IB H) (by omega) hq (by omega) (by rw [if_neg (by omega)]; exact in_w h1), IV_c (fun j hj => x_up_ne _ _ (by omega)) (h_IV H), IK_c (fun j hj => x_up_ne _ _ (by omega)) z8 (h_IK H), IL_c (fun j hj => x_up_ne _ _ (by omega)) (h_IL H), fun j hj => (x_up_ne _ _ (by omega)).trans (hI.1.2.2.2.2.2.2.1 j hj), hI.1.2.2.2.2.2.2.2⟩
        · exact OI_x T0 (by decide) (w_setDeposit_x0 (kf_setDeposit_3 H Z hq h1 h2 h3)) (mf_setDeposit_3 hR Z hq h1 h2 h3)
      · exact OI_x T0 (by decide) (w_setDeposit_x0 (kf_setDeposit_2 H Z hq h1 h2)) (mf_setDeposit_2 hR Z hq h1 h2)
    · exact OI_x T0 (by decide) (w_setDeposit_x1 (kf_setDeposit_1 H Z hq h1)) (mf_setDeposit_1 hR Z hq h1)
  · exact OI_x T0 (by decide) (w_setDeposit_x2 (kf_setDeposit_0 H Z h0)) (mf_setDeposit_0 hR Z h0)
end

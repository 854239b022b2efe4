/-! ===== changes of both, sixth: close (laid by wip/whole/src/w6.py) ===== -/
section
variable {X : x_X} {I : Nat → Nat → Int32} {L : Nat → Nat → Int64} {R : Nat → Nat → Option Nat} {N : Nat}
section
variable {a a' : Nat → Int32}
theorem nets_cc {n : Nat} (hn : n ≤ 60) (ha : ∀ j, 366 ≤ j ∧ j < 606 → a' j = a j) {σ f t : Int32} : sp_nets a' σ f t n = sp_nets a σ f t n :=
  s32_c (fun k hk => by
    have e0 := ha (366 + 4 * k + 0) (by omega)
    have e1 := ha (366 + 4 * k + 1) (by omega)
    have e2 := ha (366 + 4 * k + 2) (by omega)
    unfold sp_net
    simp only [sp_cnt, e0, e1, e2])
theorem idx_cc {s : Nat} (hs : s < 6) (ha : ∀ j, (20 ≤ j ∧ j < 32) ∨ (288 ≤ j ∧ j < 366) → a' j = a j) : ∀ {q : Nat}, q ≤ 12 → sp_idx a' s q = sp_idx a s q
  | 0, _ => ha _ (by omega)
  | q + 1, h => by
    rw [sp_idx, sp_idx, ha (294 + 6 * q + s) (by omega), idx_cc hs ha (by omega)]
theorem rate_cc {s q : Nat} (hs : s < 6) (hq : q < 12) (h4 : a' 4 = a 4) (ha : ∀ j, (20 ≤ j ∧ j < 32) ∨ (288 ≤ j ∧ j < 366) → a' j = a j) : sp_rateOf a' s q = sp_rateOf a s q := by
  unfold sp_rateOf sp_rateBy sp_by
  rw [idx_cc hs ha (by omega), ha (26 + s) (by omega), ha (20 + s) (by omega), ha (288 + s) (by omega), h4]
theorem keeps_cc {n : Nat} (hn : n ≤ 60) (h5 : a' 5 = a 5) (ha : ∀ j, 366 ≤ j ∧ j < 606 → a' j = a j) : sp_fB a' n = sp_fB a n ∧ sp_fC a' n = sp_fC a n := by
  have e2 := cs_c hn (w := 2) (Or.inl rfl) ha
  have e3 := cs_c hn (w := 3) (Or.inr rfl) ha
  have e : sp_keeps a' n ↔ sp_keeps a n := by
    show (0 < sp_cs a' 2 n ∧ 0 < sp_cs a' 3 n ∧ sp_cs a' 2 n * (a' 5).toInt64 < sp_apart (sp_cs a' 2 n) (sp_cs a' 3 n) * 100) ↔ _
    rw [e2, e3, h5]
  unfold sp_fB sp_fC
  by_cases g : sp_keeps a n
  · rw [if_pos g, if_pos g, if_pos (e.mpr g), if_pos (e.mpr g), e2, e3]; exact ⟨rfl, rfl⟩
  · rw [if_neg g, if_neg g, if_neg (fun z => g (e.mp z)), if_neg (fun z => g (e.mp z))]; exact ⟨rfl, rfl⟩
theorem chg_cc {m n w : Nat} (hm : m < 36) (hn : n ≤ 60) (hw : w ≤ 6) (ha : ∀ j, j = 4 ∨ j = 5 ∨ (20 ≤ j ∧ j < 32) ∨ (288 ≤ j ∧ j < 606) → a' j = a j) : sp_chg a' m n w = sp_chg a m n w :=
  s64_c (fun s hs => by
    unfold sp_chgAt
    rw [nets_cc hn (fun j hj => ha j (by omega)), rate_cc (by omega) (by omega) (ha 4 (by omega)) (fun j hj => ha j (by omega)), (keeps_cc hn (ha 5 (by omega)) (fun j hj => ha j (by omega))).1, (keeps_cc hn (ha 5 (by omega)) (fun j hj => ha j (by omega))).2])
/-- the correction: with the month just booked, or without it -/
theorem corr_eq {b : Nat → Int64} {m n w : Nat} (hm : m < 36) (hn : n ≤ 60) (hw : w ≤ 6) (ha : ∀ j, j = 4 ∨ j = 5 ∨ (20 ≤ j ∧ j < 32) ∨ (288 ≤ j ∧ j < 606) → a' j = a j) (hb : b (1 + m) = sp_chg a m n w) : sp_adj a' b n w (m + 1) = sp_adj a b n w m := by
  show sp_adj a' b n w m + (sp_chg a' m n w - b (1 + m)) = _
  rw [chg_cc hm hn hw ha, hb, Int64.sub_self, Int64.add_zero]
  exact s64_c (fun k hk => by rw [chg_cc (by omega) hn hw ha])
theorem up4 {α : Type} {f : Nat → Nat → α} {p q : Nat} (h : p ≠ q) {A B C D : Nat → α} : va_up (va_up (va_up (va_up f p A) q B) p C) q D = va_up (va_up f p C) q D := by
  funext k
  unfold va_up
  by_cases h1 : k = q
  · simp only [if_pos h1]
  · simp only [if_neg h1]
    by_cases h2 : k = p
    · simp only [if_pos h2]
    · simp only [if_neg h2]
theorem b2_m {b : Nat → Int64} {x y z u : Int64} {m : Nat} {f : Nat → Int64} (hf : ∀ k, k < 36 → f k = b (1 + k)) : ∀ k, k < 36 → va_up f m y k = va_up (va_up (va_up (va_up b 0 x) (1 + m) z) 0 u) (1 + m) y (1 + k) := by
  intro k hk
  by_cases e : k = m
  · rw [e, x_up_self, x_up_self]
  · rw [x_up_ne _ _ e, x_up_ne _ _ (by omega), x_up_ne _ _ (by omega), x_up_ne _ _ (by omega), x_up_ne _ _ (by omega)]; exact hf k hk
theorem SM_Lk {b : Nat → Int64} {kn : Nat} {ks : Nat → (Nat → Int32) × (Nat → Int64)} {bf : Nat → Int32} {bn : Nat} {ep : Int32} {n k : Nat} (S : y_SM I L R a b kn ks bf bn ep) : y_SM I (y_Lk L a' n k) R a b kn ks bf bn ep := by
  cases k with
  | zero => exact S
  | succ k => exact SM_fac S
theorem fr_Lk {n k : Nat} : y_fr I I L (y_Lk L a' n k) := by
  cases k with
  | zero => exact fr_r
  | succ k => exact fr_fac
end
theorem k_closeContract {N β : Nat} {a : Nat → Int32} {b : Nat → Int64} (H : y_CS N I L R β a b) {Ns Np Nl Nm : Nat} (Z : y_Z a Ns Np Nl Nm) (H4 : y_CS N (va_up I β (va_up (I β) 0 4)) (va_up (va_up L (β + 16) (va_up (L (β + 16)) Nm (sp_chg a Nm Nl Ns))) (β + 12) (va_up (L (β + 12)) 7 (sp_wi a (b 0) + sp_chg a Nm Nl Ns))) R β (va_up (va_up a 16 1) 0 4) (va_up (va_up b 0 (sp_wi a (b 0) + sp_chg a Nm Nl Ns)) (1 + Nm) (sp_chg a Nm Nl Ns))) : x_Cv X mX6_closeContract [.ref β] (I, L, R) 233 (.inl none, ((va_up I β (va_up (I β) 0 4)), (va_up (va_up L (β + 16) (va_up (L (β + 16)) Nm (sp_chg a Nm Nl Ns + (sp_adj (va_up (va_up a 16 1) 0 4) (va_up (va_up b 0 (sp_wi a (b 0) + sp_chg a Nm Nl Ns)) (1 + Nm) (sp_chg a Nm Nl Ns)) Nl Ns (Nm + 1))))) (β + 12) (va_up (L (β + 12)) 7 (sp_wi a (b 0) + sp_chg a Nm Nl Ns + ((sp_adj (va_up (va_up a 16 1) 0 4) (va_up (va_up b 0 (sp_wi a (b 0) + sp_chg a Nm Nl Ns)) (1 + Nm) (sp_chg a Nm Nl Ns)) Nl Ns (Nm + 1)) - (a 15).toInt64)))), R), 233) := by
  have Z0 := Z
  obtain ⟨hNs, hn, hNp, hp, hNl, hl, hNm, hmm⟩ := Z
  have hR := h_R H
  have hβ := h_β H
  have hS := h_S H
  show x_Ev X mX6_closeContract 0 [some (.ref β), none, none] [] ((I, L, R), 233, 0, 0) _
  refine f_aload_n (M := mX6_closeContract) 1 dX6_closeContract_0 rfl rfl ?_
  refine e_cV (M := mX6_closeContract) [] 0 0 dX6_closeContract_1 pa_6151 pb_6151 cc_6151 rfl rfl rfl rfl rfl (x_kk rfl) (x_kk rfl) (x_rcvOK (sl_lt hβ 0 rfl) (sl_s hβ 0 rfl rfl) rfl) (k_bookMonth H Z0) rfl ?_
  refine f_aload_n (M := mX6_closeContract) 5 dX6_closeContract_4 rfl rfl ?_
  refine f_iconst (M := mX6_closeContract) 6 dX6_closeContract_5 ki_4 rfl ?_
  refine e_putI (M := mX6_closeContract) dX6_closeContract_6 fl_6046 (x_kk rfl) (sl_lt hβ 0 rfl) (sl_s hβ 0 rfl rfl) (fun q9 => Bool.noConfusion q9) ?_
  refine f_aload_n (M := mX6_closeContract) 10 dX6_closeContract_9 rfl rfl ?_
  refine e_cV (M := mX6_closeContract) [_] 0 0 dX6_closeContract_10 pa_6154 pb_6154 cc_6154 rfl rfl rfl rfl rfl (x_kk rfl) (x_kk rfl) (x_rcvOK (sl_lt hβ 0 rfl) (sl_s hβ 0 rfl rfl) rfl) ((by have e := k_unbooked (X := X) H4 hNl hl hNs hn hNm hmm; rw [show sp_en (va_up (va_up a 16 1) 0 4) Nm = Nm + 1 from if_pos rfl] at e; exact e)) rfl ?_
  refine f_lstore_n (M := mX6_closeContract) (ls' := [_, _, _]) 14 dX6_closeContract_13 rfl rfl rfl ?_
  refine f_aload_n (M := mX6_closeContract) 15 dX6_closeContract_14 rfl rfl ?_
  refine e_getR (M := mX6_closeContract) dX6_closeContract_15 fl_6035 (x_kk rfl) (sl_lt hβ 0 rfl) (sl_s hβ 0 rfl rfl) (wf_6_4 hR hβ) ?_
  refine e_getR (M := mX6_closeContract) dX6_closeContract_18 fl_6139 (x_kk rfl) (sl_lt hβ 12 rfl) (sl_s hβ 12 rfl rfl) (wf_1_3 hR hβ) ?_
  refine f_aload_n (M := mX6_closeContract) 22 dX6_closeContract_21 rfl rfl ?_
  refine e_getR (M := mX6_closeContract) dX6_closeContract_22 fl_6035 (x_kk rfl) (sl_lt hβ 0 rfl) (sl_s hβ 0 rfl rfl) (wf_6_4 hR hβ) ?_
  refine e_getI (M := mX6_closeContract) dX6_closeContract_25 fl_6133 (x_kk rfl) (sl_lt hβ 12 rfl) (sl_s hβ 12 rfl rfl) ?_
  refine f_dup2 (M := mX6_closeContract) 29 dX6_closeContract_28 rfl rfl rfl ?_
  refine e_lld (M := mX6_closeContract) (w := 36) (j := Nm) dX6_closeContract_29 (sl_lt hβ 16 rfl) (sl_shp hβ 16 rfl) (by rw [x_up_ne _ _ (show β + 12 ≠ β by omega)]; exact ((h_K H).2.2.2.2.2.1.trans hmm)) (by omega) (by omega) ?_
  refine f_lload_n (M := mX6_closeContract) 31 dX6_closeContract_30 rfl rfl ?_
  refine f_ladd (M := mX6_closeContract) 32 dX6_closeContract_31 rfl ?_
  refine e_lst (M := mX6_closeContract) (w := 36) (j := Nm) dX6_closeContract_32 (sl_lt hβ 16 rfl) (sl_shp hβ 16 rfl) (by rw [x_up_ne _ _ (show β + 12 ≠ β by omega)]; exact ((h_K H).2.2.2.2.2.1.trans hmm)) (by omega) (by omega) ?_
  refine f_aload_n (M := mX6_closeContract) 34 dX6_closeContract_33 rfl rfl ?_
  refine e_getR (M := mX6_closeContract) dX6_closeContract_34 fl_6035 (x_kk rfl) (sl_lt hβ 0 rfl) (sl_s hβ 0 rfl rfl) (wf_6_4 hR hβ) ?_
  refine f_dup (M := mX6_closeContract) 38 dX6_closeContract_37 rfl rfl ?_
  refine e_getL (M := mX6_closeContract) dX6_closeContract_38 fl_6143 (x_kk rfl) (sl_lt hβ 12 rfl) (sl_s hβ 12 rfl rfl) ?_
  refine f_lload_n (M := mX6_closeContract) 42 dX6_closeContract_41 rfl rfl ?_
  refine f_aload_n (M := mX6_closeContract) 43 dX6_closeContract_42 rfl rfl ?_
  refine e_getR (M := mX6_closeContract) dX6_closeContract_43 fl_6035 (x_kk rfl) (sl_lt hβ 0 rfl) (sl_s hβ 0 rfl rfl) (wf_6_4 hR hβ) ?_
  refine e_getI (M := mX6_closeContract) dX6_closeContract_46 fl_6111 (x_kk rfl) (sl_lt hβ 12 rfl) (sl_s hβ 12 rfl rfl) ?_
  refine f_i2l (M := mX6_closeContract) 50 dX6_closeContract_49 rfl ?_
  refine f_lsub (M := mX6_closeContract) 51 dX6_closeContract_50 rfl ?_
  refine f_ladd (M := mX6_closeContract) 52 dX6_closeContract_51 rfl ?_
  refine e_putL (M := mX6_closeContract) dX6_closeContract_52 fl_6143 (x_kk rfl) (sl_lt hβ 12 rfl) (sl_s hβ 12 rfl rfl) (fun q9 => Bool.noConfusion q9) ?_
  refine e_rv (M := mX6_closeContract) dX6_closeContract_55 rfl (x_kk rfl) (x_kk rfl) ?_
  exact (by simp only [x_up_self, va_uu, x_up_ne _ _ (show β + 16 ≠ β + 12 by omega), x_up_ne _ _ (show β + 12 ≠ β + 16 by omega), x_up_ne _ _ (show β + 12 ≠ β by omega), (h_K H).2.2.2.2.1]; rw [up4 (show β + 16 ≠ β + 12 by omega)])
theorem kx_close {N β : Nat} {a : Nat → Int32} {b : Nat → Int64} (H : y_CS N I L R β a b) {Ns Np Nl Nm : Nat} (Z : y_Z a Ns Np Nl Nm) {I0 : Nat → Nat → Int32} {L0 : Nat → Nat → Int64} (hk : x_Cv X mX3_keep [.ref 3, .ref β] (I, L, R) 233 (.inl none, (I0, L0, R), 233)) (H1 : y_CS N I0 L0 R β a b) (h0 : a 0 = 3) (H4 : y_CS N (va_up I0 β (va_up (I0 β) 0 4)) (va_up (va_up L0 (β + 16) (va_up (L0 (β + 16)) Nm (sp_chg a Nm Nl Ns))) (β + 12) (va_up (L0 (β + 12)) 7 (sp_wi a (b 0) + sp_chg a Nm Nl Ns))) R β (va_up (va_up a 16 1) 0 4) (va_up (va_up b 0 (sp_wi a (b 0) + sp_chg a Nm Nl Ns)) (1 + Nm) (sp_chg a Nm Nl Ns))) : x_Cv X mX8_close [.ref 0] (I, L, R) 233 (.inl (some (.long (sp_wi a (b 0) + sp_chg a Nm Nl Ns + ((sp_adj (va_up (va_up a 16 1) 0 4) (va_up (va_up b 0 (sp_wi a (b 0) + sp_chg a Nm Nl Ns)) (1 + Nm) (sp_chg a Nm Nl Ns)) Nl Ns (Nm + 1)) - (a 15).toInt64)))), ((va_up I0 β (va_up (I0 β) 0 4)), (va_up (va_up L0 (β + 16) (va_up (L0 (β + 16)) Nm (sp_chg a Nm Nl Ns + (sp_adj (va_up (va_up a 16 1) 0 4) (va_up (va_up b 0 (sp_wi a (b 0) + sp_chg a Nm Nl Ns)) (1 + Nm) (sp_chg a Nm Nl Ns)) Nl Ns (Nm + 1))))) (β + 12) (va_up (L0 (β + 12)) 7 (sp_wi a (b 0) + sp_chg a Nm Nl Ns + ((sp_adj (va_up (va_up a 16 1) 0 4) (va_up (va_up b 0 (sp_wi a (b 0) + sp_chg a Nm Nl Ns)) (1 + Nm) (sp_chg a Nm Nl Ns)) Nl Ns (Nm + 1)) - (a 15).toInt64)))), R), 233) := by
  have Z0 := Z
  obtain ⟨hNs, hn, hNp, hp, hNl, hl, hNm, hmm⟩ := Z
  have hR := h_R H
  have hβ := h_β H
  have hS := h_S H
  show x_Ev X mX8_close 0 [some (.ref 0)] [] ((I, L, R), 233, 0, 0) _
  refine f_aload_n (M := mX8_close) 1 dX8_close_0 rfl rfl ?_
  refine e_getR (M := mX8_close) dX8_close_1 fl_8026 (x_kk rfl) (x_kk rfl) rfl hS ?_
  refine e_getI (M := mX8_close) dX8_close_4 fl_8067 (x_kk rfl) (sl_lt hβ 0 rfl) (sl_s hβ 0 rfl rfl) ?_
  refine f_iconst (M := mX8_close) 8 dX8_close_7 ki_3 rfl ?_
  refine e_icmp_neF (M := mX8_close) 15 dX8_close_8 rfl (fun z => z (by rw [h_ph H]; exact h0)) ?_
  refine f_iconst (M := mX8_close) 12 dX8_close_11 ki_1 rfl ?_
  refine f_goto (M := mX8_close) 16 dX8_close_12 rfl ?_
  refine e_cS (M := mX8_close) [] 1 6 dX8_close_16 pa_8037 cc_8037 rfl rfl rfl rfl rfl (x_kk rfl) (x_kk rfl) rfl (c_X8_requireState (by decide)) rfl ?_
  refine f_aload_n (M := mX8_close) 20 dX8_close_19 rfl rfl ?_
  refine e_getR (M := mX8_close) dX8_close_20 fl_8019 (x_kk rfl) (x_kk rfl) rfl (wf_8_1 hR) ?_
  refine f_aload_n (M := mX8_close) 24 dX8_close_23 rfl rfl ?_
  refine e_getR (M := mX8_close) dX8_close_24 fl_8026 (x_kk rfl) (x_kk rfl) rfl hS ?_
  refine e_cV (M := mX8_close) [] 1 6 dX8_close_27 pa_8060 pb_8060 cc_8060 rfl rfl rfl rfl rfl (x_kk rfl) (x_kk rfl) rfl (hk) rfl ?_
  refine f_aload_n (M := mX8_close) 31 dX8_close_30 rfl rfl ?_
  refine e_getR (M := mX8_close) dX8_close_31 fl_8026 (x_kk rfl) (x_kk rfl) rfl hS ?_
  refine e_cV (M := mX8_close) [] 1 6 dX8_close_34 pa_8313 pb_8313 cc_8313 rfl rfl rfl rfl rfl (x_kk rfl) (x_kk rfl) (x_rcvOK (sl_lt hβ 0 rfl) (sl_s hβ 0 rfl rfl) rfl) (k_closeContract H1 Z0 H4) rfl ?_
  refine f_aload_n (M := mX8_close) 38 dX8_close_37 rfl rfl ?_
  refine e_getR (M := mX8_close) dX8_close_38 fl_8026 (x_kk rfl) (x_kk rfl) rfl hS ?_
  refine e_getR (M := mX8_close) dX8_close_41 fl_8227 (x_kk rfl) (sl_lt hβ 0 rfl) (sl_s hβ 0 rfl rfl) (wf_6_4 hR hβ) ?_
  refine e_getL (M := mX8_close) dX8_close_44 fl_8298 (x_kk rfl) (sl_lt hβ 12 rfl) (sl_s hβ 12 rfl rfl) ?_
  refine e_rl (M := mX8_close) dX8_close_47 rfl (x_kk rfl) (x_kk rfl) ?_
  exact (by simp only [x_up_self])
theorem mx_close (hR : x_wf R) {a : Nat → Int32} (ha : I 226 = a) {Ns Np Nl Nm : Nat} (Z : y_Z a Ns Np Nl Nm) {I0 : Nat → Nat → Int32} {L0 : Nat → Nat → Int64} (hk : x_Cv X mX9_keeps [.ref 225] (x_tw I 0, L, R) 233 (.inl none, (I0, L0, R), 233)) (ha0 : I0 226 = a) (h0 : a 0 = 3)  {b : Nat → Int64} (hb0 : L0 229 = b) (hIL : y_IL a) (hIK : y_IK a) : x_Cv X mX9_close [.ref 225] (I, L, R) 233 (.inl (some (.long (sp_wi a (b 0) + sp_chg a Nm Nl Ns + ((sp_adj a (va_up (va_up b 0 (sp_wi a (b 0) + sp_chg a Nm Nl Ns)) (1 + Nm) (sp_chg a Nm Nl Ns)) Nl Ns Nm) - (a 15).toInt64)))), (va_up I0 226 (va_up (va_up a 16 1) 0 4), va_up (y_Lk (va_up (x_facF L0 a Nl) 229 (va_up (va_up b 0 (sp_wi a (b 0) + sp_chg a Nm Nl Ns)) (1 + Nm) (sp_chg a Nm Nl Ns))) a Nl Nm) 229 (va_up (va_up (va_up (va_up b 0 (sp_wi a (b 0) + sp_chg a Nm Nl Ns)) (1 + Nm) (sp_chg a Nm Nl Ns)) 0 (sp_wi a (b 0) + sp_chg a Nm Nl Ns + ((sp_adj a (va_up (va_up b 0 (sp_wi a (b 0) + sp_chg a Nm Nl Ns)) (1 + Nm) (sp_chg a Nm Nl Ns)) Nl Ns Nm) - (a 15).toInt64))) (1 + Nm) (sp_chg a Nm Nl Ns + (sp_adj a (va_up (va_up b 0 (sp_wi a (b 0) + sp_chg a Nm Nl Ns)) (1 + Nm) (sp_chg a Nm Nl Ns)) Nl Ns Nm))), R), 233) := by
  subst ha
  have Z0 := Z
  obtain ⟨hNs, hn, hNp, hp, hNl, hl, hNm, hmm⟩ := Z
  have me := m_ends (X := X) (I := I0) (L := L0) hR (Ns := Ns) (Np := Np) (Nl := Nl) (Nm := Nm) (by rw [ha0]; exact Z0) (by rw [ha0]; exact hIL)
  rw [ha0, hb0] at me
  have ee : I0 226 13 + I0 226 16 = Int32.ofNat Nm := by
    rw [ha0, en_m hIK hmm]
    unfold sp_en
    rw [if_neg (by rw [h0]; decide)]
  have ma := m_adjusts (X := X) (I := I0) (L := (va_up (x_facF L0 (I 226) Nl) 229 (va_up (va_up b 0 (sp_wi (I 226) (b 0) + sp_chg (I 226) Nm Nl Ns)) (1 + Nm) (sp_chg (I 226) Nm Nl Ns)))) hR hNl (by rw [ha0]; exact hl) hNs (by rw [ha0]; exact hn) (by rw [ha0]; exact hIL) (show Nm ≤ 36 by omega) ee
  rw [ha0, x_up_self] at ma
  have mm0 : I0 226 13 = Int32.ofNat Nm := by rw [ha0]; exact hmm
  show x_Ev X mX9_close 0 [some (.ref 225), none, none] [] ((I, L, R), 233, 0, 0) _
  refine f_aload_n (M := mX9_close) 1 dX9_close_0 rfl rfl ?_
  refine f_aload_n (M := mX9_close) 2 dX9_close_1 rfl rfl ?_
  refine e_getR (M := mX9_close) dX9_close_2 fl_9007 (x_kk rfl) (x_kk rfl) rfl (wf_9_0 hR) ?_
  refine f_iconst (M := mX9_close) 6 dX9_close_5 ki_0 rfl ?_
  refine e_ild (M := mX9_close) (w := 606) (j := 0) dX9_close_6 (x_kk rfl) rfl kn_0 (by omega) (by omega) ?_
  refine f_iconst (M := mX9_close) 8 dX9_close_7 ki_3 rfl ?_
  refine e_icmp_neF (M := mX9_close) 15 dX9_close_8 rfl (fun z => z h0) ?_
  refine f_iconst (M := mX9_close) 12 dX9_close_11 ki_0 rfl ?_
  refine f_goto (M := mX9_close) 16 dX9_close_12 rfl ?_
  refine e_putI (M := mX9_close) dX9_close_16 fl_9033 (x_kk rfl) (x_kk rfl) rfl (fun q9 => Bool.noConfusion q9) ?_
  refine f_aload_n (M := mX9_close) 20 dX9_close_19 rfl rfl ?_
  refine e_getI (M := mX9_close) dX9_close_20 fl_9033 (x_kk rfl) (x_kk rfl) rfl ?_
  refine e_if_leT (M := mX9_close) 28 dX9_close_23 rfl (show (0 : Int32) ≤ 0 by decide) ?_
  refine f_aload_n (M := mX9_close) 29 dX9_close_28 rfl rfl ?_
  refine e_cV (M := mX9_close) [] 0 0 dX9_close_29 pa_9128 pb_9128 cc_9128 rfl rfl rfl rfl rfl (x_kk rfl) (x_kk rfl) rfl (hk) rfl ?_
  refine f_aload_n (M := mX9_close) 33 dX9_close_32 rfl rfl ?_
  refine e_cV (M := mX9_close) [] 0 0 dX9_close_33 pa_9283 pb_9283 cc_9283 rfl rfl rfl rfl rfl (x_kk rfl) (x_kk rfl) rfl (me) rfl ?_
  refine f_aload_n (M := mX9_close) 37 dX9_close_36 rfl rfl ?_
  refine e_cV (M := mX9_close) [_] 0 0 dX9_close_37 pa_9288 pb_9288 cc_9288 rfl rfl rfl rfl rfl (x_kk rfl) (x_kk rfl) rfl (ma) rfl ?_
  refine f_lstore_n (M := mX9_close) (ls' := [_, _, _]) 41 dX9_close_40 rfl rfl rfl ?_
  refine f_aload_n (M := mX9_close) 42 dX9_close_41 rfl rfl ?_
  refine e_getR (M := mX9_close) dX9_close_42 fl_9019 (x_kk rfl) (x_kk rfl) rfl (wf_9_3 hR) ?_
  refine f_iconst (M := mX9_close) 46 dX9_close_45 ki_0 rfl ?_
  refine f_dup2 (M := mX9_close) 47 dX9_close_46 rfl rfl rfl ?_
  refine e_lld (M := mX9_close) (w := 37) (j := 0) dX9_close_47 (x_kk rfl) rfl kn_0 (by omega) (by omega) ?_
  refine f_lload_n (M := mX9_close) 49 dX9_close_48 rfl rfl ?_
  refine f_aload_n (M := mX9_close) 50 dX9_close_49 rfl rfl ?_
  refine e_getR (M := mX9_close) dX9_close_50 fl_9007 (x_kk rfl) (x_kk rfl) rfl (wf_9_0 hR) ?_
  refine f_bipush (M := mX9_close) 55 dX9_close_53 kb_15 rfl ?_
  refine e_ild (M := mX9_close) (w := 606) (j := 15) dX9_close_55 (x_kk rfl) rfl kn_15 (by omega) (by omega) ?_
  refine f_i2l (M := mX9_close) 57 dX9_close_56 rfl ?_
  refine f_lsub (M := mX9_close) 58 dX9_close_57 rfl ?_
  refine f_ladd (M := mX9_close) 59 dX9_close_58 rfl ?_
  refine e_lst (M := mX9_close) (w := 37) (j := 0) dX9_close_59 (x_kk rfl) rfl kn_0 (by omega) (by omega) ?_
  refine f_aload_n (M := mX9_close) 61 dX9_close_60 rfl rfl ?_
  refine e_getR (M := mX9_close) dX9_close_61 fl_9019 (x_kk rfl) (x_kk rfl) rfl (wf_9_3 hR) ?_
  refine f_iconst (M := mX9_close) 65 dX9_close_64 ki_1 rfl ?_
  refine f_aload_n (M := mX9_close) 66 dX9_close_65 rfl rfl ?_
  refine e_getR (M := mX9_close) dX9_close_66 fl_9007 (x_kk rfl) (x_kk rfl) rfl (wf_9_0 hR) ?_
  refine f_bipush (M := mX9_close) 71 dX9_close_69 kb_13 rfl ?_
  refine e_ild (M := mX9_close) (w := 606) (j := 13) dX9_close_71 (x_kk rfl) rfl kn_13 (by omega) (by omega) ?_
  refine f_iadd (M := mX9_close) 73 dX9_close_72 rfl ?_
  refine f_dup2 (M := mX9_close) 74 dX9_close_73 rfl rfl rfl ?_
  refine e_lld (M := mX9_close) (w := 37) (j := (1) + (Nm)) dX9_close_74 (x_kk rfl) rfl (ix_add kn_1 mm0) (by omega) (by omega) ?_
  refine f_lload_n (M := mX9_close) 76 dX9_close_75 rfl rfl ?_
  refine f_ladd (M := mX9_close) 77 dX9_close_76 rfl ?_
  refine e_lst (M := mX9_close) (w := 37) (j := (1) + (Nm)) dX9_close_77 (x_kk rfl) rfl (ix_add kn_1 mm0) (by omega) (by omega) ?_
  refine f_aload_n (M := mX9_close) 79 dX9_close_78 rfl rfl ?_
  refine e_getR (M := mX9_close) dX9_close_79 fl_9007 (x_kk rfl) (x_kk rfl) rfl (wf_9_0 hR) ?_
  refine f_bipush (M := mX9_close) 84 dX9_close_82 kb_16 rfl ?_
  refine f_iconst (M := mX9_close) 85 dX9_close_84 ki_1 rfl ?_
  refine e_ist (M := mX9_close) (w := 606) (j := 16) dX9_close_85 (x_kk rfl) rfl kn_16 (by omega) (by omega) ?_
  refine f_aload_n (M := mX9_close) 87 dX9_close_86 rfl rfl ?_
  refine e_getR (M := mX9_close) dX9_close_87 fl_9007 (x_kk rfl) (x_kk rfl) rfl (wf_9_0 hR) ?_
  refine f_iconst (M := mX9_close) 91 dX9_close_90 ki_0 rfl ?_
  refine f_iconst (M := mX9_close) 92 dX9_close_91 ki_4 rfl ?_
  refine e_ist (M := mX9_close) (w := 606) (j := 0) dX9_close_92 (x_kk rfl) rfl kn_0 (by omega) (by omega) ?_
  refine f_aload_n (M := mX9_close) 94 dX9_close_93 rfl rfl ?_
  refine e_getR (M := mX9_close) dX9_close_94 fl_9019 (x_kk rfl) (x_kk rfl) rfl (wf_9_3 hR) ?_
  refine f_iconst (M := mX9_close) 98 dX9_close_97 ki_0 rfl ?_
  refine e_lld (M := mX9_close) (w := 37) (j := 0) dX9_close_98 (x_kk rfl) rfl kn_0 (by omega) (by omega) ?_
  refine e_rl (M := mX9_close) dX9_close_99 rfl (x_kk rfl) (x_kk rfl) ?_
  exact (by simp only [ha0, x_up_self, up_up, Lk_o (q := 229) (show ¬ (229 : Nat) = 225 by decide), x_up_ne _ _ (show 0 ≠ 1 + Nm by omega), x_up_ne _ _ (show 1 + Nm ≠ 0 by omega), va_uu])
section
variable {β : Nat} {a : Nat → Int32} {b : Nat → Int64}
theorem a4_j {j : Nat} (h : ¬ j = 0) (h2 : ¬ j = 16) : va_up (va_up a 16 1) 0 4 j = a j := by rw [x_up_ne _ _ h, x_up_ne _ _ h2]
theorem a4_0 : va_up (va_up a 16 1) 0 4 0 = 4 := x_up_self _ _ _
theorem Rep_4 (h3 : a 0 = 3) (h60 : (a 14).toNatClampNeg ≤ 60) (h : y_Rep I L β a b) {L' : Nat → Nat → Int64} {b' : Nat → Int64} (hL : L' (β + 12) 7 = b' 0) (hL2 : ∀ m, m < 36 → L' (β + 16) m = b' (1 + m)) : y_Rep (va_up I β (va_up (I β) 0 4)) L' β (va_up (va_up a 16 1) 0 4) b' := by
  obtain ⟨_, hT, hC, hB, hK, hLo⟩ := h
  have u : ∀ k, 1 ≤ k → va_up I β (va_up (I β) 0 4) (β + k) = I (β + k) := fun k hk => x_up_ne _ _ (by omega)
  exact ⟨by rw [x_up_self, x_up_self, a4_0], RT_c (fun k z1 z2 => u k (by omega)) (fun j hj => a4_j (by omega) (by omega)) hT, RC_c (fun k z1 z2 => u k (by omega)) (fun j hj => a4_j (by omega) (by omega)) hC, RB_c (fun k z1 z2 => u k (by omega)) (by rw [a4_0, h3]; decide) (fun j hj => a4_j (by omega) (by omega)) hB, RK_b hL hL2 (RK_c (L' := L) (fun k z1 z2 => u k (by omega)) rfl rfl (fun _ => by rw [h3]; decide) (fun j hj => a4_j (by omega) (by omega)) hK), RL_c (fun k z1 z2 => u k (by omega)) (fun j hj => a4_j (by omega) (by omega)) h60 hLo⟩
theorem Inv_4 {M : Nat} (hM : N ≤ M) (h3 : a 0 = 3) {b' : Nat → Int64} (hb : ∀ j, 37 ≤ j → b' j = 0) (h : y_Inv N a b) : y_Inv M (va_up (va_up a 16 1) 0 4) b' := by
  obtain ⟨hT, hC, hB, hV, hK, hL, ha, _⟩ := h
  refine ⟨IT_c ⟨4, by decide, by rw [a4_0]; decide⟩ (fun j hj => a4_j (by omega) (by omega)) hT, IC_c (fun j hj => a4_j (by omega) (by omega)) hC, IB_c hM (fun z => absurd (by rw [a4_0] at z; exact z) (by decide)) (fun j hj => a4_j (by omega) (by omega)) hB, IV_c (fun j hj => a4_j (by omega) (by omega)) hV, ?_, IL_c (fun j hj => a4_j (by omega) (by omega)) hL, fun j hj => (a4_j (by omega) (by omega)).trans (ha j hj), hb⟩
  obtain ⟨k1, k2, k3, k4, k5, _, _⟩ := hK
  unfold y_IK
  rw [a4_0, a4_j (show ¬ 13 = 0 by decide) (by decide), a4_j (show ¬ 15 = 0 by decide) (by decide), a4_j (show ¬ 11 = 0 by decide) (by decide)]
  exact ⟨k1, k2, fun s hs => by rw [a4_j (by omega) (by omega)]; exact k3 s hs, fun j hj => by rw [a4_j (by omega) (by omega)]; exact k4 j hj, fun _ => k5 (by rw [h3]; decide), by rw [x_up_ne _ _ (by decide), x_up_self]; rfl, fun z => absurd z (by decide)⟩
end
theorem sim_close (T : y_T N I L R) : y_OL N X mL_close [.ref 0, .ref 232] mX9_close [.ref 225] I L R := by
  have T0 := T
  obtain ⟨a, b, kn, ks, bf, bn, ep, ⟨β, δ, γ, ν, hB⟩, hM, hI⟩ := T
  have H : y_CS N I L R β a b := ⟨hM.1, hB.1.2.1, hB.1.2.2.2.2.1, hB.2.2.2.2.2.1, hI.1⟩
  obtain ⟨Ns, Np, Nl, Nm, Z⟩ := Z_of hI.1
  have hR := hM.1
  have ha : I 226 = a := hM.2.1
  have hb : L 229 = b := hM.2.2.1
  subst ha
  subst hb
  obtain ⟨hNs, hn, hNp, hp, hNl, hl, hNm, hmm⟩ := id Z
  by_cases h0 : I 226 0 = 3
  · skip
    obtain ⟨I0, L0, hk, S1, fr, sm⟩ := keep_ok (X := X) hB (h60_of (h_IL H))
    have H1 : y_CS N I0 L0 R β (I 226) (L 229) := ⟨hR, h_β H, h_S H, S1.2.2.2.2.2.1, hI.1⟩
    have hβ := h_β H
    have z60 := h60_of (h_IL H)
    have zb : ∀ j, 37 ≤ j → (va_up (va_up (L 229) 0 (sp_wi (I 226) (L 229 0) + sp_chg (I 226) Nm Nl Ns)) (1 + Nm) (sp_chg (I 226) Nm Nl Ns)) j = 0 := fun j hj => by rw [x_up_ne _ _ (by omega), x_up_ne _ _ (by omega)]; exact hI.1.2.2.2.2.2.2.2 j hj
    have r4 : y_Rep (va_up I0 β (va_up (I0 β) 0 4)) (va_up (va_up L0 (β + 16) (va_up (L0 (β + 16)) Nm (sp_chg (I 226) Nm Nl Ns))) (β + 12) (va_up (L0 (β + 12)) 7 (sp_wi (I 226) (L 229 0) + sp_chg (I 226) Nm Nl Ns))) β (va_up (va_up (I 226) 16 1) 0 4) (va_up (va_up (L 229) 0 (sp_wi (I 226) (L 229 0) + sp_chg (I 226) Nm Nl Ns)) (1 + Nm) (sp_chg (I 226) Nm Nl Ns)) := Rep_4 h0 z60 H1.2.2.2.1 (by rw [bk_12, b1_0]) (fun m hm => by rw [bk_16]; exact b1_m (h_K H1).2.2.2.2.2.2.1 m hm)
    have H4 : y_CS N (va_up I0 β (va_up (I0 β) 0 4)) (va_up (va_up L0 (β + 16) (va_up (L0 (β + 16)) Nm (sp_chg (I 226) Nm Nl Ns))) (β + 12) (va_up (L0 (β + 12)) 7 (sp_wi (I 226) (L 229 0) + sp_chg (I 226) Nm Nl Ns))) R β (va_up (va_up (I 226) 16 1) 0 4) (va_up (va_up (L 229) 0 (sp_wi (I 226) (L 229 0) + sp_chg (I 226) Nm Nl Ns)) (1 + Nm) (sp_chg (I 226) Nm Nl Ns)) := ⟨hR, h_β H, h_S H, r4, Inv_4 (Nat.le_refl N) h0 zb hI.1⟩
    have ce : (sp_adj (va_up (va_up (I 226) 16 1) 0 4) (va_up (va_up (L 229) 0 (sp_wi (I 226) (L 229 0) + sp_chg (I 226) Nm Nl Ns)) (1 + Nm) (sp_chg (I 226) Nm Nl Ns)) Nl Ns (Nm + 1)) = (sp_adj (I 226) (va_up (va_up (L 229) 0 (sp_wi (I 226) (L 229 0) + sp_chg (I 226) Nm Nl Ns)) (1 + Nm) (sp_chg (I 226) Nm Nl Ns)) Nl Ns Nm) := corr_eq hNm hNl hNs (fun j hj => a4_j (by omega) (by omega)) (by rw [x_up_self])
    have k1 := w_close (kx_close H Z hk H1 h0 H4)
    have out : ∀ cc, (∀ j, j < 22 → ¬ cc = β + j) → (va_up I0 β (va_up (I0 β) 0 4)) cc = I0 cc ∧ (va_up (va_up L0 (β + 16) (va_up (L0 (β + 16)) Nm (sp_chg (I 226) Nm Nl Ns + (sp_adj (va_up (va_up (I 226) 16 1) 0 4) (va_up (va_up (L 229) 0 (sp_wi (I 226) (L 229 0) + sp_chg (I 226) Nm Nl Ns)) (1 + Nm) (sp_chg (I 226) Nm Nl Ns)) Nl Ns (Nm + 1))))) (β + 12) (va_up (L0 (β + 12)) 7 (sp_wi (I 226) (L 229 0) + sp_chg (I 226) Nm Nl Ns + ((sp_adj (va_up (va_up (I 226) 16 1) 0 4) (va_up (va_up (L 229) 0 (sp_wi (I 226) (L 229 0) + sp_chg (I 226) Nm Nl Ns)) (1 + Nm) (sp_chg (I 226) Nm Nl Ns)) Nl Ns (Nm + 1)) - (I 226 15).toInt64)))) cc = L0 cc := fun cc ho => ⟨(x_up_ne _ _ (ho 0 (by decide))), (by rw [x_up_ne _ _ (ho 12 (by decide)), x_up_ne _ _ (ho 16 (by decide))])⟩
    have M1 := SM_f (I' := (va_up I0 β (va_up (I0 β) 0 4))) (L' := va_up (va_up (va_up L0 (β + 16) (va_up (L0 (β + 16)) Nm (sp_chg (I 226) Nm Nl Ns + (sp_adj (va_up (va_up (I 226) 16 1) 0 4) (va_up (va_up (L 229) 0 (sp_wi (I 226) (L 229 0) + sp_chg (I 226) Nm Nl Ns)) (1 + Nm) (sp_chg (I 226) Nm Nl Ns)) Nl Ns (Nm + 1))))) (β + 12) (va_up (L0 (β + 12)) 7 (sp_wi (I 226) (L 229 0) + sp_chg (I 226) Nm Nl Ns + ((sp_adj (va_up (va_up (I 226) 16 1) 0 4) (va_up (va_up (L 229) 0 (sp_wi (I 226) (L 229 0) + sp_chg (I 226) Nm Nl Ns)) (1 + Nm) (sp_chg (I 226) Nm Nl Ns)) Nl Ns (Nm + 1)) - (I 226 15).toInt64)))) 232 (va_up ((va_up (va_up L0 (β + 16) (va_up (L0 (β + 16)) Nm (sp_chg (I 226) Nm Nl Ns + (sp_adj (va_up (va_up (I 226) 16 1) 0 4) (va_up (va_up (L 229) 0 (sp_wi (I 226) (L 229 0) + sp_chg (I 226) Nm Nl Ns)) (1 + Nm) (sp_chg (I 226) Nm Nl Ns)) Nl Ns (Nm + 1))))) (β + 12) (va_up (L0 (β + 12)) 7 (sp_wi (I 226) (L 229 0) + sp_chg (I 226) Nm Nl Ns + ((sp_adj (va_up (va_up (I 226) 16 1) 0 4) (va_up (va_up (L 229) 0 (sp_wi (I 226) (L 229 0) + sp_chg (I 226) Nm Nl Ns)) (1 + Nm) (sp_chg (I 226) Nm Nl Ns)) Nl Ns (Nm + 1)) - (I 226 15).toInt64)))) 232) 0 (sp_wi (I 226) (L 229 0) + sp_chg (I 226) Nm Nl Ns + ((sp_adj (va_up (va_up (I 226) 16 1) 0 4) (va_up (va_up (L 229) 0 (sp_wi (I 226) (L 229 0) + sp_chg (I 226) Nm Nl Ns)) (1 + Nm) (sp_chg (I 226) Nm Nl Ns)) Nl Ns (Nm + 1)) - (I 226 15).toInt64)))) hM hR (fun cc z1 z2 => ⟨(out cc (fun j hj => sl_far hβ (Or.inr z1) hj)).1.trans (fr cc z1).1, (x_up_ne _ _ (by omega)).trans ((out cc (fun j hj => sl_far hβ (Or.inr z1) hj)).2.trans (fr cc z1).2)⟩)
    obtain ⟨I2, L2, hk9, M2, t6, l25, fr9⟩ := keeps_ok (X := X) (SM_tw (t := 0) M1)
    have m1 := mx_close hR M1.2.1 Z hk9 M2.2.1 h0 M2.2.2.1 (h_IL H) (h_IK H)
    rw [← ce] at m1
    refine OL_c (a' := (va_up (va_up (I 226) 16 1) 0 4)) (b' := (va_up (va_up (va_up (va_up (L 229) 0 (sp_wi (I 226) (L 229 0) + sp_chg (I 226) Nm Nl Ns)) (1 + Nm) (sp_chg (I 226) Nm Nl Ns)) 0 (sp_wi (I 226) (L 229 0) + sp_chg (I 226) Nm Nl Ns + ((sp_adj (va_up (va_up (I 226) 16 1) 0 4) (va_up (va_up (L 229) 0 (sp_wi (I 226) (L 229 0) + sp_chg (I 226) Nm Nl Ns)) (1 + Nm) (sp_chg (I 226) Nm Nl Ns)) Nl Ns (Nm + 1)) - (I 226 15).toInt64))) (1 + Nm) (sp_chg (I 226) Nm Nl Ns + (sp_adj (va_up (va_up (I 226) 16 1) 0 4) (va_up (va_up (L 229) 0 (sp_wi (I 226) (L 229 0) + sp_chg (I 226) Nm Nl Ns)) (1 + Nm) (sp_chg (I 226) Nm Nl Ns)) Nl Ns (Nm + 1))))) k1 ⟨β, δ, γ, _, SB_u S1 out ?_⟩ m1 ?_ (SM_a (SM_b (SM_Lk (SM_b (SM_fac M2))))) (fr_t fr_tw (fr_t fr9 (fr_t fr_fac (fr_t fr_b (fr_t fr_Lk (fr_t fr_b fr_a)))))) (In_p (by omega) hI ?_)
    · exact Rep_4 h0 z60 H1.2.2.2.1 (by rw [x_up_self, x_up_self, x_up_ne _ _ (by omega), x_up_self]) (fun m hm => by rw [x_up_ne _ _ (show β + 16 ≠ β + 12 by omega), x_up_self]; exact b2_m (h_K H1).2.2.2.2.2.2.1 m hm)
    · exact t6
    · exact Inv_4 (by omega) h0 (fun j hj => by rw [x_up_ne _ _ (by omega), x_up_ne _ _ (by omega)]; exact zb j hj) hI.1
  · exact OL_x T0 (by decide) (w_close_x0 (kf_close_0 H Z h0)) (mf_close_0 hR Z h0)
end

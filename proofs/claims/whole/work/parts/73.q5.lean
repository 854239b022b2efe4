/-! ===== queries of both, fifth (laid by wip/whole/src/q5.py) ===== -/
section
variable {X : x_X} {I : Nat → Nat → Int32} {L : Nat → Nat → Int64} {R : Nat → Nat → Option Nat} {N : Nat}
def sp_adj (a : Nat → Int32) (b : Nat → Int64) (n w k : Nat) : Int64 := x_sum64 (fun m => sp_chg a m n w - b (1 + m)) k
def sp_en (a : Nat → Int32) (m : Nat) : Nat := if a 0 = 4 then m + 1 else m
def y_Lk (L : Nat → Nat → Int64) (a : Nat → Int32) (n : Nat) : Nat → Nat → Nat → Int64
  | 0 => L
  | _ + 1 => x_facF L a n
theorem Lk_s {a : Nat → Int32} {n k : Nat} : x_facF (y_Lk L a n k) a n = y_Lk L a n (k + 1) := by
  cases k with
  | zero => rfl
  | succ k => exact fac_f
theorem Lk_o {a : Nat → Int32} {n k q : Nat} (h : ¬ q = 225) : (y_Lk L a n k) q = L q := by
  cases k with
  | zero => rfl
  | succ k => exact fac_o h
theorem T_Lk {a : Nat → Int32} {n k : Nat} (T : y_T N I L R) : y_T N I (y_Lk L a n k) R := by
  cases k with
  | zero => exact T
  | succ k => exact T_fac T
theorem en_le {a : Nat → Int32} {m : Nat} (h : m < 36) : sp_en a m ≤ 36 := by unfold sp_en; split <;> omega
theorem en_m {a : Nat → Int32} (hK : y_IK a) {m : Nat} (hm : a 13 = Int32.ofNat m) : a 13 + a 16 = Int32.ofNat (sp_en a m) := by
  rw [hK.2.2.2.2.2.1, hm]
  unfold sp_en
  by_cases h : a 0 = 4
  · rw [if_pos h, if_pos h, n_inc]
  · rw [if_neg h, if_neg h, Int32.add_zero]
theorem l_X9_adjusts (hR : x_wf R) {Nl : Nat} (hNl : Nl ≤ 60) (hl : I 226 14 = Int32.ofNat Nl) {Ns : Nat} (hNs : Ns ≤ 6) (hn : I 226 8 = Int32.ofNat Ns) (hIL : y_IL (I 226)) {En : Nat} (hEn : En ≤ 36) {E : Int32} (hE : E = Int32.ofNat En) : ∀ d k, k + d = En → x_Ev X mX9_adjusts 21 [some (.ref 225), some (.long (sp_adj (I 226) (L 229) Nl Ns k)), none, some (.int E), some (.int (Int32.ofNat k))] [] ((I, y_Lk L (I 226) Nl k, R), 233, 0, 0) (.inl (some (.long (sp_adj (I 226) (L 229) Nl Ns En))), (I, y_Lk L (I 226) Nl En, R), 233) := by
  intro d
  induction d with
  | zero =>
    intro k hd
    obtain rfl : En = k := by omega
    refine f_iload (M := mX9_adjusts) 23 dX9_adjusts_21 rfl rfl ?_
    refine f_iload_n (M := mX9_adjusts) 24 dX9_adjusts_23 rfl rfl ?_
    refine e_icmp_geT (M := mX9_adjusts) 52 dX9_adjusts_24 rfl (by rw [hE]; exact Int32.le_refl _) ?_
    refine f_lload_n (M := mX9_adjusts) 53 dX9_adjusts_52 rfl rfl ?_
    refine e_rl (M := mX9_adjusts) dX9_adjusts_53 rfl (x_kk rfl) (x_kk rfl) ?_
    rfl
  | succ d ih =>
    intro k hd
    refine f_iload (M := mX9_adjusts) 23 dX9_adjusts_21 rfl rfl ?_
    refine f_iload_n (M := mX9_adjusts) 24 dX9_adjusts_23 rfl rfl ?_
    refine e_icmp_geF (M := mX9_adjusts) 52 dX9_adjusts_24 rfl (by rw [hE, n_le (by omega) (by omega)]; omega) ?_
    refine f_lload_n (M := mX9_adjusts) 28 dX9_adjusts_27 rfl rfl ?_
    refine f_aload_n (M := mX9_adjusts) 29 dX9_adjusts_28 rfl rfl ?_
    refine f_iload (M := mX9_adjusts) 31 dX9_adjusts_29 rfl rfl ?_
    refine e_cV (M := mX9_adjusts) [_, _] 0 0 dX9_adjusts_31 pa_9280 pb_9280 cc_9280 rfl rfl rfl rfl rfl (x_kk rfl) (x_kk rfl) rfl (c_X9_chargeOf hR hNl hl hNs hn (fB_0 hIL hNl hl) (by omega)) rfl ?_
    refine f_aload_n (M := mX9_adjusts) 35 dX9_adjusts_34 rfl rfl ?_
    refine e_getR (M := mX9_adjusts) dX9_adjusts_35 fl_9019 (x_kk rfl) (x_kk rfl) rfl (wf_9_3 hR) ?_
    refine f_iconst (M := mX9_adjusts) 39 dX9_adjusts_38 ki_1 rfl ?_
    refine f_iload (M := mX9_adjusts) 41 dX9_adjusts_39 rfl rfl ?_
    refine f_iadd (M := mX9_adjusts) 42 dX9_adjusts_41 rfl ?_
    refine e_lld (M := mX9_adjusts) (w := 37) (j := (1) + (k)) dX9_adjusts_42 (x_kk rfl) rfl (ix_add kn_1 rfl) (by omega) (by omega) ?_
    refine f_lsub (M := mX9_adjusts) 44 dX9_adjusts_43 rfl ?_
    refine f_ladd (M := mX9_adjusts) 45 dX9_adjusts_44 rfl ?_
    refine f_lstore_n (M := mX9_adjusts) (ls' := [_, _, _, _, _]) 46 dX9_adjusts_45 rfl rfl rfl ?_
    refine f_iinc (M := mX9_adjusts) (ls' := [_, _, _, _, _]) 49 dX9_adjusts_46 ki_1 rfl rfl rfl rfl ?_
    refine f_goto (M := mX9_adjusts) 21 dX9_adjusts_49 rfl ?_
    rw [n_inc (s := k), Lk_s, Lk_o (q := 229) (by decide)]; exact ih (k + 1) (by omega)
theorem m_adjusts (hR : x_wf R) {Nl : Nat} (hNl : Nl ≤ 60) (hl : I 226 14 = Int32.ofNat Nl) {Ns : Nat} (hNs : Ns ≤ 6) (hn : I 226 8 = Int32.ofNat Ns) (hIL : y_IL (I 226)) {En : Nat} (hEn : En ≤ 36) (hE : I 226 13 + I 226 16 = Int32.ofNat En) : x_Cv X mX9_adjusts [.ref 225] (I, L, R) 233 (.inl (some (.long (sp_adj (I 226) (L 229) Nl Ns En))), (I, y_Lk L (I 226) Nl En, R), 233) := by
  show x_Ev X mX9_adjusts 0 [some (.ref 225), none, none, none, none] [] ((I, L, R), 233, 0, 0) _
  refine f_lconst (M := mX9_adjusts) 1 dX9_adjusts_0 kl_0 rfl ?_
  refine f_lstore_n (M := mX9_adjusts) (ls' := [_, _, _, _, _]) 2 dX9_adjusts_1 rfl rfl rfl ?_
  refine f_aload_n (M := mX9_adjusts) 3 dX9_adjusts_2 rfl rfl ?_
  refine e_getR (M := mX9_adjusts) dX9_adjusts_3 fl_9007 (x_kk rfl) (x_kk rfl) rfl (wf_9_0 hR) ?_
  refine f_bipush (M := mX9_adjusts) 8 dX9_adjusts_6 kb_13 rfl ?_
  refine e_ild (M := mX9_adjusts) (w := 606) (j := 13) dX9_adjusts_8 (x_kk rfl) rfl kn_13 (by omega) (by omega) ?_
  refine f_aload_n (M := mX9_adjusts) 10 dX9_adjusts_9 rfl rfl ?_
  refine e_getR (M := mX9_adjusts) dX9_adjusts_10 fl_9007 (x_kk rfl) (x_kk rfl) rfl (wf_9_0 hR) ?_
  refine f_bipush (M := mX9_adjusts) 15 dX9_adjusts_13 kb_16 rfl ?_
  refine e_ild (M := mX9_adjusts) (w := 606) (j := 16) dX9_adjusts_15 (x_kk rfl) rfl kn_16 (by omega) (by omega) ?_
  refine f_iadd (M := mX9_adjusts) 17 dX9_adjusts_16 rfl ?_
  refine f_istore_n (M := mX9_adjusts) (ls' := [_, _, _, _, _]) 18 dX9_adjusts_17 rfl rfl rfl ?_
  refine f_iconst (M := mX9_adjusts) 19 dX9_adjusts_18 ki_0 rfl ?_
  refine f_istore (M := mX9_adjusts) (ls' := [_, _, _, _, _]) 21 dX9_adjusts_19 rfl rfl rfl ?_
  exact l_X9_adjusts hR hNl hl hNs hn hIL hEn hE En 0 (by omega)
theorem l_X6_unbooked {N β : Nat} {a : Nat → Int32} {b : Nat → Int64} (H : y_CS N I L R β a b) {Nl : Nat} (hNl : Nl ≤ 60) (hl : a 14 = Int32.ofNat Nl) {Ns : Nat} (hNs : Ns ≤ 6) (hn : a 8 = Int32.ofNat Ns) {En : Nat} (hEn : En ≤ 36) {E : Int32} (hE : E = Int32.ofNat En) : ∀ d k, k + d = En → x_Ev X mX6_unbooked 33 [some (.ref β), some (.int E), some (.long (sp_adj a b Nl Ns k)), none, some (.int (Int32.ofNat k))] [] ((I, L, R), 233, 0, 0) (.inl (some (.long (sp_adj a b Nl Ns En))), (I, L, R), 233) := by
  have hR := h_R H
  have hβ := h_β H
  intro d
  induction d with
  | zero =>
    intro k hd
    obtain rfl : En = k := by omega
    refine f_iload (M := mX6_unbooked) 35 dX6_unbooked_33 rfl rfl ?_
    refine f_iload_n (M := mX6_unbooked) 36 dX6_unbooked_35 rfl rfl ?_
    refine e_icmp_geT (M := mX6_unbooked) 65 dX6_unbooked_36 rfl (by rw [hE]; exact Int32.le_refl _) ?_
    refine f_lload_n (M := mX6_unbooked) 66 dX6_unbooked_65 rfl rfl ?_
    refine e_rl (M := mX6_unbooked) dX6_unbooked_66 rfl (x_kk rfl) (x_kk rfl) ?_
    rfl
  | succ d ih =>
    intro k hd
    refine f_iload (M := mX6_unbooked) 35 dX6_unbooked_33 rfl rfl ?_
    refine f_iload_n (M := mX6_unbooked) 36 dX6_unbooked_35 rfl rfl ?_
    refine e_icmp_geF (M := mX6_unbooked) 65 dX6_unbooked_36 rfl (by rw [hE, n_le (by omega) (by omega)]; omega) ?_
    refine f_lload_n (M := mX6_unbooked) 40 dX6_unbooked_39 rfl rfl ?_
    refine f_aload_n (M := mX6_unbooked) 41 dX6_unbooked_40 rfl rfl ?_
    refine f_iload (M := mX6_unbooked) 43 dX6_unbooked_41 rfl rfl ?_
    refine e_cV (M := mX6_unbooked) [_, _] 0 0 dX6_unbooked_43 pa_6136 pb_6136 cc_6136 rfl rfl rfl rfl rfl (x_kk rfl) (x_kk rfl) (x_rcvOK (sl_lt hβ 0 rfl) (sl_s hβ 0 rfl rfl) rfl) (k_chargeOf H hNl hl hNs hn (by omega)) rfl ?_
    refine f_aload_n (M := mX6_unbooked) 47 dX6_unbooked_46 rfl rfl ?_
    refine e_getR (M := mX6_unbooked) dX6_unbooked_47 fl_6035 (x_kk rfl) (sl_lt hβ 0 rfl) (sl_s hβ 0 rfl rfl) (wf_6_4 hR hβ) ?_
    refine e_getR (M := mX6_unbooked) dX6_unbooked_50 fl_6139 (x_kk rfl) (sl_lt hβ 12 rfl) (sl_s hβ 12 rfl rfl) (wf_1_3 hR hβ) ?_
    refine f_iload (M := mX6_unbooked) 55 dX6_unbooked_53 rfl rfl ?_
    refine e_lld (M := mX6_unbooked) (w := 36) (j := k) dX6_unbooked_55 (sl_lt hβ 16 rfl) (sl_shp hβ 16 rfl) rfl (by omega) (by omega) ?_
    refine f_lsub (M := mX6_unbooked) 57 dX6_unbooked_56 rfl ?_
    refine f_ladd (M := mX6_unbooked) 58 dX6_unbooked_57 rfl ?_
    refine f_lstore_n (M := mX6_unbooked) (ls' := [_, _, _, _, _]) 59 dX6_unbooked_58 rfl rfl rfl ?_
    refine f_iinc (M := mX6_unbooked) (ls' := [_, _, _, _, _]) 62 dX6_unbooked_59 ki_1 rfl rfl rfl rfl ?_
    refine f_goto (M := mX6_unbooked) 33 dX6_unbooked_62 rfl ?_
    rw [n_inc (s := k), (h_K H).2.2.2.2.2.2.1 k (by omega)]; exact ih (k + 1) (by omega)
theorem k_unbooked {N β : Nat} {a : Nat → Int32} {b : Nat → Int64} (H : y_CS N I L R β a b) {Nl : Nat} (hNl : Nl ≤ 60) (hl : a 14 = Int32.ofNat Nl) {Ns : Nat} (hNs : Ns ≤ 6) (hn : a 8 = Int32.ofNat Ns) {Nm : Nat} (hNm : Nm < 36) (hmm : a 13 = Int32.ofNat Nm) : x_Cv X mX6_unbooked [.ref β] (I, L, R) 233 (.inl (some (.long (sp_adj a b Nl Ns (sp_en a Nm)))), (I, L, R), 233) := by
  have hR := h_R H
  have hβ := h_β H
  show x_Ev X mX6_unbooked 0 [some (.ref β), none, none, none, none] [] ((I, L, R), 233, 0, 0) _
  refine f_aload_n (M := mX6_unbooked) 1 dX6_unbooked_0 rfl rfl ?_
  refine e_getI (M := mX6_unbooked) dX6_unbooked_1 fl_6046 (x_kk rfl) (sl_lt hβ 0 rfl) (sl_s hβ 0 rfl rfl) ?_
  refine f_iconst (M := mX6_unbooked) 5 dX6_unbooked_4 ki_4 rfl ?_
  refine e_icmp_ne (M := mX6_unbooked) (t := 20) dX6_unbooked_5 rfl (fun h1 => ?_) (fun h1 => ?_)
  · refine f_aload_n (M := mX6_unbooked) 21 dX6_unbooked_20 rfl rfl ?_
    refine e_getR (M := mX6_unbooked) dX6_unbooked_21 fl_6035 (x_kk rfl) (sl_lt hβ 0 rfl) (sl_s hβ 0 rfl rfl) (wf_6_4 hR hβ) ?_
    refine e_getI (M := mX6_unbooked) dX6_unbooked_24 fl_6133 (x_kk rfl) (sl_lt hβ 12 rfl) (sl_s hβ 12 rfl rfl) ?_
    refine f_istore_n (M := mX6_unbooked) (ls' := [_, _, _, _, _]) 28 dX6_unbooked_27 rfl rfl rfl ?_
    refine f_lconst (M := mX6_unbooked) 29 dX6_unbooked_28 kl_0 rfl ?_
    refine f_lstore_n (M := mX6_unbooked) (ls' := [_, _, _, _, _]) 30 dX6_unbooked_29 rfl rfl rfl ?_
    refine f_iconst (M := mX6_unbooked) 31 dX6_unbooked_30 ki_0 rfl ?_
    refine f_istore (M := mX6_unbooked) (ls' := [_, _, _, _, _]) 33 dX6_unbooked_31 rfl rfl rfl ?_
    exact l_X6_unbooked H hNl hl hNs hn (en_le hNm) (by rw [(h_K H).2.2.2.2.2.1, hmm]; unfold sp_en; rw [if_neg (fun z => h1 ((h_ph H).trans z))]) (sp_en a Nm) 0 (by omega)
  · refine f_aload_n (M := mX6_unbooked) 9 dX6_unbooked_8 rfl rfl ?_
    refine e_getR (M := mX6_unbooked) dX6_unbooked_9 fl_6035 (x_kk rfl) (sl_lt hβ 0 rfl) (sl_s hβ 0 rfl rfl) (wf_6_4 hR hβ) ?_
    refine e_getI (M := mX6_unbooked) dX6_unbooked_12 fl_6133 (x_kk rfl) (sl_lt hβ 12 rfl) (sl_s hβ 12 rfl rfl) ?_
    refine f_iconst (M := mX6_unbooked) 16 dX6_unbooked_15 ki_1 rfl ?_
    refine f_iadd (M := mX6_unbooked) 17 dX6_unbooked_16 rfl ?_
    refine f_goto (M := mX6_unbooked) 27 dX6_unbooked_17 rfl ?_
    refine f_istore_n (M := mX6_unbooked) (ls' := [_, _, _, _, _]) 28 dX6_unbooked_27 rfl rfl rfl ?_
    refine f_lconst (M := mX6_unbooked) 29 dX6_unbooked_28 kl_0 rfl ?_
    refine f_lstore_n (M := mX6_unbooked) (ls' := [_, _, _, _, _]) 30 dX6_unbooked_29 rfl rfl rfl ?_
    refine f_iconst (M := mX6_unbooked) 31 dX6_unbooked_30 ki_0 rfl ?_
    refine f_istore (M := mX6_unbooked) (ls' := [_, _, _, _, _]) 33 dX6_unbooked_31 rfl rfl rfl ?_
    exact l_X6_unbooked H hNl hl hNs hn (en_le hNm) (by rw [(h_K H).2.2.2.2.2.1, hmm, n_inc]; unfold sp_en; rw [if_pos ((h_ph H).symm.trans (x_dn h1))]) (sp_en a Nm) 0 (by omega)
theorem ko_adjustment {N β : Nat} {a : Nat → Int32} {b : Nat → Int64} (H : y_CS N I L R β a b) {Ns Np Nl Nm : Nat} (Z : y_Z a Ns Np Nl Nm) : x_Cv X mX8_adjustment [.ref 0] (I, L, R) 233 (.inl (some (.long (sp_adj a b Nl Ns (sp_en a Nm)))), (I, L, R), 233) := by
  obtain ⟨hNs, hn, hNp, hp, hNl, hl, hNm, hmm⟩ := Z
  have hR := h_R H
  have hβ := h_β H
  have hS := h_S H
  show x_Ev X mX8_adjustment 0 [some (.ref 0)] [] ((I, L, R), 233, 0, 0) _
  refine f_aload_n (M := mX8_adjustment) 1 dX8_adjustment_0 rfl rfl ?_
  refine e_getR (M := mX8_adjustment) dX8_adjustment_1 fl_8026 (x_kk rfl) (x_kk rfl) rfl hS ?_
  refine e_cV (M := mX8_adjustment) [_] 0 0 dX8_adjustment_4 pa_8309 pb_8309 cc_8309 rfl rfl rfl rfl rfl (x_kk rfl) (x_kk rfl) (x_rcvOK (sl_lt hβ 0 rfl) (sl_s hβ 0 rfl rfl) rfl) (k_unbooked H hNl hl hNs hn hNm hmm) rfl ?_
  refine e_rl (M := mX8_adjustment) dX8_adjustment_7 rfl (x_kk rfl) (x_kk rfl) ?_
  rfl
theorem mo_adjustment (hR : x_wf R) {Ns Np Nl Nm : Nat} (Z : y_Z (I 226) Ns Np Nl Nm) (hIK : y_IK (I 226)) (hIL : y_IL (I 226)) : x_Cv X mX9_adjustment [.ref 225] (I, L, R) 233 (.inl (some (.long (sp_adj (I 226) (L 229) Nl Ns (sp_en (I 226) Nm)))), (x_tw I 0, y_Lk L (I 226) Nl (sp_en (I 226) Nm), R), 233) := by
  obtain ⟨hNs, hn, hNp, hp, hNl, hl, hNm, hmm⟩ := Z
  show x_Ev X mX9_adjustment 0 [some (.ref 225)] [] ((I, L, R), 233, 0, 0) _
  refine f_aload_n (M := mX9_adjustment) 1 dX9_adjustment_0 rfl rfl ?_
  refine f_iconst (M := mX9_adjustment) 2 dX9_adjustment_1 ki_0 rfl ?_
  refine e_putI (M := mX9_adjustment) dX9_adjustment_2 fl_9033 (x_kk rfl) (x_kk rfl) rfl (fun q9 => Bool.noConfusion q9) ?_
  refine f_aload_n (M := mX9_adjustment) 6 dX9_adjustment_5 rfl rfl ?_
  refine e_cV (M := mX9_adjustment) [_] 0 0 dX9_adjustment_6 pa_9288 pb_9288 cc_9288 rfl rfl rfl rfl rfl (x_kk rfl) (x_kk rfl) rfl (m_adjusts (I := x_tw I 0) hR hNl hl hNs hn hIL (en_le hNm) (en_m hIK hmm)) rfl ?_
  refine e_rl (M := mX9_adjustment) dX9_adjustment_9 rfl (x_kk rfl) (x_kk rfl) ?_
  rfl
theorem sim_adjustment (T : y_T N I L R) : y_DL N X mX8_adjustment [.ref 0] mX9_adjustment [.ref 225] I L R := by
  have T0 := T
  obtain ⟨a, b, kn, ks, bf, bn, ep, ⟨β, δ, γ, ν, hB⟩, hM, hI⟩ := T
  have H : y_CS N I L R β a b := ⟨hM.1, hB.1.2.1, hB.1.2.2.2.2.1, hB.2.2.2.2.2.1, hI.1⟩
  obtain ⟨Ns, Np, Nl, Nm, Z⟩ := Z_of hI.1
  have hR := hM.1
  have ha : I 226 = a := hM.2.1
  have hb : L 229 = b := hM.2.2.1
  subst ha
  subst hb
  obtain ⟨hNs, hn, hNp, hp, hNl, hl, hNm, hmm⟩ := id Z
  exact ⟨_, _, _, ko_adjustment H Z, mo_adjustment hR Z (h_IK H) (h_IL H), T_Lk (T_tw T0)⟩
def y_acc (z : Int64) (f : Nat → Int64) : Nat → Int64
  | 0 => z
  | n + 1 => y_acc z f n + f n
theorem acc_s {z : Int64} {f : Nat → Int64} : ∀ {n : Nat}, y_acc z f n = z + x_sum64 f n
  | 0 => (Int64.add_zero z).symm
  | n + 1 => by
    show y_acc z f n + f n = z + (x_sum64 f n + f n)
    rw [acc_s, Int64.add_assoc]
theorem mv_val (hR : x_wf R) {Ns : Nat} (hNs : Ns ≤ 6) (hn : I 226 8 = Int32.ofNat Ns) {q : Nat} (hq : q < 8) {x : Int32} (hx : x = Int32.ofNat q) : x_Cv X mX9_valueOf [.ref 225, .int x, .int (-1), .int 100] (I, L, R) 233 (.inl (some (.long (sp_val (I 226) q (-1) 100 Ns))), (I, L, R), 233) := by
  subst hx
  exact c_X9_valueOf hR hNs hn hq
def sp_dmf (a : Nat → Int32) (n m s : Nat) : Int64 := (sp_rem a s n).toInt64 * (sp_rateOf a s (m / 3)).toInt64
def sp_dm0 (a : Nat → Int32) (b : Nat → Int64) (w k : Nat) : Int64 := (a 7).toInt64 + b 0 - (a 15).toInt64 - sp_val a w (-1) 100 k
def sp_dam (a : Nat → Int32) (b : Nat → Int64) (w n m k : Nat) : Int64 := y_acc (sp_dm0 a b w k) (sp_dmf a n m) k
theorem l_X9_damages (hR : x_wf R) {Ns Nl Nm : Nat} (hNs : Ns ≤ 6) (hn : I 226 8 = Int32.ofNat Ns) (hNl : Nl ≤ 60) (hl : I 226 14 = Int32.ofNat Nl) (hNm : Nm < 36) (hmm : I 226 13 = Int32.ofNat Nm) {z : Int64} : ∀ d k, k + d = Ns → x_Ev X mX9_damages 71 [some (.ref 225), some (.long (y_acc z (sp_dmf (I 226) Nl Nm) k)), none, some (.int (Int32.ofNat k))] [] ((I, L, R), 233, 0, 0) (.inl (some (.long (y_acc z (sp_dmf (I 226) Nl Nm) Ns))), (I, L, R), 233) := by
  intro d
  induction d with
  | zero =>
    intro k hd
    obtain rfl : Ns = k := by omega
    refine f_iload_n (M := mX9_damages) 72 dX9_damages_71 rfl rfl ?_
    refine f_aload_n (M := mX9_damages) 73 dX9_damages_72 rfl rfl ?_
    refine e_getR (M := mX9_damages) dX9_damages_73 fl_9007 (x_kk rfl) (x_kk rfl) rfl (wf_9_0 hR) ?_
    refine f_bipush (M := mX9_damages) 78 dX9_damages_76 kb_8 rfl ?_
    refine e_ild (M := mX9_damages) (w := 606) (j := 8) dX9_damages_78 (x_kk rfl) rfl kn_8 (by omega) (by omega) ?_
    refine e_icmp_geT (M := mX9_damages) 113 dX9_damages_79 rfl (by rw [hn]; exact Int32.le_refl _) ?_
    refine f_lload_n (M := mX9_damages) 114 dX9_damages_113 rfl rfl ?_
    refine e_rl (M := mX9_damages) dX9_damages_114 rfl (x_kk rfl) (x_kk rfl) ?_
    rfl
  | succ d ih =>
    intro k hd
    refine f_iload_n (M := mX9_damages) 72 dX9_damages_71 rfl rfl ?_
    refine f_aload_n (M := mX9_damages) 73 dX9_damages_72 rfl rfl ?_
    refine e_getR (M := mX9_damages) dX9_damages_73 fl_9007 (x_kk rfl) (x_kk rfl) rfl (wf_9_0 hR) ?_
    refine f_bipush (M := mX9_damages) 78 dX9_damages_76 kb_8 rfl ?_
    refine e_ild (M := mX9_damages) (w := 606) (j := 8) dX9_damages_78 (x_kk rfl) rfl kn_8 (by omega) (by omega) ?_
    refine e_icmp_geF (M := mX9_damages) 113 dX9_damages_79 rfl (by rw [hn, n_le (by omega) (by omega)]; omega) ?_
    refine f_lload_n (M := mX9_damages) 83 dX9_damages_82 rfl rfl ?_
    refine f_aload_n (M := mX9_damages) 84 dX9_damages_83 rfl rfl ?_
    refine f_iload_n (M := mX9_damages) 85 dX9_damages_84 rfl rfl ?_
    refine e_cV (M := mX9_damages) [_, _] 0 0 dX9_damages_85 pa_9174 pb_9174 cc_9174 rfl rfl rfl rfl rfl (x_kk rfl) (x_kk rfl) rfl (c_X9_remains hR hNl hl (by omega)) rfl ?_
    refine f_i2l (M := mX9_damages) 89 dX9_damages_88 rfl ?_
    refine f_aload_n (M := mX9_damages) 90 dX9_damages_89 rfl rfl ?_
    refine f_iload_n (M := mX9_damages) 91 dX9_damages_90 rfl rfl ?_
    refine f_aload_n (M := mX9_damages) 92 dX9_damages_91 rfl rfl ?_
    refine e_getR (M := mX9_damages) dX9_damages_92 fl_9007 (x_kk rfl) (x_kk rfl) rfl (wf_9_0 hR) ?_
    refine f_bipush (M := mX9_damages) 97 dX9_damages_95 kb_13 rfl ?_
    refine e_ild (M := mX9_damages) (w := 606) (j := 13) dX9_damages_97 (x_kk rfl) rfl kn_13 (by omega) (by omega) ?_
    refine f_iconst (M := mX9_damages) 99 dX9_damages_98 ki_3 rfl ?_
    refine e_idiv (M := mX9_damages) dX9_damages_99 (by decide) ?_
    rw [show I 226 13 / 3 = Int32.ofNat (Nm / 3) from ix_div (m := Nm) (k := 3) (by omega) (by omega) hmm kn_3]
    refine e_cV (M := mX9_damages) [_, _, _] 0 0 dX9_damages_100 pa_9246 pb_9246 cc_9246 rfl rfl rfl rfl rfl (x_kk rfl) (x_kk rfl) rfl (c_X9_rateOf hR (by omega) (by omega)) rfl ?_
    refine f_i2l (M := mX9_damages) 104 dX9_damages_103 rfl ?_
    refine f_lmul (M := mX9_damages) 105 dX9_damages_104 rfl ?_
    refine f_ladd (M := mX9_damages) 106 dX9_damages_105 rfl ?_
    refine f_lstore_n (M := mX9_damages) (ls' := [_, _, _, _]) 107 dX9_damages_106 rfl rfl rfl ?_
    refine f_iinc (M := mX9_damages) (ls' := [_, _, _, _]) 110 dX9_damages_107 ki_1 rfl rfl rfl rfl ?_
    refine f_goto (M := mX9_damages) 71 dX9_damages_110 rfl ?_
    rw [n_inc (s := k)]; exact ih (k + 1) (by omega)
theorem mo_damages (hR : x_wf R) {Ns Np Nl Nm : Nat} (Z : y_Z (I 226) Ns Np Nl Nm) (h0 : I 226 0 = 8) {w : Nat} (hw : w < 8) (h12 : I 226 12 = Int32.ofNat w) : x_Cv X mX9_damages [.ref 225] (I, L, R) 233 (.inl (some (.long (sp_dam (I 226) (L 229) w Nl Nm Ns))), (x_tw I 0, L, R), 233) := by
  obtain ⟨hNs, hn, hNp, hp, hNl, hl, hNm, hmm⟩ := Z
  show x_Ev X mX9_damages 0 [some (.ref 225), none, none, none] [] ((I, L, R), 233, 0, 0) _
  refine f_aload_n (M := mX9_damages) 1 dX9_damages_0 rfl rfl ?_
  refine f_aload_n (M := mX9_damages) 2 dX9_damages_1 rfl rfl ?_
  refine e_getR (M := mX9_damages) dX9_damages_2 fl_9007 (x_kk rfl) (x_kk rfl) rfl (wf_9_0 hR) ?_
  refine f_iconst (M := mX9_damages) 6 dX9_damages_5 ki_0 rfl ?_
  refine e_ild (M := mX9_damages) (w := 606) (j := 0) dX9_damages_6 (x_kk rfl) rfl kn_0 (by omega) (by omega) ?_
  refine f_bipush (M := mX9_damages) 9 dX9_damages_7 kb_8 rfl ?_
  refine e_icmp_neF (M := mX9_damages) 16 dX9_damages_9 rfl (fun z => z h0) ?_
  refine f_iconst (M := mX9_damages) 13 dX9_damages_12 ki_0 rfl ?_
  refine f_goto (M := mX9_damages) 17 dX9_damages_13 rfl ?_
  refine e_putI (M := mX9_damages) dX9_damages_17 fl_9033 (x_kk rfl) (x_kk rfl) rfl (fun q9 => Bool.noConfusion q9) ?_
  refine f_aload_n (M := mX9_damages) 21 dX9_damages_20 rfl rfl ?_
  refine e_getI (M := mX9_damages) dX9_damages_21 fl_9033 (x_kk rfl) (x_kk rfl) rfl ?_
  refine e_if_leT (M := mX9_damages) 29 dX9_damages_24 rfl (show (0 : Int32) ≤ 0 by decide) ?_
  refine f_aload_n (M := mX9_damages) 30 dX9_damages_29 rfl rfl ?_
  refine e_getR (M := mX9_damages) dX9_damages_30 fl_9007 (x_kk rfl) (x_kk rfl) rfl (wf_9_0 hR) ?_
  refine f_bipush (M := mX9_damages) 35 dX9_damages_33 kb_7 rfl ?_
  refine e_ild (M := mX9_damages) (w := 606) (j := 7) dX9_damages_35 (x_kk rfl) rfl kn_7 (by omega) (by omega) ?_
  refine f_i2l (M := mX9_damages) 37 dX9_damages_36 rfl ?_
  refine f_aload_n (M := mX9_damages) 38 dX9_damages_37 rfl rfl ?_
  refine e_getR (M := mX9_damages) dX9_damages_38 fl_9019 (x_kk rfl) (x_kk rfl) rfl (wf_9_3 hR) ?_
  refine f_iconst (M := mX9_damages) 42 dX9_damages_41 ki_0 rfl ?_
  refine e_lld (M := mX9_damages) (w := 37) (j := 0) dX9_damages_42 (x_kk rfl) rfl kn_0 (by omega) (by omega) ?_
  refine f_ladd (M := mX9_damages) 44 dX9_damages_43 rfl ?_
  refine f_aload_n (M := mX9_damages) 45 dX9_damages_44 rfl rfl ?_
  refine e_getR (M := mX9_damages) dX9_damages_45 fl_9007 (x_kk rfl) (x_kk rfl) rfl (wf_9_0 hR) ?_
  refine f_bipush (M := mX9_damages) 50 dX9_damages_48 kb_15 rfl ?_
  refine e_ild (M := mX9_damages) (w := 606) (j := 15) dX9_damages_50 (x_kk rfl) rfl kn_15 (by omega) (by omega) ?_
  refine f_i2l (M := mX9_damages) 52 dX9_damages_51 rfl ?_
  refine f_lsub (M := mX9_damages) 53 dX9_damages_52 rfl ?_
  refine f_aload_n (M := mX9_damages) 54 dX9_damages_53 rfl rfl ?_
  refine f_aload_n (M := mX9_damages) 55 dX9_damages_54 rfl rfl ?_
  refine e_getR (M := mX9_damages) dX9_damages_55 fl_9007 (x_kk rfl) (x_kk rfl) rfl (wf_9_0 hR) ?_
  refine f_bipush (M := mX9_damages) 60 dX9_damages_58 kb_12 rfl ?_
  refine e_ild (M := mX9_damages) (w := 606) (j := 12) dX9_damages_60 (x_kk rfl) rfl kn_12 (by omega) (by omega) ?_
  refine f_iconst (M := mX9_damages) 62 dX9_damages_61 ki_m1 rfl ?_
  refine f_bipush (M := mX9_damages) 64 dX9_damages_62 kb_100 rfl ?_
  refine e_cV (M := mX9_damages) [_, _] 0 0 dX9_damages_64 pa_9207 pb_9207 cc_9207 rfl rfl rfl rfl rfl (x_kk rfl) (x_kk rfl) rfl (mv_val (I := x_tw I 0) hR hNs hn hw h12) rfl ?_
  refine f_lsub (M := mX9_damages) 68 dX9_damages_67 rfl ?_
  refine f_lstore_n (M := mX9_damages) (ls' := [_, _, _, _]) 69 dX9_damages_68 rfl rfl rfl ?_
  refine f_iconst (M := mX9_damages) 70 dX9_damages_69 ki_0 rfl ?_
  refine f_istore_n (M := mX9_damages) (ls' := [_, _, _, _]) 71 dX9_damages_70 rfl rfl rfl ?_
  exact l_X9_damages (I := x_tw I 0) (z := sp_dm0 (I 226) (L 229) w Ns) hR hNs hn hNl hl hNm hmm Ns 0 (by omega)
theorem l_X6_lossByResale {N β : Nat} {a : Nat → Int32} {b : Nat → Int64} (H : y_CS N I L R β a b) {Ns Nl Nm : Nat} (hNs : Ns ≤ 6) (hn : a 8 = Int32.ofNat Ns) (hNl : Nl ≤ 60) (hl : a 14 = Int32.ofNat Nl) (hNm : Nm < 36) (h3 : 3 ≤ a 0) {r : x_O × x_Mem × Nat} {v : Value} {w w2 : Option Value} (kk : ∀ w w2, x_Ev X mX6_lossByResale 82 [some (.ref β), some v, some (.int (Int32.ofNat (Nm / 3))), some (.long (x_sum64 (fun s => (sp_rateOf a s (Nm / 3)).toInt64 * (sp_rem a s Nl).toInt64) Ns)), none, some (.int (Int32.ofNat Ns)), w, w2] [] ((I, L, R), 233, 0, 0) r) : ∀ d k, k + d = Ns → x_Ev X mX6_lossByResale 34 [some (.ref β), some v, some (.int (Int32.ofNat (Nm / 3))), some (.long (x_sum64 (fun s => (sp_rateOf a s (Nm / 3)).toInt64 * (sp_rem a s Nl).toInt64) k)), none, some (.int (Int32.ofNat k)), w, w2] [] ((I, L, R), 233, 0, 0) r := by
  have hR := h_R H
  have hβ := h_β H
  intro d
  induction d generalizing w w2 with
  | zero =>
    intro k hd
    obtain rfl : Ns = k := by omega
    refine f_iload (M := mX6_lossByResale) 36 dX6_lossByResale_34 rfl rfl ?_
    refine f_aload_n (M := mX6_lossByResale) 37 dX6_lossByResale_36 rfl rfl ?_
    refine e_getR (M := mX6_lossByResale) dX6_lossByResale_37 fl_6012 (x_kk rfl) (sl_lt hβ 0 rfl) (sl_s hβ 0 rfl rfl) (wf_6_1 hR hβ) ?_
    refine e_getI (M := mX6_lossByResale) dX6_lossByResale_40 fl_6077 (x_kk rfl) (sl_lt hβ 1 rfl) (sl_s hβ 1 rfl rfl) ?_
    refine e_icmp_geT (M := mX6_lossByResale) 82 dX6_lossByResale_43 rfl (by rw [(h_T H).1, hn]; exact Int32.le_refl _) ?_
    exact kk _ _
  | succ d ih =>
    intro k hd
    refine f_iload (M := mX6_lossByResale) 36 dX6_lossByResale_34 rfl rfl ?_
    refine f_aload_n (M := mX6_lossByResale) 37 dX6_lossByResale_36 rfl rfl ?_
    refine e_getR (M := mX6_lossByResale) dX6_lossByResale_37 fl_6012 (x_kk rfl) (sl_lt hβ 0 rfl) (sl_s hβ 0 rfl rfl) (wf_6_1 hR hβ) ?_
    refine e_getI (M := mX6_lossByResale) dX6_lossByResale_40 fl_6077 (x_kk rfl) (sl_lt hβ 1 rfl) (sl_s hβ 1 rfl rfl) ?_
    refine e_icmp_geF (M := mX6_lossByResale) 82 dX6_lossByResale_43 rfl (by rw [(h_T H).1, hn, n_le (by omega) (by omega)]; omega) ?_
    refine f_aload_n (M := mX6_lossByResale) 47 dX6_lossByResale_46 rfl rfl ?_
    refine e_getR (M := mX6_lossByResale) dX6_lossByResale_47 fl_6035 (x_kk rfl) (sl_lt hβ 0 rfl) (sl_s hβ 0 rfl rfl) (wf_6_4 hR hβ) ?_
    refine f_iload (M := mX6_lossByResale) 52 dX6_lossByResale_50 rfl rfl ?_
    refine f_iload_n (M := mX6_lossByResale) 53 dX6_lossByResale_52 rfl rfl ?_
    refine f_aload_n (M := mX6_lossByResale) 54 dX6_lossByResale_53 rfl rfl ?_
    refine e_getR (M := mX6_lossByResale) dX6_lossByResale_54 fl_6012 (x_kk rfl) (sl_lt hβ 0 rfl) (sl_s hβ 0 rfl rfl) (wf_6_1 hR hβ) ?_
    refine e_cV (M := mX6_lossByResale) [_] 0 0 dX6_lossByResale_57 pa_6127 pb_6127 cc_6127 rfl rfl rfl rfl rfl (x_kk rfl) (x_kk rfl) (x_rcvOK (sl_lt hβ 12 rfl) (sl_s hβ 12 rfl rfl) rfl) (k_adjustedRate H (by omega) (by omega)) rfl ?_
    refine f_i2l (M := mX6_lossByResale) 61 dX6_lossByResale_60 rfl ?_
    refine f_lstore (M := mX6_lossByResale) (ls' := [_, _, _, _, _, _, _, _]) 63 dX6_lossByResale_61 rfl rfl rfl ?_
    refine f_lload_n (M := mX6_lossByResale) 64 dX6_lossByResale_63 rfl rfl ?_
    refine f_lload (M := mX6_lossByResale) 66 dX6_lossByResale_64 rfl rfl ?_
    refine f_aload_n (M := mX6_lossByResale) 67 dX6_lossByResale_66 rfl rfl ?_
    refine f_iload (M := mX6_lossByResale) 69 dX6_lossByResale_67 rfl rfl ?_
    refine e_cV (M := mX6_lossByResale) [_, _, _] 0 0 dX6_lossByResale_69 pa_6091 pb_6091 cc_6091 rfl rfl rfl rfl rfl (x_kk rfl) (x_kk rfl) (x_rcvOK (sl_lt hβ 0 rfl) (sl_s hβ 0 rfl rfl) rfl) (k_remainingOf H hNl hl h3 (by omega)) rfl ?_
    refine f_i2l (M := mX6_lossByResale) 73 dX6_lossByResale_72 rfl ?_
    refine f_lmul (M := mX6_lossByResale) 74 dX6_lossByResale_73 rfl ?_
    refine f_ladd (M := mX6_lossByResale) 75 dX6_lossByResale_74 rfl ?_
    refine f_lstore_n (M := mX6_lossByResale) (ls' := [_, _, _, _, _, _, _, _]) 76 dX6_lossByResale_75 rfl rfl rfl ?_
    refine f_iinc (M := mX6_lossByResale) (ls' := [_, _, _, _, _, _, _, _]) 79 dX6_lossByResale_76 ki_1 rfl rfl rfl rfl ?_
    refine f_goto (M := mX6_lossByResale) 34 dX6_lossByResale_79 rfl ?_
    rw [n_inc (s := k)]; exact ih (w := _) (w2 := _) (k + 1) (by omega)
theorem eq_dam {a : Nat → Int32} {b : Nat → Int64} {w n m k : Nat} : x_sum64 (fun s => (sp_rateOf a s (m / 3)).toInt64 * (sp_rem a s n).toInt64) k - sp_val a w (-1) 100 k + (a 7).toInt64 + b 0 - (a 15).toInt64 = sp_dam a b w n m k := by
  unfold sp_dam
  rw [acc_s, show x_sum64 (fun s => (sp_rateOf a s (m / 3)).toInt64 * (sp_rem a s n).toInt64) k = x_sum64 (sp_dmf a n m) k from s64_c (fun i _ => by unfold sp_dmf; exact Int64.mul_comm _ _)]
  unfold sp_dm0
  generalize x_sum64 (sp_dmf a n m) k = x
  generalize sp_val a w (-1) 100 k = y
  generalize (a 7).toInt64 = c
  generalize (a 15).toInt64 = d
  generalize b 0 = e
  grind
theorem k_lossByResale {N β : Nat} {a : Nat → Int32} {b : Nat → Int64} (H : y_CS N I L R β a b) {Ns Np Nl Nm : Nat} (Z : y_Z a Ns Np Nl Nm) (h3 : 3 ≤ a 0) {w : Nat} (hw : w < 8) (h : sp_win a (-1) 100 Ns 8 = some w) : x_Cv X mX6_lossByResale [.ref β] (I, L, R) 233 (.inl (some (.long (sp_dam a b w Nl Nm Ns))), (I, L, R), 233) := by
  obtain ⟨hNs, hn, hNp, hp, hNl, hl, hNm, hmm⟩ := Z
  have hR := h_R H
  have hβ := h_β H
  have hS := h_S H
  show x_Ev X mX6_lossByResale 0 [some (.ref β), none, none, none, none, none, none, none] [] ((I, L, R), 233, 0, 0) _
  refine f_aload_n (M := mX6_lossByResale) 1 dX6_lossByResale_0 rfl rfl ?_
  refine e_getR (M := mX6_lossByResale) dX6_lossByResale_1 fl_6028 (x_kk rfl) (sl_lt hβ 0 rfl) (sl_s hβ 0 rfl rfl) (wf_6_3 hR hβ) ?_
  refine f_aload_n (M := mX6_lossByResale) 5 dX6_lossByResale_4 rfl rfl ?_
  refine e_getR (M := mX6_lossByResale) dX6_lossByResale_5 fl_6012 (x_kk rfl) (sl_lt hβ 0 rfl) (sl_s hβ 0 rfl rfl) (wf_6_1 hR hβ) ?_
  refine e_cV (M := mX6_lossByResale) [_] 0 0 dX6_lossByResale_8 pa_6162 pb_6162 cc_6162 rfl rfl rfl rfl rfl (x_kk rfl) (x_kk rfl) (x_rcvOK (sl_lt hβ 7 rfl) (sl_s hβ 7 rfl rfl) rfl) ((by have e := k_winner (X := X) H hNs hn; rw [h] at e; exact e)) rfl ?_
  refine f_istore_n (M := mX6_lossByResale) (ls' := [_, _, _, _, _, _, _, _]) 12 dX6_lossByResale_11 rfl rfl rfl ?_
  refine f_iload_n (M := mX6_lossByResale) 13 dX6_lossByResale_12 rfl rfl ?_
  refine f_iconst (M := mX6_lossByResale) 14 dX6_lossByResale_13 ki_m1 rfl ?_
  refine e_icmp_neT (M := mX6_lossByResale) 19 dX6_lossByResale_14 rfl (n_ne1 (by omega)) ?_
  refine f_aload_n (M := mX6_lossByResale) 20 dX6_lossByResale_19 rfl rfl ?_
  refine e_getR (M := mX6_lossByResale) dX6_lossByResale_20 fl_6035 (x_kk rfl) (sl_lt hβ 0 rfl) (sl_s hβ 0 rfl rfl) (wf_6_4 hR hβ) ?_
  refine e_getI (M := mX6_lossByResale) dX6_lossByResale_23 fl_6133 (x_kk rfl) (sl_lt hβ 12 rfl) (sl_s hβ 12 rfl rfl) ?_
  refine f_iconst (M := mX6_lossByResale) 27 dX6_lossByResale_26 ki_3 rfl ?_
  refine e_idiv (M := mX6_lossByResale) dX6_lossByResale_27 (by decide) ?_
  rw [show I (β + 12) 6 / 3 = Int32.ofNat (Nm / 3) from ix_div (m := Nm) (k := 3) (by omega) (by omega) ((h_K H).2.2.2.2.2.1.trans hmm) kn_3]
  refine f_istore_n (M := mX6_lossByResale) (ls' := [_, _, _, _, _, _, _, _]) 29 dX6_lossByResale_28 rfl rfl rfl ?_
  refine f_lconst (M := mX6_lossByResale) 30 dX6_lossByResale_29 kl_0 rfl ?_
  refine f_lstore_n (M := mX6_lossByResale) (ls' := [_, _, _, _, _, _, _, _]) 31 dX6_lossByResale_30 rfl rfl rfl ?_
  refine f_iconst (M := mX6_lossByResale) 32 dX6_lossByResale_31 ki_0 rfl ?_
  refine f_istore (M := mX6_lossByResale) (ls' := [_, _, _, _, _, _, _, _]) 34 dX6_lossByResale_32 rfl rfl rfl ?_
  refine l_X6_lossByResale H hNs hn hNl hl hNm h3 (fun w8 w9 => ?_) Ns 0 (by omega)
  refine f_lload_n (M := mX6_lossByResale) 83 dX6_lossByResale_82 rfl rfl ?_
  refine f_aload_n (M := mX6_lossByResale) 84 dX6_lossByResale_83 rfl rfl ?_
  refine e_getR (M := mX6_lossByResale) dX6_lossByResale_84 fl_6028 (x_kk rfl) (sl_lt hβ 0 rfl) (sl_s hβ 0 rfl rfl) (wf_6_3 hR hβ) ?_
  refine f_iload_n (M := mX6_lossByResale) 88 dX6_lossByResale_87 rfl rfl ?_
  refine e_cV (M := mX6_lossByResale) [_, _] 0 0 dX6_lossByResale_88 pa_6166 pb_6166 cc_6166 rfl rfl rfl rfl rfl (x_kk rfl) (x_kk rfl) (x_rcvOK (sl_lt hβ 7 rfl) (sl_s hβ 7 rfl rfl) rfl) (k_valueOf H hw hNs hn) rfl ?_
  refine f_lsub (M := mX6_lossByResale) 92 dX6_lossByResale_91 rfl ?_
  refine f_aload_n (M := mX6_lossByResale) 93 dX6_lossByResale_92 rfl rfl ?_
  refine e_getR (M := mX6_lossByResale) dX6_lossByResale_93 fl_6012 (x_kk rfl) (sl_lt hβ 0 rfl) (sl_s hβ 0 rfl rfl) (wf_6_1 hR hβ) ?_
  refine e_getR (M := mX6_lossByResale) dX6_lossByResale_96 fl_6084 (x_kk rfl) (sl_lt hβ 1 rfl) (sl_s hβ 1 rfl rfl) (wf_7_1 hR hβ) ?_
  refine f_bipush (M := mX6_lossByResale) 101 dX6_lossByResale_99 kb_6 rfl ?_
  refine e_ild (M := mX6_lossByResale) (w := 7) (j := 6) dX6_lossByResale_101 (sl_lt hβ 2 rfl) (sl_shp hβ 2 rfl) kn_6 (by omega) (by omega) ?_
  refine f_i2l (M := mX6_lossByResale) 103 dX6_lossByResale_102 rfl ?_
  refine f_ladd (M := mX6_lossByResale) 104 dX6_lossByResale_103 rfl ?_
  refine f_aload_n (M := mX6_lossByResale) 105 dX6_lossByResale_104 rfl rfl ?_
  refine e_getR (M := mX6_lossByResale) dX6_lossByResale_105 fl_6035 (x_kk rfl) (sl_lt hβ 0 rfl) (sl_s hβ 0 rfl rfl) (wf_6_4 hR hβ) ?_
  refine e_getL (M := mX6_lossByResale) dX6_lossByResale_108 fl_6143 (x_kk rfl) (sl_lt hβ 12 rfl) (sl_s hβ 12 rfl rfl) ?_
  refine f_ladd (M := mX6_lossByResale) 112 dX6_lossByResale_111 rfl ?_
  refine f_aload_n (M := mX6_lossByResale) 113 dX6_lossByResale_112 rfl rfl ?_
  refine e_getR (M := mX6_lossByResale) dX6_lossByResale_113 fl_6035 (x_kk rfl) (sl_lt hβ 0 rfl) (sl_s hβ 0 rfl rfl) (wf_6_4 hR hβ) ?_
  refine e_getI (M := mX6_lossByResale) dX6_lossByResale_116 fl_6111 (x_kk rfl) (sl_lt hβ 12 rfl) (sl_s hβ 12 rfl rfl) ?_
  refine f_i2l (M := mX6_lossByResale) 120 dX6_lossByResale_119 rfl ?_
  refine f_lsub (M := mX6_lossByResale) 121 dX6_lossByResale_120 rfl ?_
  refine e_rl (M := mX6_lossByResale) dX6_lossByResale_121 rfl (x_kk rfl) (x_kk rfl) ?_
  exact r_l (by rw [(h_T H).2.1 6 (by decide), (h_K H).2.2.2.2.2.2.2, (h_K H).2.2.2.2.1]; exact eq_dam)
theorem ko_damages {N β : Nat} {a : Nat → Int32} {b : Nat → Int64} (H : y_CS N I L R β a b) {Ns Np Nl Nm : Nat} (Z : y_Z a Ns Np Nl Nm) (h0 : a 0 = 8) {w : Nat} (hw : w < 8) (h : sp_win a (-1) 100 Ns 8 = some w) : x_Cv X mX8_damages [.ref 0] (I, L, R) 233 (.inl (some (.long (sp_dam a b w Nl Nm Ns))), (I, L, R), 233) := by
  have Z0 := Z
  obtain ⟨hNs, hn, hNp, hp, hNl, hl, hNm, hmm⟩ := Z
  have hR := h_R H
  have hβ := h_β H
  have hS := h_S H
  show x_Ev X mX8_damages 0 [some (.ref 0)] [] ((I, L, R), 233, 0, 0) _
  refine f_aload_n (M := mX8_damages) 1 dX8_damages_0 rfl rfl ?_
  refine e_getR (M := mX8_damages) dX8_damages_1 fl_8026 (x_kk rfl) (x_kk rfl) rfl hS ?_
  refine e_getI (M := mX8_damages) dX8_damages_4 fl_8067 (x_kk rfl) (sl_lt hβ 0 rfl) (sl_s hβ 0 rfl rfl) ?_
  refine f_bipush (M := mX8_damages) 9 dX8_damages_7 kb_8 rfl ?_
  refine e_icmp_neF (M := mX8_damages) 16 dX8_damages_9 rfl (fun z => z (by rw [h_ph H]; exact h0)) ?_
  refine f_iconst (M := mX8_damages) 13 dX8_damages_12 ki_1 rfl ?_
  refine f_goto (M := mX8_damages) 17 dX8_damages_13 rfl ?_
  refine e_cS (M := mX8_damages) [] 1 6 dX8_damages_17 pa_8037 cc_8037 rfl rfl rfl rfl rfl (x_kk rfl) (x_kk rfl) rfl (c_X8_requireState (by decide)) rfl ?_
  refine f_aload_n (M := mX8_damages) 21 dX8_damages_20 rfl rfl ?_
  refine e_getR (M := mX8_damages) dX8_damages_21 fl_8026 (x_kk rfl) (x_kk rfl) rfl hS ?_
  refine e_cV (M := mX8_damages) [_] 1 6 dX8_damages_24 pa_8325 pb_8325 cc_8325 rfl rfl rfl rfl rfl (x_kk rfl) (x_kk rfl) (x_rcvOK (sl_lt hβ 0 rfl) (sl_s hβ 0 rfl rfl) rfl) (k_lossByResale H Z0 (by rw [h0]; decide) hw h) rfl ?_
  refine e_rl (M := mX8_damages) dX8_damages_27 rfl (x_kk rfl) (x_kk rfl) ?_
  rfl
theorem sim_damages (T : y_T N I L R) : y_OL N X mL_damages [.ref 0, .ref 232] mX9_damages [.ref 225] I L R := by
  have T0 := T
  obtain ⟨a, b, kn, ks, bf, bn, ep, ⟨β, δ, γ, ν, hB⟩, hM, hI⟩ := T
  have H : y_CS N I L R β a b := ⟨hM.1, hB.1.2.1, hB.1.2.2.2.2.1, hB.2.2.2.2.2.1, hI.1⟩
  obtain ⟨Ns, Np, Nl, Nm, Z⟩ := Z_of hI.1
  have hR := hM.1
  have ha : I 226 = a := hM.2.1
  have hb : L 229 = b := hM.2.2.1
  subst ha
  subst hb
  obtain ⟨hNs, hn, hNp, hp, hNl, hl, hNm, hmm⟩ := id Z
  by_cases h0 : I 226 0 = 8
  · skip
    obtain ⟨w, hw, h12, h⟩ := (h_IK H).2.2.2.2.2.2 h0
    rw [hn, n_cl (by omega)] at h
    exact OL_q T0 (w_damages (ko_damages H Z h0 hw h)) (mo_damages hR Z h0 hw h12)
  · exact OL_x T0 (by decide) (w_damages_x0 (kf_damages_0 H Z h0)) (mf_damages_0 hR Z h0)
end

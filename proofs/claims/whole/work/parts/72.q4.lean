/-! ===== queries of both, fourth (laid by wip/whole/src/q4.py) ===== -/
section
variable {X : x_X} {I : Nat → Nat → Int32} {L : Nat → Nat → Int64} {R : Nat → Nat → Option Nat} {N : Nat}
theorem s64_m {f : Nat → Int64} {c : Int64} : ∀ {n : Nat}, c * x_sum64 f n = x_sum64 (fun i => c * f i) n
  | 0 => Int64.mul_zero
  | n + 1 => by
    show c * (x_sum64 f n + f n) = x_sum64 (fun i => c * f i) n + c * f n
    rw [Int64.mul_add, s64_m]
theorem l_X8_sum {p : Nat} (hr : p < 233) (hs : x_shp p = (1, 6)) {w : Option Value} : ∀ d k, k + d = 6 → x_Ev X mX8_sum 10 [some (.ref p), some (.int (x_sum32 (I p) k)), some (.ref p), some (.int (Int32.ofNat 6)), some (.int (Int32.ofNat k)), w] [] ((I, L, R), 233, 0, 0) (.inl (some (.int (x_sum32 (I p) 6))), (I, L, R), 233) := by
  intro d
  induction d generalizing w with
  | zero =>
    intro k hd
    obtain rfl : 6 = k := by omega
    refine f_iload (M := mX8_sum) 12 dX8_sum_10 rfl rfl ?_
    refine f_iload_n (M := mX8_sum) 13 dX8_sum_12 rfl rfl ?_
    refine e_icmp_geT (M := mX8_sum) 33 dX8_sum_13 rfl (by decide) ?_
    refine f_iload_n (M := mX8_sum) 34 dX8_sum_33 rfl rfl ?_
    refine e_ri (M := mX8_sum) dX8_sum_34 rfl (x_kk rfl) (x_kk rfl) ?_
    rfl
  | succ d ih =>
    intro k hd
    refine f_iload (M := mX8_sum) 12 dX8_sum_10 rfl rfl ?_
    refine f_iload_n (M := mX8_sum) 13 dX8_sum_12 rfl rfl ?_
    refine e_icmp_geF (M := mX8_sum) 33 dX8_sum_13 rfl (by rw [show Int32.ofNat 6 = Int32.ofNat 6 from rfl, n_le (by omega) (by omega)]; omega) ?_
    refine f_aload_n (M := mX8_sum) 17 dX8_sum_16 rfl rfl ?_
    refine f_iload (M := mX8_sum) 19 dX8_sum_17 rfl rfl ?_
    refine e_ild (M := mX8_sum) (w := 6) (j := k) dX8_sum_19 hr hs rfl (by omega) (by omega) ?_
    refine f_istore (M := mX8_sum) (ls' := [_, _, _, _, _, _]) 22 dX8_sum_20 rfl rfl rfl ?_
    refine f_iload_n (M := mX8_sum) 23 dX8_sum_22 rfl rfl ?_
    refine f_iload (M := mX8_sum) 25 dX8_sum_23 rfl rfl ?_
    refine f_iadd (M := mX8_sum) 26 dX8_sum_25 rfl ?_
    refine f_istore_n (M := mX8_sum) (ls' := [_, _, _, _, _, _]) 27 dX8_sum_26 rfl rfl rfl ?_
    refine f_iinc (M := mX8_sum) (ls' := [_, _, _, _, _, _]) 30 dX8_sum_27 ki_1 rfl rfl rfl rfl ?_
    refine f_goto (M := mX8_sum) 10 dX8_sum_30 rfl ?_
    rw [n_inc (s := k)]; exact ih (w := _) (k + 1) (by omega)
theorem c_X8_sum {p : Nat} (hr : p < 233) (hs : x_shp p = (1, 6)) : x_Cv X mX8_sum [.ref p] (I, L, R) 233 (.inl (some (.int (x_sum32 (I p) 6))), (I, L, R), 233) := by
  show x_Ev X mX8_sum 0 [some (.ref p), none, none, none, none, none] [] ((I, L, R), 233, 0, 0) _
  refine f_iconst (M := mX8_sum) 1 dX8_sum_0 ki_0 rfl ?_
  refine f_istore_n (M := mX8_sum) (ls' := [_, _, _, _, _, _]) 2 dX8_sum_1 rfl rfl rfl ?_
  refine f_aload_n (M := mX8_sum) 3 dX8_sum_2 rfl rfl ?_
  refine f_astore_n (M := mX8_sum) (ls' := [_, _, _, _, _, _]) 4 dX8_sum_3 rfl rfl rfl ?_
  refine f_aload_n (M := mX8_sum) 5 dX8_sum_4 rfl rfl ?_
  refine e_len (M := mX8_sum) (w := 6) (t := 1) dX8_sum_5 hr hs rfl ?_
  refine f_istore_n (M := mX8_sum) (ls' := [_, _, _, _, _, _]) 7 dX8_sum_6 rfl rfl rfl ?_
  refine f_iconst (M := mX8_sum) 8 dX8_sum_7 ki_0 rfl ?_
  refine f_istore (M := mX8_sum) (ls' := [_, _, _, _, _, _]) 10 dX8_sum_8 rfl rfl rfl ?_
  exact l_X8_sum hr hs 6 0 rfl
def sp_whole (a : Nat → Int32) (n : Nat) : Int64 := x_sum64 (fun s => 10 * (a (32 + s)).toInt64) n
theorem eq_whole {N β : Nat} {a : Nat → Int32} {b : Nat → Int64} (H : y_CS N I L R β a b) (h3 : 3 ≤ a 0) {n : Nat} (hn : n ≤ 6) (h8 : a 8 = Int32.ofNat n) : 10 * (x_sum32 (I (β + 13)) 6).toInt64 = sp_whole a n := by
  have b : ∀ s, s < 6 → 0 ≤ (a (32 + s)).toInt ∧ (a (32 + s)).toInt ≤ 100000 := fun s hs => (h_IV H s hs).1
  rw [show x_sum32 (I (β + 13)) 6 = x_sum32 (fun s => a (32 + s)) 6 from s32_c (fun s hs => (h_K H).1 h3 s hs), s_w (B := 100000) (by decide) b (by decide), s64_m]
  exact s64_t hn (fun i h1 h2 => by
    rw [((h_IV H i h2).2.2 (by rw [h8, t_n (by omega)]; omega)).1]
    decide)
theorem bd_whole {a : Nat → Int32} (hV : y_IV a) {n : Nat} (hn : n ≤ 6) : 0 ≤ (sp_whole a n).toInt ∧ (sp_whole a n).toInt ≤ 6000000 := by
  have h := s64_b (f := fun s => 10 * (a (32 + s)).toInt64) (B := 1000000) (by decide) (n := n) (fun i hi => by
    have b := (hV i (by omega)).1
    have b1 := b.1
    have b2 := b.2
    have o : (10 : Int64).toInt = 10 := by decide
    rw [T_mul (by rw [o, T_w]; omega) (by rw [o, T_w]; omega), o, T_w]
    omega) (by omega)
  exact ⟨h.1, Int.le_trans h.2 (by omega)⟩
theorem cs_g {a : Nat → Int32} (hV : y_IV a) (hI : y_IL a) {n m : Nat} (hn : n ≤ 6) (hm : m ≤ 60) (h14 : a 14 = Int32.ofNat m) (h : ¬ sp_whole a n = 0) : x_gst 100 (sp_nets a (-1) 0 36 m).toInt64 (sp_whole a n) ∧ ¬ x_gcd 100 (sp_nets a (-1) 0 36 m).toInt64 (sp_whole a n) = 0 := by
  have b1 := bd_whole hV hn
  have b2 := bd_nets hI hm h14 (σ := -1) (f := 0) (t := 36)
  rw [w0_i] at h
  exact gcd_ok (by rw [T_w]; omega) (by omega) (by omega)
theorem ko_cutShare_0 {N β : Nat} {a : Nat → Int32} {b : Nat → Int64} (H : y_CS N I L R β a b) {Ns Np Nl Nm : Nat} (Z : y_Z a Ns Np Nl Nm) {d : Int32} (h0 : 3 ≤ a 0) (h : sp_whole a Ns = 0) : x_Cv X mX8_cutShare [.ref 0, .int d] (I, L, R) 233 (.inl (some (.long (if d = 0 then 0 else 1))), (I, L, R), 233) := by
  obtain ⟨hNs, hn, hNp, hp, hNl, hl, hNm, hmm⟩ := Z
  have hR := h_R H
  have hβ := h_β H
  have hS := h_S H
  show x_Ev X mX8_cutShare 0 [some (.ref 0), some (.int d), none, none] [] ((I, L, R), 233, 0, 0) _
  refine f_aload_n (M := mX8_cutShare) 1 dX8_cutShare_0 rfl rfl ?_
  refine e_getR (M := mX8_cutShare) dX8_cutShare_1 fl_8026 (x_kk rfl) (x_kk rfl) rfl hS ?_
  refine e_cV (M := mX8_cutShare) [_] 0 0 dX8_cutShare_4 pa_8236 pb_8236 cc_8236 rfl rfl rfl rfl rfl (x_kk rfl) (x_kk rfl) (x_rcvOK (sl_lt hβ 0 rfl) (sl_s hβ 0 rfl rfl) rfl) (k_hasContract H) rfl ?_
  refine e_cS (M := mX8_cutShare) [] 1 6 dX8_cutShare_7 pa_8037 cc_8037 rfl rfl rfl rfl rfl (x_kk rfl) (x_kk rfl) rfl (c_X8_requireState (x_bn h0)) rfl ?_
  refine f_ldc2 (M := mX8_cutShare) 13 dX8_cutShare_10 (x_kk rfl) csl_8286 rfl ?_
  refine f_aload_n (M := mX8_cutShare) 14 dX8_cutShare_13 rfl rfl ?_
  refine e_getR (M := mX8_cutShare) dX8_cutShare_14 fl_8026 (x_kk rfl) (x_kk rfl) rfl hS ?_
  refine e_getR (M := mX8_cutShare) dX8_cutShare_17 fl_8227 (x_kk rfl) (sl_lt hβ 0 rfl) (sl_s hβ 0 rfl rfl) (wf_6_4 hR hβ) ?_
  refine e_getR (M := mX8_cutShare) dX8_cutShare_20 fl_8288 (x_kk rfl) (sl_lt hβ 12 rfl) (sl_s hβ 12 rfl rfl) (wf_1_0 hR hβ) ?_
  refine e_cS (M := mX8_cutShare) [_, _] 1 6 dX8_cutShare_23 pa_8157 cc_8157 rfl rfl rfl rfl rfl (x_kk rfl) (x_kk rfl) rfl (c_X8_sum (sl_lt hβ 13 rfl) (sl_shp hβ 13 rfl)) rfl ?_
  refine f_i2l (M := mX8_cutShare) 27 dX8_cutShare_26 rfl ?_
  refine f_lmul (M := mX8_cutShare) 28 dX8_cutShare_27 rfl ?_
  rw [eq_whole H h0 hNs hn]
  refine f_lstore_n (M := mX8_cutShare) (ls' := [_, _, _, _]) 29 dX8_cutShare_28 rfl rfl rfl ?_
  refine f_lload_n (M := mX8_cutShare) 30 dX8_cutShare_29 rfl rfl ?_
  refine f_lconst (M := mX8_cutShare) 31 dX8_cutShare_30 kl_0 rfl ?_
  refine f_lcmp (M := mX8_cutShare) 32 dX8_cutShare_31 rfl ?_
  refine e_if_neF (M := mX8_cutShare) 45 dX8_cutShare_32 rfl (fun z => z (lc_eq.mpr h)) ?_
  refine f_iload_n (M := mX8_cutShare) 36 dX8_cutShare_35 rfl rfl ?_
  refine e_if_eq (M := mX8_cutShare) (t := 43) dX8_cutShare_36 rfl (fun hd => ?_) (fun hd => ?_)
  · refine f_lconst (M := mX8_cutShare) 44 dX8_cutShare_43 kl_0 rfl ?_
    refine e_rl (M := mX8_cutShare) dX8_cutShare_44 rfl (x_kk rfl) (x_kk rfl) ?_
    exact r_l (if_pos hd).symm
  · refine f_lconst (M := mX8_cutShare) 40 dX8_cutShare_39 kl_1 rfl ?_
    refine f_goto (M := mX8_cutShare) 44 dX8_cutShare_40 rfl ?_
    refine e_rl (M := mX8_cutShare) dX8_cutShare_44 rfl (x_kk rfl) (x_kk rfl) ?_
    exact r_l (if_neg hd).symm
theorem ko_cutShare_1 {N β : Nat} {a : Nat → Int32} {b : Nat → Int64} (H : y_CS N I L R β a b) {Ns Np Nl Nm : Nat} (Z : y_Z a Ns Np Nl Nm) {d : Int32} (h0 : 3 ≤ a 0) (h : ¬ sp_whole a Ns = 0) : x_Cv X mX8_cutShare [.ref 0, .int d] (I, L, R) 233 (.inl (some (.long ((if d = 0 then (sp_nets a (-1) 0 36 Nl).toInt64 else sp_whole a Ns) / x_gcd 100 ((sp_nets a (-1) 0 36 Nl).toInt64) (sp_whole a Ns)))), (I, L, R), 233) := by
  obtain ⟨hNs, hn, hNp, hp, hNl, hl, hNm, hmm⟩ := Z
  have hR := h_R H
  have hβ := h_β H
  have hS := h_S H
  show x_Ev X mX8_cutShare 0 [some (.ref 0), some (.int d), none, none] [] ((I, L, R), 233, 0, 0) _
  refine f_aload_n (M := mX8_cutShare) 1 dX8_cutShare_0 rfl rfl ?_
  refine e_getR (M := mX8_cutShare) dX8_cutShare_1 fl_8026 (x_kk rfl) (x_kk rfl) rfl hS ?_
  refine e_cV (M := mX8_cutShare) [_] 0 0 dX8_cutShare_4 pa_8236 pb_8236 cc_8236 rfl rfl rfl rfl rfl (x_kk rfl) (x_kk rfl) (x_rcvOK (sl_lt hβ 0 rfl) (sl_s hβ 0 rfl rfl) rfl) (k_hasContract H) rfl ?_
  refine e_cS (M := mX8_cutShare) [] 1 6 dX8_cutShare_7 pa_8037 cc_8037 rfl rfl rfl rfl rfl (x_kk rfl) (x_kk rfl) rfl (c_X8_requireState (x_bn h0)) rfl ?_
  refine f_ldc2 (M := mX8_cutShare) 13 dX8_cutShare_10 (x_kk rfl) csl_8286 rfl ?_
  refine f_aload_n (M := mX8_cutShare) 14 dX8_cutShare_13 rfl rfl ?_
  refine e_getR (M := mX8_cutShare) dX8_cutShare_14 fl_8026 (x_kk rfl) (x_kk rfl) rfl hS ?_
  refine e_getR (M := mX8_cutShare) dX8_cutShare_17 fl_8227 (x_kk rfl) (sl_lt hβ 0 rfl) (sl_s hβ 0 rfl rfl) (wf_6_4 hR hβ) ?_
  refine e_getR (M := mX8_cutShare) dX8_cutShare_20 fl_8288 (x_kk rfl) (sl_lt hβ 12 rfl) (sl_s hβ 12 rfl rfl) (wf_1_0 hR hβ) ?_
  refine e_cS (M := mX8_cutShare) [_, _] 1 6 dX8_cutShare_23 pa_8157 cc_8157 rfl rfl rfl rfl rfl (x_kk rfl) (x_kk rfl) rfl (c_X8_sum (sl_lt hβ 13 rfl) (sl_shp hβ 13 rfl)) rfl ?_
  refine f_i2l (M := mX8_cutShare) 27 dX8_cutShare_26 rfl ?_
  refine f_lmul (M := mX8_cutShare) 28 dX8_cutShare_27 rfl ?_
  rw [eq_whole H h0 hNs hn]
  refine f_lstore_n (M := mX8_cutShare) (ls' := [_, _, _, _]) 29 dX8_cutShare_28 rfl rfl rfl ?_
  refine f_lload_n (M := mX8_cutShare) 30 dX8_cutShare_29 rfl rfl ?_
  refine f_lconst (M := mX8_cutShare) 31 dX8_cutShare_30 kl_0 rfl ?_
  refine f_lcmp (M := mX8_cutShare) 32 dX8_cutShare_31 rfl ?_
  refine e_if_neT (M := mX8_cutShare) 45 dX8_cutShare_32 rfl (fun z => h (lc_eq.mp z)) ?_
  refine f_aload_n (M := mX8_cutShare) 46 dX8_cutShare_45 rfl rfl ?_
  refine e_getR (M := mX8_cutShare) dX8_cutShare_46 fl_8026 (x_kk rfl) (x_kk rfl) rfl hS ?_
  refine e_getR (M := mX8_cutShare) dX8_cutShare_49 fl_8245 (x_kk rfl) (sl_lt hβ 0 rfl) (sl_s hβ 0 rfl rfl) (wf_6_5 hR hβ) ?_
  refine f_iconst (M := mX8_cutShare) 53 dX8_cutShare_52 ki_m1 rfl ?_
  refine f_iconst (M := mX8_cutShare) 54 dX8_cutShare_53 ki_0 rfl ?_
  refine f_bipush (M := mX8_cutShare) 56 dX8_cutShare_54 kb_36 rfl ?_
  refine e_cV (M := mX8_cutShare) [_] 1 6 dX8_cutShare_56 pa_8282 pb_8282 cc_8282 rfl rfl rfl rfl rfl (x_kk rfl) (x_kk rfl) (x_rcvOK (sl_lt hβ 17 rfl) (sl_s hβ 17 rfl rfl) rfl) (k_netSum (f := 0) (t := 36) H hNl hl (by decide)) rfl ?_
  refine f_i2l (M := mX8_cutShare) 60 dX8_cutShare_59 rfl ?_
  refine f_lload_n (M := mX8_cutShare) 61 dX8_cutShare_60 rfl rfl ?_
  refine f_iload_n (M := mX8_cutShare) 62 dX8_cutShare_61 rfl rfl ?_
  refine e_cS (M := mX8_cutShare) [_] 1 6 dX8_cutShare_62 pa_8117 cc_8117 rfl rfl rfl rfl rfl (x_kk rfl) (x_kk rfl) rfl (c_X8_lowestTerms (cs_g (h_IV H) (h_IL H) hNs hNl hl h).2) rfl ?_
  refine e_rl (M := mX8_cutShare) dX8_cutShare_65 rfl (x_kk rfl) (x_kk rfl) ?_
  rfl
theorem l_X9_cutShare (hR : x_wf R) {Ns : Nat} (hNs : Ns ≤ 6) (hn : I 226 8 = Int32.ofNat Ns) {dd : Int32} {r : x_O × x_Mem × Nat} (kk : x_Ev X mX9_cutShare 69 [some (.ref 225), some (.int dd), some (.long (sp_whole (I 226) Ns)), none, some (.int (Int32.ofNat Ns))] [] ((I, L, R), 233, 0, 0) r) : ∀ d k, k + d = Ns → x_Ev X mX9_cutShare 33 [some (.ref 225), some (.int dd), some (.long (sp_whole (I 226) k)), none, some (.int (Int32.ofNat k))] [] ((I, L, R), 233, 0, 0) r := by
  intro d
  induction d with
  | zero =>
    intro k hd
    obtain rfl : Ns = k := by omega
    refine f_iload (M := mX9_cutShare) 35 dX9_cutShare_33 rfl rfl ?_
    refine f_aload_n (M := mX9_cutShare) 36 dX9_cutShare_35 rfl rfl ?_
    refine e_getR (M := mX9_cutShare) dX9_cutShare_36 fl_9007 (x_kk rfl) (x_kk rfl) rfl (wf_9_0 hR) ?_
    refine f_bipush (M := mX9_cutShare) 41 dX9_cutShare_39 kb_8 rfl ?_
    refine e_ild (M := mX9_cutShare) (w := 606) (j := 8) dX9_cutShare_41 (x_kk rfl) rfl kn_8 (by omega) (by omega) ?_
    refine e_icmp_geT (M := mX9_cutShare) 69 dX9_cutShare_42 rfl (by rw [hn]; exact Int32.le_refl _) ?_
    exact kk
  | succ d ih =>
    intro k hd
    refine f_iload (M := mX9_cutShare) 35 dX9_cutShare_33 rfl rfl ?_
    refine f_aload_n (M := mX9_cutShare) 36 dX9_cutShare_35 rfl rfl ?_
    refine e_getR (M := mX9_cutShare) dX9_cutShare_36 fl_9007 (x_kk rfl) (x_kk rfl) rfl (wf_9_0 hR) ?_
    refine f_bipush (M := mX9_cutShare) 41 dX9_cutShare_39 kb_8 rfl ?_
    refine e_ild (M := mX9_cutShare) (w := 606) (j := 8) dX9_cutShare_41 (x_kk rfl) rfl kn_8 (by omega) (by omega) ?_
    refine e_icmp_geF (M := mX9_cutShare) 69 dX9_cutShare_42 rfl (by rw [hn, n_le (by omega) (by omega)]; omega) ?_
    refine f_lload_n (M := mX9_cutShare) 46 dX9_cutShare_45 rfl rfl ?_
    refine f_ldc2 (M := mX9_cutShare) 49 dX9_cutShare_46 (x_kk rfl) csl_9091 rfl ?_
    refine f_aload_n (M := mX9_cutShare) 50 dX9_cutShare_49 rfl rfl ?_
    refine e_getR (M := mX9_cutShare) dX9_cutShare_50 fl_9007 (x_kk rfl) (x_kk rfl) rfl (wf_9_0 hR) ?_
    refine f_bipush (M := mX9_cutShare) 55 dX9_cutShare_53 kb_32 rfl ?_
    refine f_iload (M := mX9_cutShare) 57 dX9_cutShare_55 rfl rfl ?_
    refine f_iadd (M := mX9_cutShare) 58 dX9_cutShare_57 rfl ?_
    refine e_ild (M := mX9_cutShare) (w := 606) (j := (32) + (k)) dX9_cutShare_58 (x_kk rfl) rfl (ix_add kn_32 rfl) (by omega) (by omega) ?_
    refine f_i2l (M := mX9_cutShare) 60 dX9_cutShare_59 rfl ?_
    refine f_lmul (M := mX9_cutShare) 61 dX9_cutShare_60 rfl ?_
    refine f_ladd (M := mX9_cutShare) 62 dX9_cutShare_61 rfl ?_
    refine f_lstore_n (M := mX9_cutShare) (ls' := [_, _, _, _, _]) 63 dX9_cutShare_62 rfl rfl rfl ?_
    refine f_iinc (M := mX9_cutShare) (ls' := [_, _, _, _, _]) 66 dX9_cutShare_63 ki_1 rfl rfl rfl rfl ?_
    refine f_goto (M := mX9_cutShare) 33 dX9_cutShare_66 rfl ?_
    rw [n_inc (s := k)]; exact ih (k + 1) (by omega)
theorem mo_cutShare_0 (hR : x_wf R) {Ns Np Nl Nm : Nat} (Z : y_Z (I 226) Ns Np Nl Nm) {d : Int32} (h0 : 3 ≤ I 226 0) (h : sp_whole (I 226) Ns = 0) : x_Cv X mX9_cutShare [.ref 225, .int d] (I, L, R) 233 (.inl (some (.long (if d = 0 then 0 else 1))), (x_tw I 0, L, R), 233) := by
  obtain ⟨hNs, hn, hNp, hp, hNl, hl, hNm, hmm⟩ := Z
  show x_Ev X mX9_cutShare 0 [some (.ref 225), some (.int d), none, none, none] [] ((I, L, R), 233, 0, 0) _
  refine f_aload_n (M := mX9_cutShare) 1 dX9_cutShare_0 rfl rfl ?_
  refine f_aload_n (M := mX9_cutShare) 2 dX9_cutShare_1 rfl rfl ?_
  refine e_getR (M := mX9_cutShare) dX9_cutShare_2 fl_9007 (x_kk rfl) (x_kk rfl) rfl (wf_9_0 hR) ?_
  refine f_iconst (M := mX9_cutShare) 6 dX9_cutShare_5 ki_0 rfl ?_
  refine e_ild (M := mX9_cutShare) (w := 606) (j := 0) dX9_cutShare_6 (x_kk rfl) rfl kn_0 (by omega) (by omega) ?_
  refine f_iconst (M := mX9_cutShare) 8 dX9_cutShare_7 ki_3 rfl ?_
  refine e_icmp_geT (M := mX9_cutShare) 15 dX9_cutShare_8 rfl h0 ?_
  refine f_iconst (M := mX9_cutShare) 16 dX9_cutShare_15 ki_0 rfl ?_
  refine e_putI (M := mX9_cutShare) dX9_cutShare_16 fl_9033 (x_kk rfl) (x_kk rfl) rfl (fun q9 => Bool.noConfusion q9) ?_
  refine f_aload_n (M := mX9_cutShare) 20 dX9_cutShare_19 rfl rfl ?_
  refine e_getI (M := mX9_cutShare) dX9_cutShare_20 fl_9033 (x_kk rfl) (x_kk rfl) rfl ?_
  refine e_if_leT (M := mX9_cutShare) 28 dX9_cutShare_23 rfl (show (0 : Int32) ≤ 0 by decide) ?_
  refine f_lconst (M := mX9_cutShare) 29 dX9_cutShare_28 kl_0 rfl ?_
  refine f_lstore_n (M := mX9_cutShare) (ls' := [_, _, _, _, _]) 30 dX9_cutShare_29 rfl rfl rfl ?_
  refine f_iconst (M := mX9_cutShare) 31 dX9_cutShare_30 ki_0 rfl ?_
  refine f_istore (M := mX9_cutShare) (ls' := [_, _, _, _, _]) 33 dX9_cutShare_31 rfl rfl rfl ?_
  refine l_X9_cutShare (I := x_tw I 0) hR hNs hn ?_ Ns 0 (by omega)
  refine f_lload_n (M := mX9_cutShare) 70 dX9_cutShare_69 rfl rfl ?_
  refine f_lconst (M := mX9_cutShare) 71 dX9_cutShare_70 kl_0 rfl ?_
  refine f_lcmp (M := mX9_cutShare) 72 dX9_cutShare_71 rfl ?_
  refine e_if_neF (M := mX9_cutShare) 85 dX9_cutShare_72 rfl (fun z => z (lc_eq.mpr h)) ?_
  refine f_iload_n (M := mX9_cutShare) 76 dX9_cutShare_75 rfl rfl ?_
  refine e_if_eq (M := mX9_cutShare) (t := 83) dX9_cutShare_76 rfl (fun hd => ?_) (fun hd => ?_)
  · refine f_lconst (M := mX9_cutShare) 84 dX9_cutShare_83 kl_0 rfl ?_
    refine e_rl (M := mX9_cutShare) dX9_cutShare_84 rfl (x_kk rfl) (x_kk rfl) ?_
    exact r_l (if_pos hd).symm
  · refine f_lconst (M := mX9_cutShare) 80 dX9_cutShare_79 kl_1 rfl ?_
    refine f_goto (M := mX9_cutShare) 84 dX9_cutShare_80 rfl ?_
    refine e_rl (M := mX9_cutShare) dX9_cutShare_84 rfl (x_kk rfl) (x_kk rfl) ?_
    exact r_l (if_neg hd).symm
theorem mo_cutShare_1 (hR : x_wf R) {Ns Np Nl Nm : Nat} (Z : y_Z (I 226) Ns Np Nl Nm) {d : Int32} (h0 : 3 ≤ I 226 0) (hIV : y_IV (I 226)) (hIL : y_IL (I 226)) (h : ¬ sp_whole (I 226) Ns = 0) : x_Cv X mX9_cutShare [.ref 225, .int d] (I, L, R) 233 (.inl (some (.long ((if d = 0 then (sp_nets (I 226) (-1) 0 36 Nl).toInt64 else sp_whole (I 226) Ns) / x_gcd 100 ((sp_nets (I 226) (-1) 0 36 Nl).toInt64) (sp_whole (I 226) Ns)))), (x_tw I 0, L, R), 233) := by
  obtain ⟨hNs, hn, hNp, hp, hNl, hl, hNm, hmm⟩ := Z
  show x_Ev X mX9_cutShare 0 [some (.ref 225), some (.int d), none, none, none] [] ((I, L, R), 233, 0, 0) _
  refine f_aload_n (M := mX9_cutShare) 1 dX9_cutShare_0 rfl rfl ?_
  refine f_aload_n (M := mX9_cutShare) 2 dX9_cutShare_1 rfl rfl ?_
  refine e_getR (M := mX9_cutShare) dX9_cutShare_2 fl_9007 (x_kk rfl) (x_kk rfl) rfl (wf_9_0 hR) ?_
  refine f_iconst (M := mX9_cutShare) 6 dX9_cutShare_5 ki_0 rfl ?_
  refine e_ild (M := mX9_cutShare) (w := 606) (j := 0) dX9_cutShare_6 (x_kk rfl) rfl kn_0 (by omega) (by omega) ?_
  refine f_iconst (M := mX9_cutShare) 8 dX9_cutShare_7 ki_3 rfl ?_
  refine e_icmp_geT (M := mX9_cutShare) 15 dX9_cutShare_8 rfl h0 ?_
  refine f_iconst (M := mX9_cutShare) 16 dX9_cutShare_15 ki_0 rfl ?_
  refine e_putI (M := mX9_cutShare) dX9_cutShare_16 fl_9033 (x_kk rfl) (x_kk rfl) rfl (fun q9 => Bool.noConfusion q9) ?_
  refine f_aload_n (M := mX9_cutShare) 20 dX9_cutShare_19 rfl rfl ?_
  refine e_getI (M := mX9_cutShare) dX9_cutShare_20 fl_9033 (x_kk rfl) (x_kk rfl) rfl ?_
  refine e_if_leT (M := mX9_cutShare) 28 dX9_cutShare_23 rfl (show (0 : Int32) ≤ 0 by decide) ?_
  refine f_lconst (M := mX9_cutShare) 29 dX9_cutShare_28 kl_0 rfl ?_
  refine f_lstore_n (M := mX9_cutShare) (ls' := [_, _, _, _, _]) 30 dX9_cutShare_29 rfl rfl rfl ?_
  refine f_iconst (M := mX9_cutShare) 31 dX9_cutShare_30 ki_0 rfl ?_
  refine f_istore (M := mX9_cutShare) (ls' := [_, _, _, _, _]) 33 dX9_cutShare_31 rfl rfl rfl ?_
  refine l_X9_cutShare (I := x_tw I 0) hR hNs hn ?_ Ns 0 (by omega)
  refine f_lload_n (M := mX9_cutShare) 70 dX9_cutShare_69 rfl rfl ?_
  refine f_lconst (M := mX9_cutShare) 71 dX9_cutShare_70 kl_0 rfl ?_
  refine f_lcmp (M := mX9_cutShare) 72 dX9_cutShare_71 rfl ?_
  refine e_if_neT (M := mX9_cutShare) 85 dX9_cutShare_72 rfl (fun z => h (lc_eq.mp z)) ?_
  refine f_aload_n (M := mX9_cutShare) 86 dX9_cutShare_85 rfl rfl ?_
  refine f_iconst (M := mX9_cutShare) 87 dX9_cutShare_86 ki_m1 rfl ?_
  refine f_iconst (M := mX9_cutShare) 88 dX9_cutShare_87 ki_0 rfl ?_
  refine f_bipush (M := mX9_cutShare) 90 dX9_cutShare_88 kb_36 rfl ?_
  refine e_cV (M := mX9_cutShare) [_] 0 0 dX9_cutShare_90 pa_9266 pb_9266 cc_9266 rfl rfl rfl rfl rfl (x_kk rfl) (x_kk rfl) rfl (c_X9_netsOf (I := x_tw I 0) (σ := -1) (f := 0) (t := 36) hR hNl hl) rfl ?_
  refine f_i2l (M := mX9_cutShare) 94 dX9_cutShare_93 rfl ?_
  refine f_lload_n (M := mX9_cutShare) 95 dX9_cutShare_94 rfl rfl ?_
  refine f_iload_n (M := mX9_cutShare) 96 dX9_cutShare_95 rfl rfl ?_
  refine e_cS (M := mX9_cutShare) [_] 0 0 dX9_cutShare_96 pa_9154 cc_9154 rfl rfl rfl rfl rfl (x_kk rfl) (x_kk rfl) rfl (c_X9_part (cs_g hIV hIL hNs hNl hl h).1 (cs_g hIV hIL hNs hNl hl h).2) rfl ?_
  refine e_rl (M := mX9_cutShare) dX9_cutShare_99 rfl (x_kk rfl) (x_kk rfl) ?_
  rfl
theorem sim_cutShare (T : y_T N I L R) {d : Int32} : y_OL N X mL_cutShare [.ref 0, .int d, .ref 232] mX9_cutShare [.ref 225, .int d] I L R := by
  have T0 := T
  obtain ⟨a, b, kn, ks, bf, bn, ep, ⟨β, δ, γ, ν, hB⟩, hM, hI⟩ := T
  have H : y_CS N I L R β a b := ⟨hM.1, hB.1.2.1, hB.1.2.2.2.2.1, hB.2.2.2.2.2.1, hI.1⟩
  obtain ⟨Ns, Np, Nl, Nm, Z⟩ := Z_of hI.1
  have hR := hM.1
  have ha : I 226 = a := hM.2.1
  have hb : L 229 = b := hM.2.2.1
  subst ha
  subst hb
  obtain ⟨hNs, hn, hNp, hp, hNl, hl, hNm, hmm⟩ := id Z
  by_cases h0 : 3 ≤ I 226 0
  · skip
    by_cases h : sp_whole (I 226) Ns = 0
    · exact OL_q T0 (w_cutShare (ko_cutShare_0 H Z h0 h)) (mo_cutShare_0 hR Z h0 h)
    · exact OL_q T0 (w_cutShare (ko_cutShare_1 H Z h0 h)) (mo_cutShare_1 hR Z h0 (h_IV H) (h_IL H) h)
  · exact OL_x T0 (by decide) (w_cutShare_x0 (kf_cutShare_0 H Z h0)) (mf_cutShare_0 hR Z h0)
def sp_wi (a : Nat → Int32) (v : Int64) : Int64 := if v ≤ 0 then v else v + v * (a 6).toInt64 / 1000
def sp_pj (a : Nat → Int32) (d c : Int64) : Nat → Int64
  | 0 => d
  | m + 1 => if m = 0 then sp_wi a d + c else sp_wi a (sp_pj a d c m)
theorem pj_1 {a : Nat → Int32} {d c : Int64} : sp_pj a d c 1 = sp_wi a d + c := rfl
theorem pj_s {a : Nat → Int32} {d c : Int64} {m : Nat} (h : 1 ≤ m) : sp_pj a d c (m + 1) = sp_wi a (sp_pj a d c m) := if_neg (by omega)
theorem k_wi {N β : Nat} {a : Nat → Int32} {b : Nat → Int64} (H : y_CS N I L R β a b) {v : Int64} : x_Cv X mX6_withInterest [.ref β, .long v] (I, L, R) 233 (.inl (some (.long (sp_wi a v))), (I, L, R), 233) := k_withInterest H
theorem l_X8_projectedDebt {N β : Nat} {a : Nat → Int32} {b : Nat → Int64} (H : y_CS N I L R β a b) {M : Nat} (hM : M ≤ 12) {d0 c0 : Int64} : ∀ d k, k + d = M → 1 ≤ k → x_Ev X mX8_projectedDebt 68 [some (.ref 0), some (.int (Int32.ofNat M)), some (.long (sp_pj a d0 c0 k)), none, some (.int (Int32.ofNat k))] [] ((I, L, R), 233, 2, 12) (.inl (some (.long (sp_pj a d0 c0 M))), (I, L, R), 233) := by
  have hR := h_R H
  have hβ := h_β H
  have hS := h_S H
  intro d
  induction d with
  | zero =>
    intro k hd he
    obtain rfl : M = k := by omega
    refine f_iload (M := mX8_projectedDebt) 70 dX8_projectedDebt_68 rfl rfl ?_
    refine f_iload_n (M := mX8_projectedDebt) 71 dX8_projectedDebt_70 rfl rfl ?_
    refine e_icmp_geT (M := mX8_projectedDebt) 89 dX8_projectedDebt_71 rfl (Int32.le_refl _) ?_
    refine f_lload_n (M := mX8_projectedDebt) 90 dX8_projectedDebt_89 rfl rfl ?_
    refine e_rl (M := mX8_projectedDebt) dX8_projectedDebt_90 rfl (x_kk rfl) (x_kk rfl) ?_
    rfl
  | succ d ih =>
    intro k hd he
    refine f_iload (M := mX8_projectedDebt) 70 dX8_projectedDebt_68 rfl rfl ?_
    refine f_iload_n (M := mX8_projectedDebt) 71 dX8_projectedDebt_70 rfl rfl ?_
    refine e_icmp_geF (M := mX8_projectedDebt) 89 dX8_projectedDebt_71 rfl (by rw [n_le (by omega) (by omega)]; omega) ?_
    refine f_aload_n (M := mX8_projectedDebt) 75 dX8_projectedDebt_74 rfl rfl ?_
    refine e_getR (M := mX8_projectedDebt) dX8_projectedDebt_75 fl_8026 (x_kk rfl) (x_kk rfl) rfl hS ?_
    refine f_lload_n (M := mX8_projectedDebt) 79 dX8_projectedDebt_78 rfl rfl ?_
    refine e_cV (M := mX8_projectedDebt) [_] 2 12 dX8_projectedDebt_79 pa_8305 pb_8305 cc_8305 rfl rfl rfl rfl rfl (x_kk rfl) (x_kk rfl) (x_rcvOK (sl_lt hβ 0 rfl) (sl_s hβ 0 rfl rfl) rfl) (k_wi H) rfl ?_
    refine f_lstore_n (M := mX8_projectedDebt) (ls' := [_, _, _, _, _]) 83 dX8_projectedDebt_82 rfl rfl rfl ?_
    refine f_iinc (M := mX8_projectedDebt) (ls' := [_, _, _, _, _]) 86 dX8_projectedDebt_83 ki_1 rfl rfl rfl rfl ?_
    refine f_goto (M := mX8_projectedDebt) 68 dX8_projectedDebt_86 rfl ?_
    rw [n_inc (s := k), ← pj_s he]; exact ih (k + 1) (by omega) (by omega)
theorem ko_projectedDebt {N β : Nat} {a : Nat → Int32} {b : Nat → Int64} (H : y_CS N I L R β a b) {Ns Np Nl Nm : Nat} (Z : y_Z a Ns Np Nl Nm) {M : Nat} (hM1 : 1 ≤ M ∧ M ≤ 12) (h1 : a 0 = 3) : x_Cv X mX8_projectedDebt [.ref 0, .int (Int32.ofNat M)] (I, L, R) 233 (.inl (some (.long (sp_pj a (b 0) (sp_chg a Nm Nl Ns) M))), (I, L, R), 233) := by
  obtain ⟨hNs, hn, hNp, hp, hNl, hl, hNm, hmm⟩ := Z
  have hR := h_R H
  have hβ := h_β H
  have hS := h_S H
  show x_Ev X mX8_projectedDebt 0 [some (.ref 0), some (.int (Int32.ofNat M)), none, none, none] [] ((I, L, R), 233, 0, 0) _
  refine f_iload_n (M := mX8_projectedDebt) 1 dX8_projectedDebt_0 rfl rfl ?_
  refine f_iconst (M := mX8_projectedDebt) 2 dX8_projectedDebt_1 ki_1 rfl ?_
  refine f_bipush (M := mX8_projectedDebt) 4 dX8_projectedDebt_2 kb_12 rfl ?_
  refine e_cS (M := mX8_projectedDebt) [_] 0 0 dX8_projectedDebt_4 pa_8049 cc_8049 rfl rfl rfl rfl rfl (x_kk rfl) (x_kk rfl) rfl (c_X8_isIn (lo := 1) (hi := 12)) rfl ?_
  refine e_cS (M := mX8_projectedDebt) [] 1 6 dX8_projectedDebt_7 pa_8053 cc_8053 rfl rfl rfl rfl rfl (x_kk rfl) (x_kk rfl) rfl (c_X8_requireArgument (x_bn (pj_ok hM1))) rfl ?_
  refine f_aload_n (M := mX8_projectedDebt) 11 dX8_projectedDebt_10 rfl rfl ?_
  refine e_getR (M := mX8_projectedDebt) dX8_projectedDebt_11 fl_8026 (x_kk rfl) (x_kk rfl) rfl hS ?_
  refine e_getI (M := mX8_projectedDebt) dX8_projectedDebt_14 fl_8067 (x_kk rfl) (sl_lt hβ 0 rfl) (sl_s hβ 0 rfl rfl) ?_
  refine f_iconst (M := mX8_projectedDebt) 18 dX8_projectedDebt_17 ki_3 rfl ?_
  refine e_icmp_neF (M := mX8_projectedDebt) 25 dX8_projectedDebt_18 rfl (fun z => z (by rw [h_ph H]; exact h1)) ?_
  refine f_iconst (M := mX8_projectedDebt) 22 dX8_projectedDebt_21 ki_1 rfl ?_
  refine f_goto (M := mX8_projectedDebt) 26 dX8_projectedDebt_22 rfl ?_
  refine e_cS (M := mX8_projectedDebt) [] 2 12 dX8_projectedDebt_26 pa_8037 cc_8037 rfl rfl rfl rfl rfl (x_kk rfl) (x_kk rfl) rfl (c_X8_requireState (by decide)) rfl ?_
  refine f_aload_n (M := mX8_projectedDebt) 30 dX8_projectedDebt_29 rfl rfl ?_
  refine e_getR (M := mX8_projectedDebt) dX8_projectedDebt_30 fl_8026 (x_kk rfl) (x_kk rfl) rfl hS ?_
  refine f_aload_n (M := mX8_projectedDebt) 34 dX8_projectedDebt_33 rfl rfl ?_
  refine e_getR (M := mX8_projectedDebt) dX8_projectedDebt_34 fl_8026 (x_kk rfl) (x_kk rfl) rfl hS ?_
  refine e_getR (M := mX8_projectedDebt) dX8_projectedDebt_37 fl_8227 (x_kk rfl) (sl_lt hβ 0 rfl) (sl_s hβ 0 rfl rfl) (wf_6_4 hR hβ) ?_
  refine e_getL (M := mX8_projectedDebt) dX8_projectedDebt_40 fl_8298 (x_kk rfl) (sl_lt hβ 12 rfl) (sl_s hβ 12 rfl rfl) ?_
  refine e_cV (M := mX8_projectedDebt) [_] 2 12 dX8_projectedDebt_43 pa_8305 pb_8305 cc_8305 rfl rfl rfl rfl rfl (x_kk rfl) (x_kk rfl) (x_rcvOK (sl_lt hβ 0 rfl) (sl_s hβ 0 rfl rfl) rfl) (k_wi H) rfl ?_
  refine f_aload_n (M := mX8_projectedDebt) 47 dX8_projectedDebt_46 rfl rfl ?_
  refine e_getR (M := mX8_projectedDebt) dX8_projectedDebt_47 fl_8026 (x_kk rfl) (x_kk rfl) rfl hS ?_
  refine f_aload_n (M := mX8_projectedDebt) 51 dX8_projectedDebt_50 rfl rfl ?_
  refine e_getR (M := mX8_projectedDebt) dX8_projectedDebt_51 fl_8026 (x_kk rfl) (x_kk rfl) rfl hS ?_
  refine e_getR (M := mX8_projectedDebt) dX8_projectedDebt_54 fl_8227 (x_kk rfl) (sl_lt hβ 0 rfl) (sl_s hβ 0 rfl rfl) (wf_6_4 hR hβ) ?_
  refine e_getI (M := mX8_projectedDebt) dX8_projectedDebt_57 fl_8254 (x_kk rfl) (sl_lt hβ 12 rfl) (sl_s hβ 12 rfl rfl) ?_
  refine e_cV (M := mX8_projectedDebt) [_, _] 2 12 dX8_projectedDebt_60 pa_8302 pb_8302 cc_8302 rfl rfl rfl rfl rfl (x_kk rfl) (x_kk rfl) (x_rcvOK (sl_lt hβ 0 rfl) (sl_s hβ 0 rfl rfl) rfl) (kv_charge H hNl hl hNs hn hNm ((h_K H).2.2.2.2.2.1.trans hmm)) rfl ?_
  refine f_ladd (M := mX8_projectedDebt) 64 dX8_projectedDebt_63 rfl ?_
  refine f_lstore_n (M := mX8_projectedDebt) (ls' := [_, _, _, _, _]) 65 dX8_projectedDebt_64 rfl rfl rfl ?_
  refine f_iconst (M := mX8_projectedDebt) 66 dX8_projectedDebt_65 ki_1 rfl ?_
  refine f_istore (M := mX8_projectedDebt) (ls' := [_, _, _, _, _]) 68 dX8_projectedDebt_66 rfl rfl rfl ?_
  rw [(h_K H).2.2.2.2.2.2.2]; exact l_X8_projectedDebt H hM1.2 (M - 1) 1 (by omega) (by omega)
theorem l_X9_projectedDebt (hR : x_wf R) {M : Nat} (hM : M ≤ 12) {d0 c0 : Int64} : ∀ d k, k + d = M → 1 ≤ k → x_Ev X mX9_projectedDebt 54 [some (.ref 225), some (.int (Int32.ofNat M)), some (.long (sp_pj (I 226) d0 c0 k)), none, some (.int (Int32.ofNat k))] [] ((I, L, R), 233, 0, 0) (.inl (some (.long (sp_pj (I 226) d0 c0 M))), (I, L, R), 233) := by
  intro d
  induction d with
  | zero =>
    intro k hd he
    obtain rfl : M = k := by omega
    refine f_iload (M := mX9_projectedDebt) 56 dX9_projectedDebt_54 rfl rfl ?_
    refine f_iload_n (M := mX9_projectedDebt) 57 dX9_projectedDebt_56 rfl rfl ?_
    refine e_icmp_geT (M := mX9_projectedDebt) 108 dX9_projectedDebt_57 rfl (Int32.le_refl _) ?_
    refine f_lload_n (M := mX9_projectedDebt) 109 dX9_projectedDebt_108 rfl rfl ?_
    refine e_rl (M := mX9_projectedDebt) dX9_projectedDebt_109 rfl (x_kk rfl) (x_kk rfl) ?_
    rfl
  | succ d ih =>
    intro k hd he
    refine f_iload (M := mX9_projectedDebt) 56 dX9_projectedDebt_54 rfl rfl ?_
    refine f_iload_n (M := mX9_projectedDebt) 57 dX9_projectedDebt_56 rfl rfl ?_
    refine e_icmp_geF (M := mX9_projectedDebt) 108 dX9_projectedDebt_57 rfl (by rw [n_le (by omega) (by omega)]; omega) ?_
    refine f_lload_n (M := mX9_projectedDebt) 61 dX9_projectedDebt_60 rfl rfl ?_
    refine f_lconst (M := mX9_projectedDebt) 62 dX9_projectedDebt_61 kl_0 rfl ?_
    refine f_lcmp (M := mX9_projectedDebt) 63 dX9_projectedDebt_62 rfl ?_
    refine e_if_le (M := mX9_projectedDebt) (t := 83) dX9_projectedDebt_63 rfl (fun h5 => ?_) (fun h5 => ?_)
    · refine f_iload (M := mX9_projectedDebt) 85 dX9_projectedDebt_83 rfl rfl ?_
      refine e_if_neT (M := mX9_projectedDebt) 102 dX9_projectedDebt_85 rfl (by rw [kn_0, n_eq (by omega) (by omega)]; omega) ?_
      refine f_iinc (M := mX9_projectedDebt) (ls' := [_, _, _, _, _]) 105 dX9_projectedDebt_102 ki_1 rfl rfl rfl rfl ?_
      refine f_goto (M := mX9_projectedDebt) 54 dX9_projectedDebt_105 rfl ?_
      rw [n_inc (s := k)]; have ih1 := ih (k + 1) (by omega) (by omega); rw [pj_s he, (show sp_wi (I 226) _ = _ from if_pos (lc_le.mp h5))] at ih1; exact ih1
    · refine f_lload_n (M := mX9_projectedDebt) 67 dX9_projectedDebt_66 rfl rfl ?_
      refine f_lload_n (M := mX9_projectedDebt) 68 dX9_projectedDebt_67 rfl rfl ?_
      refine f_aload_n (M := mX9_projectedDebt) 69 dX9_projectedDebt_68 rfl rfl ?_
      refine e_getR (M := mX9_projectedDebt) dX9_projectedDebt_69 fl_9007 (x_kk rfl) (x_kk rfl) rfl (wf_9_0 hR) ?_
      refine f_bipush (M := mX9_projectedDebt) 74 dX9_projectedDebt_72 kb_6 rfl ?_
      refine e_ild (M := mX9_projectedDebt) (w := 606) (j := 6) dX9_projectedDebt_74 (x_kk rfl) rfl kn_6 (by omega) (by omega) ?_
      refine f_i2l (M := mX9_projectedDebt) 76 dX9_projectedDebt_75 rfl ?_
      refine f_lmul (M := mX9_projectedDebt) 77 dX9_projectedDebt_76 rfl ?_
      refine f_ldc2 (M := mX9_projectedDebt) 80 dX9_projectedDebt_77 (x_kk rfl) csl_9278 rfl ?_
      refine e_ldiv (M := mX9_projectedDebt) dX9_projectedDebt_80 (by decide) ?_
      refine f_ladd (M := mX9_projectedDebt) 82 dX9_projectedDebt_81 rfl ?_
      refine f_lstore_n (M := mX9_projectedDebt) (ls' := [_, _, _, _, _]) 83 dX9_projectedDebt_82 rfl rfl rfl ?_
      refine f_iload (M := mX9_projectedDebt) 85 dX9_projectedDebt_83 rfl rfl ?_
      refine e_if_neT (M := mX9_projectedDebt) 102 dX9_projectedDebt_85 rfl (by rw [kn_0, n_eq (by omega) (by omega)]; omega) ?_
      refine f_iinc (M := mX9_projectedDebt) (ls' := [_, _, _, _, _]) 105 dX9_projectedDebt_102 ki_1 rfl rfl rfl rfl ?_
      refine f_goto (M := mX9_projectedDebt) 54 dX9_projectedDebt_105 rfl ?_
      rw [n_inc (s := k)]; have ih1 := ih (k + 1) (by omega) (by omega); rw [pj_s he, (show sp_wi (I 226) _ = _ from if_neg (fun z => h5 (lc_le.mpr z)))] at ih1; exact ih1
theorem mo_projectedDebt (hR : x_wf R) {Ns Np Nl Nm : Nat} (Z : y_Z (I 226) Ns Np Nl Nm) {M : Nat} (hM1 : 1 ≤ M ∧ M ≤ 12) (h1 : I 226 0 = 3) (hIL : y_IL (I 226)) : x_Cv X mX9_projectedDebt [.ref 225, .int (Int32.ofNat M)] (I, L, R) 233 (.inl (some (.long (sp_pj (I 226) (L 229 0) (sp_chg (I 226) Nm Nl Ns) M))), (x_tw I 0, x_facF L (I 226) Nl, R), 233) := by
  obtain ⟨hNs, hn, hNp, hp, hNl, hl, hNm, hmm⟩ := Z
  show x_Ev X mX9_projectedDebt 0 [some (.ref 225), some (.int (Int32.ofNat M)), none, none, none] [] ((I, L, R), 233, 0, 0) _
  refine f_aload_n (M := mX9_projectedDebt) 1 dX9_projectedDebt_0 rfl rfl ?_
  refine f_iload_n (M := mX9_projectedDebt) 2 dX9_projectedDebt_1 rfl rfl ?_
  refine f_i2l (M := mX9_projectedDebt) 3 dX9_projectedDebt_2 rfl ?_
  refine f_lconst (M := mX9_projectedDebt) 4 dX9_projectedDebt_3 kl_1 rfl ?_
  refine f_ldc2 (M := mX9_projectedDebt) 7 dX9_projectedDebt_4 (x_kk rfl) csl_9286 rfl ?_
  refine e_cS (M := mX9_projectedDebt) [_, _] 0 0 dX9_projectedDebt_7 pa_9074 cc_9074 rfl rfl rfl rfl rfl (x_kk rfl) (x_kk rfl) rfl (c_X9_isInI (lo := 1) (hi := 12)) rfl ?_
  refine e_if_neT (M := mX9_projectedDebt) 17 dX9_projectedDebt_10 rfl (x_bn (pj_ok hM1)) ?_
  refine f_aload_n (M := mX9_projectedDebt) 18 dX9_projectedDebt_17 rfl rfl ?_
  refine e_getR (M := mX9_projectedDebt) dX9_projectedDebt_18 fl_9007 (x_kk rfl) (x_kk rfl) rfl (wf_9_0 hR) ?_
  refine f_iconst (M := mX9_projectedDebt) 22 dX9_projectedDebt_21 ki_0 rfl ?_
  refine e_ild (M := mX9_projectedDebt) (w := 606) (j := 0) dX9_projectedDebt_22 (x_kk rfl) rfl kn_0 (by omega) (by omega) ?_
  refine f_iconst (M := mX9_projectedDebt) 24 dX9_projectedDebt_23 ki_3 rfl ?_
  refine e_icmp_eqT (M := mX9_projectedDebt) 31 dX9_projectedDebt_24 rfl h1 ?_
  refine f_iconst (M := mX9_projectedDebt) 32 dX9_projectedDebt_31 ki_0 rfl ?_
  refine e_putI (M := mX9_projectedDebt) dX9_projectedDebt_32 fl_9033 (x_kk rfl) (x_kk rfl) rfl (fun q9 => Bool.noConfusion q9) ?_
  refine f_aload_n (M := mX9_projectedDebt) 36 dX9_projectedDebt_35 rfl rfl ?_
  refine e_getI (M := mX9_projectedDebt) dX9_projectedDebt_36 fl_9033 (x_kk rfl) (x_kk rfl) rfl ?_
  refine e_if_leT (M := mX9_projectedDebt) 44 dX9_projectedDebt_39 rfl (show (0 : Int32) ≤ 0 by decide) ?_
  refine f_aload_n (M := mX9_projectedDebt) 45 dX9_projectedDebt_44 rfl rfl ?_
  refine e_getR (M := mX9_projectedDebt) dX9_projectedDebt_45 fl_9019 (x_kk rfl) (x_kk rfl) rfl (wf_9_3 hR) ?_
  refine f_iconst (M := mX9_projectedDebt) 49 dX9_projectedDebt_48 ki_0 rfl ?_
  refine e_lld (M := mX9_projectedDebt) (w := 37) (j := 0) dX9_projectedDebt_49 (x_kk rfl) rfl kn_0 (by omega) (by omega) ?_
  refine f_lstore_n (M := mX9_projectedDebt) (ls' := [_, _, _, _, _]) 51 dX9_projectedDebt_50 rfl rfl rfl ?_
  refine f_iconst (M := mX9_projectedDebt) 52 dX9_projectedDebt_51 ki_0 rfl ?_
  refine f_istore (M := mX9_projectedDebt) (ls' := [_, _, _, _, _]) 54 dX9_projectedDebt_52 rfl rfl rfl ?_
  skip
  refine f_iload (M := mX9_projectedDebt) 56 dX9_projectedDebt_54 rfl rfl ?_
  refine f_iload_n (M := mX9_projectedDebt) 57 dX9_projectedDebt_56 rfl rfl ?_
  refine e_icmp_geF (M := mX9_projectedDebt) 108 dX9_projectedDebt_57 rfl (by rw [kn_0, n_le (by omega) (by omega)]; omega) ?_
  refine f_lload_n (M := mX9_projectedDebt) 61 dX9_projectedDebt_60 rfl rfl ?_
  refine f_lconst (M := mX9_projectedDebt) 62 dX9_projectedDebt_61 kl_0 rfl ?_
  refine f_lcmp (M := mX9_projectedDebt) 63 dX9_projectedDebt_62 rfl ?_
  refine e_if_le (M := mX9_projectedDebt) (t := 83) dX9_projectedDebt_63 rfl (fun h5 => ?_) (fun h5 => ?_)
  · refine f_iload (M := mX9_projectedDebt) 85 dX9_projectedDebt_83 rfl rfl ?_
    refine e_if_neF (M := mX9_projectedDebt) 102 dX9_projectedDebt_85 rfl (show ¬ (¬ (0 : Int32) = 0) by decide) ?_
    refine f_lload_n (M := mX9_projectedDebt) 89 dX9_projectedDebt_88 rfl rfl ?_
    refine f_aload_n (M := mX9_projectedDebt) 90 dX9_projectedDebt_89 rfl rfl ?_
    refine f_aload_n (M := mX9_projectedDebt) 91 dX9_projectedDebt_90 rfl rfl ?_
    refine e_getR (M := mX9_projectedDebt) dX9_projectedDebt_91 fl_9007 (x_kk rfl) (x_kk rfl) rfl (wf_9_0 hR) ?_
    refine f_bipush (M := mX9_projectedDebt) 96 dX9_projectedDebt_94 kb_13 rfl ?_
    refine e_ild (M := mX9_projectedDebt) (w := 606) (j := 13) dX9_projectedDebt_96 (x_kk rfl) rfl kn_13 (by omega) (by omega) ?_
    refine e_cV (M := mX9_projectedDebt) [_, _] 0 0 dX9_projectedDebt_97 pa_9280 pb_9280 cc_9280 rfl rfl rfl rfl rfl (x_kk rfl) (x_kk rfl) rfl (mv_charge (I := x_tw I 0) hR hNl hl hNs hn hIL hNm hmm) rfl ?_
    refine f_ladd (M := mX9_projectedDebt) 101 dX9_projectedDebt_100 rfl ?_
    refine f_lstore_n (M := mX9_projectedDebt) (ls' := [_, _, _, _, _]) 102 dX9_projectedDebt_101 rfl rfl rfl ?_
    refine f_iinc (M := mX9_projectedDebt) (ls' := [_, _, _, _, _]) 105 dX9_projectedDebt_102 ki_1 rfl rfl rfl rfl ?_
    refine f_goto (M := mX9_projectedDebt) 54 dX9_projectedDebt_105 rfl ?_
    have l1 := l_X9_projectedDebt (X := X) (I := x_tw I 0) (L := x_facF L (I 226) Nl) (d0 := L 229 0) (c0 := sp_chg (I 226) Nm Nl Ns) hR hM1.2 (M - 1) 1 (by omega) (by omega); rw [show sp_pj ((x_tw I 0) 226) (L 229 0) (sp_chg (I 226) Nm Nl Ns) 1 = sp_wi (I 226) (L 229 0) + sp_chg (I 226) Nm Nl Ns from rfl, (show sp_wi (I 226) _ = _ from if_pos (lc_le.mp h5))] at l1; exact l1
  · refine f_lload_n (M := mX9_projectedDebt) 67 dX9_projectedDebt_66 rfl rfl ?_
    refine f_lload_n (M := mX9_projectedDebt) 68 dX9_projectedDebt_67 rfl rfl ?_
    refine f_aload_n (M := mX9_projectedDebt) 69 dX9_projectedDebt_68 rfl rfl ?_
    refine e_getR (M := mX9_projectedDebt) dX9_projectedDebt_69 fl_9007 (x_kk rfl) (x_kk rfl) rfl (wf_9_0 hR) ?_
    refine f_bipush (M := mX9_projectedDebt) 74 dX9_projectedDebt_72 kb_6 rfl ?_
    refine e_ild (M := mX9_projectedDebt) (w := 606) (j := 6) dX9_projectedDebt_74 (x_kk rfl) rfl kn_6 (by omega) (by omega) ?_
    refine f_i2l (M := mX9_projectedDebt) 76 dX9_projectedDebt_75 rfl ?_
    refine f_lmul (M := mX9_projectedDebt) 77 dX9_projectedDebt_76 rfl ?_
    refine f_ldc2 (M := mX9_projectedDebt) 80 dX9_projectedDebt_77 (x_kk rfl) csl_9278 rfl ?_
    refine e_ldiv (M := mX9_projectedDebt) dX9_projectedDebt_80 (by decide) ?_
    refine f_ladd (M := mX9_projectedDebt) 82 dX9_projectedDebt_81 rfl ?_
    refine f_lstore_n (M := mX9_projectedDebt) (ls' := [_, _, _, _, _]) 83 dX9_projectedDebt_82 rfl rfl rfl ?_
    refine f_iload (M := mX9_projectedDebt) 85 dX9_projectedDebt_83 rfl rfl ?_
    refine e_if_neF (M := mX9_projectedDebt) 102 dX9_projectedDebt_85 rfl (show ¬ (¬ (0 : Int32) = 0) by decide) ?_
    refine f_lload_n (M := mX9_projectedDebt) 89 dX9_projectedDebt_88 rfl rfl ?_
    refine f_aload_n (M := mX9_projectedDebt) 90 dX9_projectedDebt_89 rfl rfl ?_
    refine f_aload_n (M := mX9_projectedDebt) 91 dX9_projectedDebt_90 rfl rfl ?_
    refine e_getR (M := mX9_projectedDebt) dX9_projectedDebt_91 fl_9007 (x_kk rfl) (x_kk rfl) rfl (wf_9_0 hR) ?_
    refine f_bipush (M := mX9_projectedDebt) 96 dX9_projectedDebt_94 kb_13 rfl ?_
    refine e_ild (M := mX9_projectedDebt) (w := 606) (j := 13) dX9_projectedDebt_96 (x_kk rfl) rfl kn_13 (by omega) (by omega) ?_
    refine e_cV (M := mX9_projectedDebt) [_, _] 0 0 dX9_projectedDebt_97 pa_9280 pb_9280 cc_9280 rfl rfl rfl rfl rfl (x_kk rfl) (x_kk rfl) rfl (mv_charge (I := x_tw I 0) hR hNl hl hNs hn hIL hNm hmm) rfl ?_
    refine f_ladd (M := mX9_projectedDebt) 101 dX9_projectedDebt_100 rfl ?_
    refine f_lstore_n (M := mX9_projectedDebt) (ls' := [_, _, _, _, _]) 102 dX9_projectedDebt_101 rfl rfl rfl ?_
    refine f_iinc (M := mX9_projectedDebt) (ls' := [_, _, _, _, _]) 105 dX9_projectedDebt_102 ki_1 rfl rfl rfl rfl ?_
    refine f_goto (M := mX9_projectedDebt) 54 dX9_projectedDebt_105 rfl ?_
    have l1 := l_X9_projectedDebt (X := X) (I := x_tw I 0) (L := x_facF L (I 226) Nl) (d0 := L 229 0) (c0 := sp_chg (I 226) Nm Nl Ns) hR hM1.2 (M - 1) 1 (by omega) (by omega); rw [show sp_pj ((x_tw I 0) 226) (L 229 0) (sp_chg (I 226) Nm Nl Ns) 1 = sp_wi (I 226) (L 229 0) + sp_chg (I 226) Nm Nl Ns from rfl, (show sp_wi (I 226) _ = _ from if_neg (fun z => h5 (lc_le.mpr z)))] at l1; exact l1
theorem sim_projectedDebt (T : y_T N I L R) {m : Int32} : y_OL N X mL_projectedDebt [.ref 0, .int m, .ref 232] mX9_projectedDebt [.ref 225, .int m] I L R := by
  have T0 := T
  obtain ⟨a, b, kn, ks, bf, bn, ep, ⟨β, δ, γ, ν, hB⟩, hM, hI⟩ := T
  have H : y_CS N I L R β a b := ⟨hM.1, hB.1.2.1, hB.1.2.2.2.2.1, hB.2.2.2.2.2.1, hI.1⟩
  obtain ⟨Ns, Np, Nl, Nm, Z⟩ := Z_of hI.1
  have hR := hM.1
  have ha : I 226 = a := hM.2.1
  have hb : L 229 = b := hM.2.2.1
  subst ha
  subst hb
  obtain ⟨hNs, hn, hNp, hp, hNl, hl, hNm, hmm⟩ := id Z
  by_cases h0 : 1 ≤ m ∧ m ≤ 12
  · obtain ⟨M, hM1, rfl⟩ := pj_of h0
    by_cases h1 : I 226 0 = 3
    · skip
      exact OL_f T0 (w_projectedDebt (ko_projectedDebt H Z hM1 h1)) (mo_projectedDebt hR Z hM1 h1 (h_IL H))
    · exact OL_x T0 (by decide) (w_projectedDebt_x0 (kf_projectedDebt_1 H Z hM1 h1)) (mf_projectedDebt_1 hR Z hM1 h1)
  · exact OL_x T0 (by decide) (w_projectedDebt_x1 (kf_projectedDebt_0 H Z h0)) (mf_projectedDebt_0 hR Z h0)
end

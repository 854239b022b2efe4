/-! ===== the law: the wrappers (laid by wip/whole/src/l1.py) ===== -/
section
variable {X : x_X} {I : Nat → Nat → Int32} {L : Nat → Nat → Int64} {R : Nat → Nat → Option Nat}
theorem hb_n {M : x_MI} {t : Nat} {k : Fin 4} {v : Int} {w : Int32} (h1 : decode (x_mb M) t = .ok (.astore_n k, 1)) (h2 : decode (x_mb M) (t + 1) = .ok (.iconst v, 1)) (h3 : decode (x_mb M) (t + 2) = .ok (.ireturn, 1)) (hk : Nat.blt k.val (x_ml M) = true) (hw : Int32.ofInt v = w) : x_hbody M t = some w := by
  unfold x_hbody
  rw [h1]
  rw [h2, h3]
  show (if k.val < x_ml M then some (Int32.ofInt v) else none) = some w
  rw [if_pos (x_bl hk), hw]
theorem hb_w {M : x_MI} {t k : Nat} {v : Int} {w : Int32} (h1 : decode (x_mb M) t = .ok (.astore k, 2)) (h2 : decode (x_mb M) (t + 2) = .ok (.iconst v, 1)) (h3 : decode (x_mb M) (t + 3) = .ok (.ireturn, 1)) (hk : Nat.blt k (x_ml M) = true) (hw : Int32.ofInt v = w) : x_hbody M t = some w := by
  unfold x_hbody
  rw [h1]
  rw [h2, h3]
  show (if k < x_ml M then some (Int32.ofInt v) else none) = some w
  rw [if_pos (x_bl hk), hw]
theorem hx {M : x_MI} {pc E t n c k : Nat} {μ : x_Mem} {w : Int32} (hm : Nat.blt 0 (x_mh M).length = true) (hf : x_hfind E pc (x_mo M) (x_mh M) = some t) (hb : x_hbody M t = some w) (hr : x_mr M = some .int) (hc : c ≤ x_mc M) (hk : k ≤ x_ms M) : x_exc M pc E (μ, n, c, k) = some (.inl (some (.int w)), μ, n) := by
  unfold x_exc
  cases hh : x_mh M with
  | nil => rw [hh] at hm; cases hm
  | cons a l =>
    rw [hh] at hf
    dsimp only
    rw [hf]
    dsimp only
    rw [hb, hr]
    dsimp only
    exact x_finE hc hk
theorem w_append {v0 v1 v2 v3 v4 : Int32} {v : Int32} {I' : Nat → Nat → Int32} {L' : Nat → Nat → Int64} {R' : Nat → Nat → Option Nat} (h : x_Cv X mX8_append [.ref 0, .int v0, .int v1, .int v2, .int v3, .int v4] (I, L, R) 233 (.inl (some (.int v)), (I', L', R'), 233)) : x_Cv X mL_append [.ref 0, .int v0, .int v1, .int v2, .int v3, .int v4, .ref 232] (I, L, R) 233 (.inl (some (.int (0))), (I', va_up L' 232 (va_up (L' 232) 0 (v.toInt64)), R'), 233) := by
  show x_Ev X mL_append 0 [some (.ref 0), some (.int v0), some (.int v1), some (.int v2), some (.int v3), some (.int v4), some (.ref 232), none] [] ((I, L, R), 233, 0, 0) _
  refine f_aload (M := mL_append) 2 dL_append_0 rfl rfl ?_
  refine f_iconst (M := mL_append) 3 dL_append_2 ki_0 rfl ?_
  refine f_aload_n (M := mL_append) 4 dL_append_3 rfl rfl ?_
  refine f_iload_n (M := mL_append) 5 dL_append_4 rfl rfl ?_
  refine f_iload_n (M := mL_append) 6 dL_append_5 rfl rfl ?_
  refine f_iload_n (M := mL_append) 7 dL_append_6 rfl rfl ?_
  refine f_iload (M := mL_append) 9 dL_append_7 rfl rfl ?_
  refine f_iload (M := mL_append) 11 dL_append_9 rfl rfl ?_
  refine e_cV (M := mL_append) [_, _, _] 1 6 dL_append_11 pa_10007 pb_10007 cc_10007 rfl rfl rfl rfl rfl (x_kk rfl) (x_kk rfl) rfl (h) rfl ?_
  refine f_i2l (M := mL_append) 15 dL_append_14 rfl ?_
  refine e_lst (M := mL_append) (w := 1) (j := 0) dL_append_15 (x_kk rfl) rfl kn_0 (by omega) (by omega) ?_
  refine f_goto (M := mL_append) 23 dL_append_16 rfl ?_
  refine f_iconst (M := mL_append) 24 dL_append_23 ki_0 rfl ?_
  refine e_ri (M := mL_append) dL_append_24 rfl (x_kk rfl) (x_kk rfl) ?_
  rfl
theorem hf_append_0 : x_hfind 0 11 (x_mo mL_append) (x_mh mL_append) = some 19 := by decide +kernel
theorem w_append_x0 {v0 v1 v2 v3 v4 : Int32} {I' : Nat → Nat → Int32} {L' : Nat → Nat → Int64} {R' : Nat → Nat → Option Nat} (h : x_Cv X mX8_append [.ref 0, .int v0, .int v1, .int v2, .int v3, .int v4] (I, L, R) 233 (.inr 0, (I', L', R'), 233)) : x_Cv X mL_append [.ref 0, .int v0, .int v1, .int v2, .int v3, .int v4, .ref 232] (I, L, R) 233 (.inl (some (.int (1))), (I', L', R'), 233) := by
  show x_Ev X mL_append 0 [some (.ref 0), some (.int v0), some (.int v1), some (.int v2), some (.int v3), some (.int v4), some (.ref 232), none] [] ((I, L, R), 233, 0, 0) _
  refine f_aload (M := mL_append) 2 dL_append_0 rfl rfl ?_
  refine f_iconst (M := mL_append) 3 dL_append_2 ki_0 rfl ?_
  refine f_aload_n (M := mL_append) 4 dL_append_3 rfl rfl ?_
  refine f_iload_n (M := mL_append) 5 dL_append_4 rfl rfl ?_
  refine f_iload_n (M := mL_append) 6 dL_append_5 rfl rfl ?_
  refine f_iload_n (M := mL_append) 7 dL_append_6 rfl rfl ?_
  refine f_iload (M := mL_append) 9 dL_append_7 rfl rfl ?_
  refine f_iload (M := mL_append) 11 dL_append_9 rfl rfl ?_
  exact e_cVX (M := mL_append) 1 6 dL_append_11 pa_10007 pb_10007 cc_10007 rfl rfl rfl rfl rfl (x_kk rfl) (x_kk rfl) rfl (h) (hx (M := mL_append) rfl hf_append_0 (hb_w (M := mL_append) dL_append_19 dL_append_21 dL_append_22 rfl ki_1) rfl (x_kk rfl) (x_kk rfl))
theorem w_load {v0 : Int32} {v : Int32} {I' : Nat → Nat → Int32} {L' : Nat → Nat → Int64} {R' : Nat → Nat → Option Nat} (h : x_Cv X mX8_load [.ref 0, .int v0] (I, L, R) 233 (.inl (some (.int v)), (I', L', R'), 233)) : x_Cv X mL_load [.ref 0, .int v0, .ref 232] (I, L, R) 233 (.inl (some (.int (0))), (I', va_up L' 232 (va_up (L' 232) 0 (v.toInt64)), R'), 233) := by
  show x_Ev X mL_load 0 [some (.ref 0), some (.int v0), some (.ref 232), none] [] ((I, L, R), 233, 0, 0) _
  refine f_aload_n (M := mL_load) 1 dL_load_0 rfl rfl ?_
  refine f_iconst (M := mL_load) 2 dL_load_1 ki_0 rfl ?_
  refine f_aload_n (M := mL_load) 3 dL_load_2 rfl rfl ?_
  refine f_iload_n (M := mL_load) 4 dL_load_3 rfl rfl ?_
  refine e_cV (M := mL_load) [_, _, _] 1 6 dL_load_4 pa_10015 pb_10015 cc_10015 rfl rfl rfl rfl rfl (x_kk rfl) (x_kk rfl) rfl (h) rfl ?_
  refine f_i2l (M := mL_load) 8 dL_load_7 rfl ?_
  refine e_lst (M := mL_load) (w := 1) (j := 0) dL_load_8 (x_kk rfl) rfl kn_0 (by omega) (by omega) ?_
  refine f_goto (M := mL_load) 15 dL_load_9 rfl ?_
  refine f_iconst (M := mL_load) 16 dL_load_15 ki_0 rfl ?_
  refine e_ri (M := mL_load) dL_load_16 rfl (x_kk rfl) (x_kk rfl) ?_
  rfl
theorem hf_load_1 : x_hfind 1 4 (x_mo mL_load) (x_mh mL_load) = some 12 := by decide +kernel
theorem w_load_x1 {v0 : Int32} {I' : Nat → Nat → Int32} {L' : Nat → Nat → Int64} {R' : Nat → Nat → Option Nat} (h : x_Cv X mX8_load [.ref 0, .int v0] (I, L, R) 233 (.inr 1, (I', L', R'), 233)) : x_Cv X mL_load [.ref 0, .int v0, .ref 232] (I, L, R) 233 (.inl (some (.int (1))), (I', L', R'), 233) := by
  show x_Ev X mL_load 0 [some (.ref 0), some (.int v0), some (.ref 232), none] [] ((I, L, R), 233, 0, 0) _
  refine f_aload_n (M := mL_load) 1 dL_load_0 rfl rfl ?_
  refine f_iconst (M := mL_load) 2 dL_load_1 ki_0 rfl ?_
  refine f_aload_n (M := mL_load) 3 dL_load_2 rfl rfl ?_
  refine f_iload_n (M := mL_load) 4 dL_load_3 rfl rfl ?_
  exact e_cVX (M := mL_load) 1 6 dL_load_4 pa_10015 pb_10015 cc_10015 rfl rfl rfl rfl rfl (x_kk rfl) (x_kk rfl) rfl (h) (hx (M := mL_load) rfl hf_load_1 (hb_n (M := mL_load) dL_load_12 dL_load_13 dL_load_14 rfl ki_1) rfl (x_kk rfl) (x_kk rfl))
theorem w_addPlot {v0 v1 v2 v3 v4 v5 : Int32} {v : Int32} {I' : Nat → Nat → Int32} {L' : Nat → Nat → Int64} {R' : Nat → Nat → Option Nat} (h : x_Cv X mX8_addPlot [.ref 0, .int v0, .int v1, .int v2, .int v3, .int v4, .int v5] (I, L, R) 233 (.inl (some (.int v)), (I', L', R'), 233)) : x_Cv X mL_addPlot [.ref 0, .int v0, .int v1, .int v2, .int v3, .int v4, .int v5, .ref 232] (I, L, R) 233 (.inl (some (.int (0))), (I', va_up L' 232 (va_up (L' 232) 0 (v.toInt64)), R'), 233) := by
  show x_Ev X mL_addPlot 0 [some (.ref 0), some (.int v0), some (.int v1), some (.int v2), some (.int v3), some (.int v4), some (.int v5), some (.ref 232), none] [] ((I, L, R), 233, 0, 0) _
  refine f_aload (M := mL_addPlot) 2 dL_addPlot_0 rfl rfl ?_
  refine f_iconst (M := mL_addPlot) 3 dL_addPlot_2 ki_0 rfl ?_
  refine f_aload_n (M := mL_addPlot) 4 dL_addPlot_3 rfl rfl ?_
  refine f_iload_n (M := mL_addPlot) 5 dL_addPlot_4 rfl rfl ?_
  refine f_iload_n (M := mL_addPlot) 6 dL_addPlot_5 rfl rfl ?_
  refine f_iload_n (M := mL_addPlot) 7 dL_addPlot_6 rfl rfl ?_
  refine f_iload (M := mL_addPlot) 9 dL_addPlot_7 rfl rfl ?_
  refine f_iload (M := mL_addPlot) 11 dL_addPlot_9 rfl rfl ?_
  refine f_iload (M := mL_addPlot) 13 dL_addPlot_11 rfl rfl ?_
  refine e_cV (M := mL_addPlot) [_, _, _] 2 12 dL_addPlot_13 pa_10021 pb_10021 cc_10021 rfl rfl rfl rfl rfl (x_kk rfl) (x_kk rfl) rfl (h) rfl ?_
  refine f_i2l (M := mL_addPlot) 17 dL_addPlot_16 rfl ?_
  refine e_lst (M := mL_addPlot) (w := 1) (j := 0) dL_addPlot_17 (x_kk rfl) rfl kn_0 (by omega) (by omega) ?_
  refine f_goto (M := mL_addPlot) 29 dL_addPlot_18 rfl ?_
  refine f_iconst (M := mL_addPlot) 30 dL_addPlot_29 ki_0 rfl ?_
  refine e_ri (M := mL_addPlot) dL_addPlot_30 rfl (x_kk rfl) (x_kk rfl) ?_
  rfl
theorem hf_addPlot_1 : x_hfind 1 13 (x_mo mL_addPlot) (x_mh mL_addPlot) = some 21 := by decide +kernel
theorem w_addPlot_x1 {v0 v1 v2 v3 v4 v5 : Int32} {I' : Nat → Nat → Int32} {L' : Nat → Nat → Int64} {R' : Nat → Nat → Option Nat} (h : x_Cv X mX8_addPlot [.ref 0, .int v0, .int v1, .int v2, .int v3, .int v4, .int v5] (I, L, R) 233 (.inr 1, (I', L', R'), 233)) : x_Cv X mL_addPlot [.ref 0, .int v0, .int v1, .int v2, .int v3, .int v4, .int v5, .ref 232] (I, L, R) 233 (.inl (some (.int (1))), (I', L', R'), 233) := by
  show x_Ev X mL_addPlot 0 [some (.ref 0), some (.int v0), some (.int v1), some (.int v2), some (.int v3), some (.int v4), some (.int v5), some (.ref 232), none] [] ((I, L, R), 233, 0, 0) _
  refine f_aload (M := mL_addPlot) 2 dL_addPlot_0 rfl rfl ?_
  refine f_iconst (M := mL_addPlot) 3 dL_addPlot_2 ki_0 rfl ?_
  refine f_aload_n (M := mL_addPlot) 4 dL_addPlot_3 rfl rfl ?_
  refine f_iload_n (M := mL_addPlot) 5 dL_addPlot_4 rfl rfl ?_
  refine f_iload_n (M := mL_addPlot) 6 dL_addPlot_5 rfl rfl ?_
  refine f_iload_n (M := mL_addPlot) 7 dL_addPlot_6 rfl rfl ?_
  refine f_iload (M := mL_addPlot) 9 dL_addPlot_7 rfl rfl ?_
  refine f_iload (M := mL_addPlot) 11 dL_addPlot_9 rfl rfl ?_
  refine f_iload (M := mL_addPlot) 13 dL_addPlot_11 rfl rfl ?_
  exact e_cVX (M := mL_addPlot) 2 12 dL_addPlot_13 pa_10021 pb_10021 cc_10021 rfl rfl rfl rfl rfl (x_kk rfl) (x_kk rfl) rfl (h) (hx (M := mL_addPlot) rfl hf_addPlot_1 (hb_w (M := mL_addPlot) dL_addPlot_21 dL_addPlot_23 dL_addPlot_24 rfl ki_1) rfl (x_kk rfl) (x_kk rfl))
theorem hf_addPlot_0 : x_hfind 0 13 (x_mo mL_addPlot) (x_mh mL_addPlot) = some 25 := by decide +kernel
theorem w_addPlot_x0 {v0 v1 v2 v3 v4 v5 : Int32} {I' : Nat → Nat → Int32} {L' : Nat → Nat → Int64} {R' : Nat → Nat → Option Nat} (h : x_Cv X mX8_addPlot [.ref 0, .int v0, .int v1, .int v2, .int v3, .int v4, .int v5] (I, L, R) 233 (.inr 0, (I', L', R'), 233)) : x_Cv X mL_addPlot [.ref 0, .int v0, .int v1, .int v2, .int v3, .int v4, .int v5, .ref 232] (I, L, R) 233 (.inl (some (.int (2))), (I', L', R'), 233) := by
  show x_Ev X mL_addPlot 0 [some (.ref 0), some (.int v0), some (.int v1), some (.int v2), some (.int v3), some (.int v4), some (.int v5), some (.ref 232), none] [] ((I, L, R), 233, 0, 0) _
  refine f_aload (M := mL_addPlot) 2 dL_addPlot_0 rfl rfl ?_
  refine f_iconst (M := mL_addPlot) 3 dL_addPlot_2 ki_0 rfl ?_
  refine f_aload_n (M := mL_addPlot) 4 dL_addPlot_3 rfl rfl ?_
  refine f_iload_n (M := mL_addPlot) 5 dL_addPlot_4 rfl rfl ?_
  refine f_iload_n (M := mL_addPlot) 6 dL_addPlot_5 rfl rfl ?_
  refine f_iload_n (M := mL_addPlot) 7 dL_addPlot_6 rfl rfl ?_
  refine f_iload (M := mL_addPlot) 9 dL_addPlot_7 rfl rfl ?_
  refine f_iload (M := mL_addPlot) 11 dL_addPlot_9 rfl rfl ?_
  refine f_iload (M := mL_addPlot) 13 dL_addPlot_11 rfl rfl ?_
  exact e_cVX (M := mL_addPlot) 2 12 dL_addPlot_13 pa_10021 pb_10021 cc_10021 rfl rfl rfl rfl rfl (x_kk rfl) (x_kk rfl) rfl (h) (hx (M := mL_addPlot) rfl hf_addPlot_0 (hb_w (M := mL_addPlot) dL_addPlot_25 dL_addPlot_27 dL_addPlot_28 rfl ki_2) rfl (x_kk rfl) (x_kk rfl))
theorem w_removePlot {v0 : Int32} {v : Int32} {I' : Nat → Nat → Int32} {L' : Nat → Nat → Int64} {R' : Nat → Nat → Option Nat} (h : x_Cv X mX8_removePlot [.ref 0, .int v0] (I, L, R) 233 (.inl (some (.int v)), (I', L', R'), 233)) : x_Cv X mL_removePlot [.ref 0, .int v0, .ref 232] (I, L, R) 233 (.inl (some (.int (0))), (I', va_up L' 232 (va_up (L' 232) 0 (v.toInt64)), R'), 233) := by
  show x_Ev X mL_removePlot 0 [some (.ref 0), some (.int v0), some (.ref 232), none] [] ((I, L, R), 233, 0, 0) _
  refine f_aload_n (M := mL_removePlot) 1 dL_removePlot_0 rfl rfl ?_
  refine f_iconst (M := mL_removePlot) 2 dL_removePlot_1 ki_0 rfl ?_
  refine f_aload_n (M := mL_removePlot) 3 dL_removePlot_2 rfl rfl ?_
  refine f_iload_n (M := mL_removePlot) 4 dL_removePlot_3 rfl rfl ?_
  refine e_cV (M := mL_removePlot) [_, _, _] 2 12 dL_removePlot_4 pa_10025 pb_10025 cc_10025 rfl rfl rfl rfl rfl (x_kk rfl) (x_kk rfl) rfl (h) rfl ?_
  refine f_i2l (M := mL_removePlot) 8 dL_removePlot_7 rfl ?_
  refine e_lst (M := mL_removePlot) (w := 1) (j := 0) dL_removePlot_8 (x_kk rfl) rfl kn_0 (by omega) (by omega) ?_
  refine f_goto (M := mL_removePlot) 18 dL_removePlot_9 rfl ?_
  refine f_iconst (M := mL_removePlot) 19 dL_removePlot_18 ki_0 rfl ?_
  refine e_ri (M := mL_removePlot) dL_removePlot_19 rfl (x_kk rfl) (x_kk rfl) ?_
  rfl
theorem hf_removePlot_2 : x_hfind 2 4 (x_mo mL_removePlot) (x_mh mL_removePlot) = some 12 := by decide +kernel
theorem w_removePlot_x2 {v0 : Int32} {I' : Nat → Nat → Int32} {L' : Nat → Nat → Int64} {R' : Nat → Nat → Option Nat} (h : x_Cv X mX8_removePlot [.ref 0, .int v0] (I, L, R) 233 (.inr 2, (I', L', R'), 233)) : x_Cv X mL_removePlot [.ref 0, .int v0, .ref 232] (I, L, R) 233 (.inl (some (.int (1))), (I', L', R'), 233) := by
  show x_Ev X mL_removePlot 0 [some (.ref 0), some (.int v0), some (.ref 232), none] [] ((I, L, R), 233, 0, 0) _
  refine f_aload_n (M := mL_removePlot) 1 dL_removePlot_0 rfl rfl ?_
  refine f_iconst (M := mL_removePlot) 2 dL_removePlot_1 ki_0 rfl ?_
  refine f_aload_n (M := mL_removePlot) 3 dL_removePlot_2 rfl rfl ?_
  refine f_iload_n (M := mL_removePlot) 4 dL_removePlot_3 rfl rfl ?_
  exact e_cVX (M := mL_removePlot) 2 12 dL_removePlot_4 pa_10025 pb_10025 cc_10025 rfl rfl rfl rfl rfl (x_kk rfl) (x_kk rfl) rfl (h) (hx (M := mL_removePlot) rfl hf_removePlot_2 (hb_n (M := mL_removePlot) dL_removePlot_12 dL_removePlot_13 dL_removePlot_14 rfl ki_1) rfl (x_kk rfl) (x_kk rfl))
theorem hf_removePlot_0 : x_hfind 0 4 (x_mo mL_removePlot) (x_mh mL_removePlot) = some 15 := by decide +kernel
theorem w_removePlot_x0 {v0 : Int32} {I' : Nat → Nat → Int32} {L' : Nat → Nat → Int64} {R' : Nat → Nat → Option Nat} (h : x_Cv X mX8_removePlot [.ref 0, .int v0] (I, L, R) 233 (.inr 0, (I', L', R'), 233)) : x_Cv X mL_removePlot [.ref 0, .int v0, .ref 232] (I, L, R) 233 (.inl (some (.int (2))), (I', L', R'), 233) := by
  show x_Ev X mL_removePlot 0 [some (.ref 0), some (.int v0), some (.ref 232), none] [] ((I, L, R), 233, 0, 0) _
  refine f_aload_n (M := mL_removePlot) 1 dL_removePlot_0 rfl rfl ?_
  refine f_iconst (M := mL_removePlot) 2 dL_removePlot_1 ki_0 rfl ?_
  refine f_aload_n (M := mL_removePlot) 3 dL_removePlot_2 rfl rfl ?_
  refine f_iload_n (M := mL_removePlot) 4 dL_removePlot_3 rfl rfl ?_
  exact e_cVX (M := mL_removePlot) 2 12 dL_removePlot_4 pa_10025 pb_10025 cc_10025 rfl rfl rfl rfl rfl (x_kk rfl) (x_kk rfl) rfl (h) (hx (M := mL_removePlot) rfl hf_removePlot_0 (hb_n (M := mL_removePlot) dL_removePlot_15 dL_removePlot_16 dL_removePlot_17 rfl ki_2) rfl (x_kk rfl) (x_kk rfl))
theorem w_estimate {v0 v1 : Int32} {v : Int64} {I' : Nat → Nat → Int32} {L' : Nat → Nat → Int64} {R' : Nat → Nat → Option Nat} (h : x_Cv X mX8_estimate [.ref 0, .int v0, .int v1] (I, L, R) 233 (.inl (some (.long v)), (I', L', R'), 233)) : x_Cv X mL_estimate [.ref 0, .int v0, .int v1, .ref 232] (I, L, R) 233 (.inl (some (.int (0))), (I', va_up L' 232 (va_up (L' 232) 0 (v)), R'), 233) := by
  show x_Ev X mL_estimate 0 [some (.ref 0), some (.int v0), some (.int v1), some (.ref 232), none] [] ((I, L, R), 233, 0, 0) _
  refine f_aload_n (M := mL_estimate) 1 dL_estimate_0 rfl rfl ?_
  refine f_iconst (M := mL_estimate) 2 dL_estimate_1 ki_0 rfl ?_
  refine f_aload_n (M := mL_estimate) 3 dL_estimate_2 rfl rfl ?_
  refine f_iload_n (M := mL_estimate) 4 dL_estimate_3 rfl rfl ?_
  refine f_iload_n (M := mL_estimate) 5 dL_estimate_4 rfl rfl ?_
  refine e_cV (M := mL_estimate) [_, _, _] 2 12 dL_estimate_5 pa_10030 pb_10030 cc_10030 rfl rfl rfl rfl rfl (x_kk rfl) (x_kk rfl) rfl (h) rfl ?_
  refine e_lst (M := mL_estimate) (w := 1) (j := 0) dL_estimate_8 (x_kk rfl) rfl kn_0 (by omega) (by omega) ?_
  refine f_goto (M := mL_estimate) 20 dL_estimate_9 rfl ?_
  refine f_iconst (M := mL_estimate) 21 dL_estimate_20 ki_0 rfl ?_
  refine e_ri (M := mL_estimate) dL_estimate_21 rfl (x_kk rfl) (x_kk rfl) ?_
  rfl
theorem hf_estimate_2 : x_hfind 2 5 (x_mo mL_estimate) (x_mh mL_estimate) = some 12 := by decide +kernel
theorem w_estimate_x2 {v0 v1 : Int32} {I' : Nat → Nat → Int32} {L' : Nat → Nat → Int64} {R' : Nat → Nat → Option Nat} (h : x_Cv X mX8_estimate [.ref 0, .int v0, .int v1] (I, L, R) 233 (.inr 2, (I', L', R'), 233)) : x_Cv X mL_estimate [.ref 0, .int v0, .int v1, .ref 232] (I, L, R) 233 (.inl (some (.int (1))), (I', L', R'), 233) := by
  show x_Ev X mL_estimate 0 [some (.ref 0), some (.int v0), some (.int v1), some (.ref 232), none] [] ((I, L, R), 233, 0, 0) _
  refine f_aload_n (M := mL_estimate) 1 dL_estimate_0 rfl rfl ?_
  refine f_iconst (M := mL_estimate) 2 dL_estimate_1 ki_0 rfl ?_
  refine f_aload_n (M := mL_estimate) 3 dL_estimate_2 rfl rfl ?_
  refine f_iload_n (M := mL_estimate) 4 dL_estimate_3 rfl rfl ?_
  refine f_iload_n (M := mL_estimate) 5 dL_estimate_4 rfl rfl ?_
  exact e_cVX (M := mL_estimate) 2 12 dL_estimate_5 pa_10030 pb_10030 cc_10030 rfl rfl rfl rfl rfl (x_kk rfl) (x_kk rfl) rfl (h) (hx (M := mL_estimate) rfl hf_estimate_2 (hb_w (M := mL_estimate) dL_estimate_12 dL_estimate_14 dL_estimate_15 rfl ki_1) rfl (x_kk rfl) (x_kk rfl))
theorem hf_estimate_0 : x_hfind 0 5 (x_mo mL_estimate) (x_mh mL_estimate) = some 16 := by decide +kernel
theorem w_estimate_x0 {v0 v1 : Int32} {I' : Nat → Nat → Int32} {L' : Nat → Nat → Int64} {R' : Nat → Nat → Option Nat} (h : x_Cv X mX8_estimate [.ref 0, .int v0, .int v1] (I, L, R) 233 (.inr 0, (I', L', R'), 233)) : x_Cv X mL_estimate [.ref 0, .int v0, .int v1, .ref 232] (I, L, R) 233 (.inl (some (.int (2))), (I', L', R'), 233) := by
  show x_Ev X mL_estimate 0 [some (.ref 0), some (.int v0), some (.int v1), some (.ref 232), none] [] ((I, L, R), 233, 0, 0) _
  refine f_aload_n (M := mL_estimate) 1 dL_estimate_0 rfl rfl ?_
  refine f_iconst (M := mL_estimate) 2 dL_estimate_1 ki_0 rfl ?_
  refine f_aload_n (M := mL_estimate) 3 dL_estimate_2 rfl rfl ?_
  refine f_iload_n (M := mL_estimate) 4 dL_estimate_3 rfl rfl ?_
  refine f_iload_n (M := mL_estimate) 5 dL_estimate_4 rfl rfl ?_
  exact e_cVX (M := mL_estimate) 2 12 dL_estimate_5 pa_10030 pb_10030 cc_10030 rfl rfl rfl rfl rfl (x_kk rfl) (x_kk rfl) rfl (h) (hx (M := mL_estimate) rfl hf_estimate_0 (hb_w (M := mL_estimate) dL_estimate_16 dL_estimate_18 dL_estimate_19 rfl ki_2) rfl (x_kk rfl) (x_kk rfl))
theorem w_squaredError {v0 v1 : Int32} {v : Int64} {I' : Nat → Nat → Int32} {L' : Nat → Nat → Int64} {R' : Nat → Nat → Option Nat} (h : x_Cv X mX8_squaredError [.ref 0, .int v0, .int v1] (I, L, R) 233 (.inl (some (.long v)), (I', L', R'), 233)) : x_Cv X mL_squaredError [.ref 0, .int v0, .int v1, .ref 232] (I, L, R) 233 (.inl (some (.int (0))), (I', va_up L' 232 (va_up (L' 232) 0 (v)), R'), 233) := by
  show x_Ev X mL_squaredError 0 [some (.ref 0), some (.int v0), some (.int v1), some (.ref 232), none] [] ((I, L, R), 233, 0, 0) _
  refine f_aload_n (M := mL_squaredError) 1 dL_squaredError_0 rfl rfl ?_
  refine f_iconst (M := mL_squaredError) 2 dL_squaredError_1 ki_0 rfl ?_
  refine f_aload_n (M := mL_squaredError) 3 dL_squaredError_2 rfl rfl ?_
  refine f_iload_n (M := mL_squaredError) 4 dL_squaredError_3 rfl rfl ?_
  refine f_iload_n (M := mL_squaredError) 5 dL_squaredError_4 rfl rfl ?_
  refine e_cV (M := mL_squaredError) [_, _, _] 2 12 dL_squaredError_5 pa_10034 pb_10034 cc_10034 rfl rfl rfl rfl rfl (x_kk rfl) (x_kk rfl) rfl (h) rfl ?_
  refine e_lst (M := mL_squaredError) (w := 1) (j := 0) dL_squaredError_8 (x_kk rfl) rfl kn_0 (by omega) (by omega) ?_
  refine f_goto (M := mL_squaredError) 20 dL_squaredError_9 rfl ?_
  refine f_iconst (M := mL_squaredError) 21 dL_squaredError_20 ki_0 rfl ?_
  refine e_ri (M := mL_squaredError) dL_squaredError_21 rfl (x_kk rfl) (x_kk rfl) ?_
  rfl
theorem hf_squaredError_2 : x_hfind 2 5 (x_mo mL_squaredError) (x_mh mL_squaredError) = some 12 := by decide +kernel
theorem w_squaredError_x2 {v0 v1 : Int32} {I' : Nat → Nat → Int32} {L' : Nat → Nat → Int64} {R' : Nat → Nat → Option Nat} (h : x_Cv X mX8_squaredError [.ref 0, .int v0, .int v1] (I, L, R) 233 (.inr 2, (I', L', R'), 233)) : x_Cv X mL_squaredError [.ref 0, .int v0, .int v1, .ref 232] (I, L, R) 233 (.inl (some (.int (1))), (I', L', R'), 233) := by
  show x_Ev X mL_squaredError 0 [some (.ref 0), some (.int v0), some (.int v1), some (.ref 232), none] [] ((I, L, R), 233, 0, 0) _
  refine f_aload_n (M := mL_squaredError) 1 dL_squaredError_0 rfl rfl ?_
  refine f_iconst (M := mL_squaredError) 2 dL_squaredError_1 ki_0 rfl ?_
  refine f_aload_n (M := mL_squaredError) 3 dL_squaredError_2 rfl rfl ?_
  refine f_iload_n (M := mL_squaredError) 4 dL_squaredError_3 rfl rfl ?_
  refine f_iload_n (M := mL_squaredError) 5 dL_squaredError_4 rfl rfl ?_
  exact e_cVX (M := mL_squaredError) 2 12 dL_squaredError_5 pa_10034 pb_10034 cc_10034 rfl rfl rfl rfl rfl (x_kk rfl) (x_kk rfl) rfl (h) (hx (M := mL_squaredError) rfl hf_squaredError_2 (hb_w (M := mL_squaredError) dL_squaredError_12 dL_squaredError_14 dL_squaredError_15 rfl ki_1) rfl (x_kk rfl) (x_kk rfl))
theorem hf_squaredError_0 : x_hfind 0 5 (x_mo mL_squaredError) (x_mh mL_squaredError) = some 16 := by decide +kernel
theorem w_squaredError_x0 {v0 v1 : Int32} {I' : Nat → Nat → Int32} {L' : Nat → Nat → Int64} {R' : Nat → Nat → Option Nat} (h : x_Cv X mX8_squaredError [.ref 0, .int v0, .int v1] (I, L, R) 233 (.inr 0, (I', L', R'), 233)) : x_Cv X mL_squaredError [.ref 0, .int v0, .int v1, .ref 232] (I, L, R) 233 (.inl (some (.int (2))), (I', L', R'), 233) := by
  show x_Ev X mL_squaredError 0 [some (.ref 0), some (.int v0), some (.int v1), some (.ref 232), none] [] ((I, L, R), 233, 0, 0) _
  refine f_aload_n (M := mL_squaredError) 1 dL_squaredError_0 rfl rfl ?_
  refine f_iconst (M := mL_squaredError) 2 dL_squaredError_1 ki_0 rfl ?_
  refine f_aload_n (M := mL_squaredError) 3 dL_squaredError_2 rfl rfl ?_
  refine f_iload_n (M := mL_squaredError) 4 dL_squaredError_3 rfl rfl ?_
  refine f_iload_n (M := mL_squaredError) 5 dL_squaredError_4 rfl rfl ?_
  exact e_cVX (M := mL_squaredError) 2 12 dL_squaredError_5 pa_10034 pb_10034 cc_10034 rfl rfl rfl rfl rfl (x_kk rfl) (x_kk rfl) rfl (h) (hx (M := mL_squaredError) rfl hf_squaredError_0 (hb_w (M := mL_squaredError) dL_squaredError_16 dL_squaredError_18 dL_squaredError_19 rfl ki_2) rfl (x_kk rfl) (x_kk rfl))
theorem w_isAccurate_t {v0 v1 : Int32} {I' : Nat → Nat → Int32} {L' : Nat → Nat → Int64} {R' : Nat → Nat → Option Nat} (h : x_Cv X mX8_isAccurate [.ref 0, .int v0, .int v1] (I, L, R) 233 (.inl (some (.int 1)), (I', L', R'), 233)) : x_Cv X mL_isAccurate [.ref 0, .int v0, .int v1, .ref 232] (I, L, R) 233 (.inl (some (.int (0))), (I', va_up L' 232 (va_up (L' 232) 0 (1)), R'), 233) := by
  show x_Ev X mL_isAccurate 0 [some (.ref 0), some (.int v0), some (.int v1), some (.ref 232), none] [] ((I, L, R), 233, 0, 0) _
  refine f_aload_n (M := mL_isAccurate) 1 dL_isAccurate_0 rfl rfl ?_
  refine f_iconst (M := mL_isAccurate) 2 dL_isAccurate_1 ki_0 rfl ?_
  refine f_aload_n (M := mL_isAccurate) 3 dL_isAccurate_2 rfl rfl ?_
  refine f_iload_n (M := mL_isAccurate) 4 dL_isAccurate_3 rfl rfl ?_
  refine f_iload_n (M := mL_isAccurate) 5 dL_isAccurate_4 rfl rfl ?_
  refine e_cV (M := mL_isAccurate) [_, _, _] 3 18 dL_isAccurate_5 pa_10037 pb_10037 cc_10037 rfl rfl rfl rfl rfl (x_kk rfl) (x_kk rfl) rfl (h) rfl ?_
  refine e_if_eqF (M := mL_isAccurate) 15 dL_isAccurate_8 rfl (by decide) ?_
  refine f_lconst (M := mL_isAccurate) 12 dL_isAccurate_11 kl_1 rfl ?_
  refine f_goto (M := mL_isAccurate) 16 dL_isAccurate_12 rfl ?_
  refine e_lst (M := mL_isAccurate) (w := 1) (j := 0) dL_isAccurate_16 (x_kk rfl) rfl kn_0 (by omega) (by omega) ?_
  refine f_goto (M := mL_isAccurate) 32 dL_isAccurate_17 rfl ?_
  refine f_iconst (M := mL_isAccurate) 33 dL_isAccurate_32 ki_0 rfl ?_
  refine e_ri (M := mL_isAccurate) dL_isAccurate_33 rfl (x_kk rfl) (x_kk rfl) ?_
  rfl
theorem w_isAccurate_f {v0 v1 : Int32} {I' : Nat → Nat → Int32} {L' : Nat → Nat → Int64} {R' : Nat → Nat → Option Nat} (h : x_Cv X mX8_isAccurate [.ref 0, .int v0, .int v1] (I, L, R) 233 (.inl (some (.int 0)), (I', L', R'), 233)) : x_Cv X mL_isAccurate [.ref 0, .int v0, .int v1, .ref 232] (I, L, R) 233 (.inl (some (.int (0))), (I', va_up L' 232 (va_up (L' 232) 0 (0)), R'), 233) := by
  show x_Ev X mL_isAccurate 0 [some (.ref 0), some (.int v0), some (.int v1), some (.ref 232), none] [] ((I, L, R), 233, 0, 0) _
  refine f_aload_n (M := mL_isAccurate) 1 dL_isAccurate_0 rfl rfl ?_
  refine f_iconst (M := mL_isAccurate) 2 dL_isAccurate_1 ki_0 rfl ?_
  refine f_aload_n (M := mL_isAccurate) 3 dL_isAccurate_2 rfl rfl ?_
  refine f_iload_n (M := mL_isAccurate) 4 dL_isAccurate_3 rfl rfl ?_
  refine f_iload_n (M := mL_isAccurate) 5 dL_isAccurate_4 rfl rfl ?_
  refine e_cV (M := mL_isAccurate) [_, _, _] 3 18 dL_isAccurate_5 pa_10037 pb_10037 cc_10037 rfl rfl rfl rfl rfl (x_kk rfl) (x_kk rfl) rfl (h) rfl ?_
  refine e_if_eqT (M := mL_isAccurate) 15 dL_isAccurate_8 rfl rfl ?_
  refine f_lconst (M := mL_isAccurate) 16 dL_isAccurate_15 kl_0 rfl ?_
  refine e_lst (M := mL_isAccurate) (w := 1) (j := 0) dL_isAccurate_16 (x_kk rfl) rfl kn_0 (by omega) (by omega) ?_
  refine f_goto (M := mL_isAccurate) 32 dL_isAccurate_17 rfl ?_
  refine f_iconst (M := mL_isAccurate) 33 dL_isAccurate_32 ki_0 rfl ?_
  refine e_ri (M := mL_isAccurate) dL_isAccurate_33 rfl (x_kk rfl) (x_kk rfl) ?_
  rfl
theorem hf_isAccurate_2 : x_hfind 2 5 (x_mo mL_isAccurate) (x_mh mL_isAccurate) = some 20 := by decide +kernel
theorem w_isAccurate_x2 {v0 v1 : Int32} {I' : Nat → Nat → Int32} {L' : Nat → Nat → Int64} {R' : Nat → Nat → Option Nat} (h : x_Cv X mX8_isAccurate [.ref 0, .int v0, .int v1] (I, L, R) 233 (.inr 2, (I', L', R'), 233)) : x_Cv X mL_isAccurate [.ref 0, .int v0, .int v1, .ref 232] (I, L, R) 233 (.inl (some (.int (1))), (I', L', R'), 233) := by
  show x_Ev X mL_isAccurate 0 [some (.ref 0), some (.int v0), some (.int v1), some (.ref 232), none] [] ((I, L, R), 233, 0, 0) _
  refine f_aload_n (M := mL_isAccurate) 1 dL_isAccurate_0 rfl rfl ?_
  refine f_iconst (M := mL_isAccurate) 2 dL_isAccurate_1 ki_0 rfl ?_
  refine f_aload_n (M := mL_isAccurate) 3 dL_isAccurate_2 rfl rfl ?_
  refine f_iload_n (M := mL_isAccurate) 4 dL_isAccurate_3 rfl rfl ?_
  refine f_iload_n (M := mL_isAccurate) 5 dL_isAccurate_4 rfl rfl ?_
  exact e_cVX (M := mL_isAccurate) 3 18 dL_isAccurate_5 pa_10037 pb_10037 cc_10037 rfl rfl rfl rfl rfl (x_kk rfl) (x_kk rfl) rfl (h) (hx (M := mL_isAccurate) rfl hf_isAccurate_2 (hb_w (M := mL_isAccurate) dL_isAccurate_20 dL_isAccurate_22 dL_isAccurate_23 rfl ki_1) rfl (x_kk rfl) (x_kk rfl))
theorem hf_isAccurate_1 : x_hfind 1 5 (x_mo mL_isAccurate) (x_mh mL_isAccurate) = some 24 := by decide +kernel
theorem w_isAccurate_x1 {v0 v1 : Int32} {I' : Nat → Nat → Int32} {L' : Nat → Nat → Int64} {R' : Nat → Nat → Option Nat} (h : x_Cv X mX8_isAccurate [.ref 0, .int v0, .int v1] (I, L, R) 233 (.inr 1, (I', L', R'), 233)) : x_Cv X mL_isAccurate [.ref 0, .int v0, .int v1, .ref 232] (I, L, R) 233 (.inl (some (.int (2))), (I', L', R'), 233) := by
  show x_Ev X mL_isAccurate 0 [some (.ref 0), some (.int v0), some (.int v1), some (.ref 232), none] [] ((I, L, R), 233, 0, 0) _
  refine f_aload_n (M := mL_isAccurate) 1 dL_isAccurate_0 rfl rfl ?_
  refine f_iconst (M := mL_isAccurate) 2 dL_isAccurate_1 ki_0 rfl ?_
  refine f_aload_n (M := mL_isAccurate) 3 dL_isAccurate_2 rfl rfl ?_
  refine f_iload_n (M := mL_isAccurate) 4 dL_isAccurate_3 rfl rfl ?_
  refine f_iload_n (M := mL_isAccurate) 5 dL_isAccurate_4 rfl rfl ?_
  exact e_cVX (M := mL_isAccurate) 3 18 dL_isAccurate_5 pa_10037 pb_10037 cc_10037 rfl rfl rfl rfl rfl (x_kk rfl) (x_kk rfl) rfl (h) (hx (M := mL_isAccurate) rfl hf_isAccurate_1 (hb_w (M := mL_isAccurate) dL_isAccurate_24 dL_isAccurate_26 dL_isAccurate_27 rfl ki_2) rfl (x_kk rfl) (x_kk rfl))
theorem hf_isAccurate_0 : x_hfind 0 5 (x_mo mL_isAccurate) (x_mh mL_isAccurate) = some 28 := by decide +kernel
theorem w_isAccurate_x0 {v0 v1 : Int32} {I' : Nat → Nat → Int32} {L' : Nat → Nat → Int64} {R' : Nat → Nat → Option Nat} (h : x_Cv X mX8_isAccurate [.ref 0, .int v0, .int v1] (I, L, R) 233 (.inr 0, (I', L', R'), 233)) : x_Cv X mL_isAccurate [.ref 0, .int v0, .int v1, .ref 232] (I, L, R) 233 (.inl (some (.int (3))), (I', L', R'), 233) := by
  show x_Ev X mL_isAccurate 0 [some (.ref 0), some (.int v0), some (.int v1), some (.ref 232), none] [] ((I, L, R), 233, 0, 0) _
  refine f_aload_n (M := mL_isAccurate) 1 dL_isAccurate_0 rfl rfl ?_
  refine f_iconst (M := mL_isAccurate) 2 dL_isAccurate_1 ki_0 rfl ?_
  refine f_aload_n (M := mL_isAccurate) 3 dL_isAccurate_2 rfl rfl ?_
  refine f_iload_n (M := mL_isAccurate) 4 dL_isAccurate_3 rfl rfl ?_
  refine f_iload_n (M := mL_isAccurate) 5 dL_isAccurate_4 rfl rfl ?_
  exact e_cVX (M := mL_isAccurate) 3 18 dL_isAccurate_5 pa_10037 pb_10037 cc_10037 rfl rfl rfl rfl rfl (x_kk rfl) (x_kk rfl) rfl (h) (hx (M := mL_isAccurate) rfl hf_isAccurate_0 (hb_w (M := mL_isAccurate) dL_isAccurate_28 dL_isAccurate_30 dL_isAccurate_31 rfl ki_3) rfl (x_kk rfl) (x_kk rfl))
theorem w_neededPlots {v0 v1 : Int32} {v : Int32} {I' : Nat → Nat → Int32} {L' : Nat → Nat → Int64} {R' : Nat → Nat → Option Nat} (h : x_Cv X mX8_neededPlots [.ref 0, .int v0, .int v1] (I, L, R) 233 (.inl (some (.int v)), (I', L', R'), 233)) : x_Cv X mL_neededPlots [.ref 0, .int v0, .int v1, .ref 232] (I, L, R) 233 (.inl (some (.int (0))), (I', va_up L' 232 (va_up (L' 232) 0 (v.toInt64)), R'), 233) := by
  show x_Ev X mL_neededPlots 0 [some (.ref 0), some (.int v0), some (.int v1), some (.ref 232), none] [] ((I, L, R), 233, 0, 0) _
  refine f_aload_n (M := mL_neededPlots) 1 dL_neededPlots_0 rfl rfl ?_
  refine f_iconst (M := mL_neededPlots) 2 dL_neededPlots_1 ki_0 rfl ?_
  refine f_aload_n (M := mL_neededPlots) 3 dL_neededPlots_2 rfl rfl ?_
  refine f_iload_n (M := mL_neededPlots) 4 dL_neededPlots_3 rfl rfl ?_
  refine f_iload_n (M := mL_neededPlots) 5 dL_neededPlots_4 rfl rfl ?_
  refine e_cV (M := mL_neededPlots) [_, _, _] 3 18 dL_neededPlots_5 pa_10041 pb_10041 cc_10041 rfl rfl rfl rfl rfl (x_kk rfl) (x_kk rfl) rfl (h) rfl ?_
  refine f_i2l (M := mL_neededPlots) 9 dL_neededPlots_8 rfl ?_
  refine e_lst (M := mL_neededPlots) (w := 1) (j := 0) dL_neededPlots_9 (x_kk rfl) rfl kn_0 (by omega) (by omega) ?_
  refine f_goto (M := mL_neededPlots) 25 dL_neededPlots_10 rfl ?_
  refine f_iconst (M := mL_neededPlots) 26 dL_neededPlots_25 ki_0 rfl ?_
  refine e_ri (M := mL_neededPlots) dL_neededPlots_26 rfl (x_kk rfl) (x_kk rfl) ?_
  rfl
theorem hf_neededPlots_2 : x_hfind 2 5 (x_mo mL_neededPlots) (x_mh mL_neededPlots) = some 13 := by decide +kernel
theorem w_neededPlots_x2 {v0 v1 : Int32} {I' : Nat → Nat → Int32} {L' : Nat → Nat → Int64} {R' : Nat → Nat → Option Nat} (h : x_Cv X mX8_neededPlots [.ref 0, .int v0, .int v1] (I, L, R) 233 (.inr 2, (I', L', R'), 233)) : x_Cv X mL_neededPlots [.ref 0, .int v0, .int v1, .ref 232] (I, L, R) 233 (.inl (some (.int (1))), (I', L', R'), 233) := by
  show x_Ev X mL_neededPlots 0 [some (.ref 0), some (.int v0), some (.int v1), some (.ref 232), none] [] ((I, L, R), 233, 0, 0) _
  refine f_aload_n (M := mL_neededPlots) 1 dL_neededPlots_0 rfl rfl ?_
  refine f_iconst (M := mL_neededPlots) 2 dL_neededPlots_1 ki_0 rfl ?_
  refine f_aload_n (M := mL_neededPlots) 3 dL_neededPlots_2 rfl rfl ?_
  refine f_iload_n (M := mL_neededPlots) 4 dL_neededPlots_3 rfl rfl ?_
  refine f_iload_n (M := mL_neededPlots) 5 dL_neededPlots_4 rfl rfl ?_
  exact e_cVX (M := mL_neededPlots) 3 18 dL_neededPlots_5 pa_10041 pb_10041 cc_10041 rfl rfl rfl rfl rfl (x_kk rfl) (x_kk rfl) rfl (h) (hx (M := mL_neededPlots) rfl hf_neededPlots_2 (hb_w (M := mL_neededPlots) dL_neededPlots_13 dL_neededPlots_15 dL_neededPlots_16 rfl ki_1) rfl (x_kk rfl) (x_kk rfl))
theorem hf_neededPlots_1 : x_hfind 1 5 (x_mo mL_neededPlots) (x_mh mL_neededPlots) = some 17 := by decide +kernel
theorem w_neededPlots_x1 {v0 v1 : Int32} {I' : Nat → Nat → Int32} {L' : Nat → Nat → Int64} {R' : Nat → Nat → Option Nat} (h : x_Cv X mX8_neededPlots [.ref 0, .int v0, .int v1] (I, L, R) 233 (.inr 1, (I', L', R'), 233)) : x_Cv X mL_neededPlots [.ref 0, .int v0, .int v1, .ref 232] (I, L, R) 233 (.inl (some (.int (2))), (I', L', R'), 233) := by
  show x_Ev X mL_neededPlots 0 [some (.ref 0), some (.int v0), some (.int v1), some (.ref 232), none] [] ((I, L, R), 233, 0, 0) _
  refine f_aload_n (M := mL_neededPlots) 1 dL_neededPlots_0 rfl rfl ?_
  refine f_iconst (M := mL_neededPlots) 2 dL_neededPlots_1 ki_0 rfl ?_
  refine f_aload_n (M := mL_neededPlots) 3 dL_neededPlots_2 rfl rfl ?_
  refine f_iload_n (M := mL_neededPlots) 4 dL_neededPlots_3 rfl rfl ?_
  refine f_iload_n (M := mL_neededPlots) 5 dL_neededPlots_4 rfl rfl ?_
  exact e_cVX (M := mL_neededPlots) 3 18 dL_neededPlots_5 pa_10041 pb_10041 cc_10041 rfl rfl rfl rfl rfl (x_kk rfl) (x_kk rfl) rfl (h) (hx (M := mL_neededPlots) rfl hf_neededPlots_1 (hb_w (M := mL_neededPlots) dL_neededPlots_17 dL_neededPlots_19 dL_neededPlots_20 rfl ki_2) rfl (x_kk rfl) (x_kk rfl))
theorem hf_neededPlots_0 : x_hfind 0 5 (x_mo mL_neededPlots) (x_mh mL_neededPlots) = some 21 := by decide +kernel
theorem w_neededPlots_x0 {v0 v1 : Int32} {I' : Nat → Nat → Int32} {L' : Nat → Nat → Int64} {R' : Nat → Nat → Option Nat} (h : x_Cv X mX8_neededPlots [.ref 0, .int v0, .int v1] (I, L, R) 233 (.inr 0, (I', L', R'), 233)) : x_Cv X mL_neededPlots [.ref 0, .int v0, .int v1, .ref 232] (I, L, R) 233 (.inl (some (.int (3))), (I', L', R'), 233) := by
  show x_Ev X mL_neededPlots 0 [some (.ref 0), some (.int v0), some (.int v1), some (.ref 232), none] [] ((I, L, R), 233, 0, 0) _
  refine f_aload_n (M := mL_neededPlots) 1 dL_neededPlots_0 rfl rfl ?_
  refine f_iconst (M := mL_neededPlots) 2 dL_neededPlots_1 ki_0 rfl ?_
  refine f_aload_n (M := mL_neededPlots) 3 dL_neededPlots_2 rfl rfl ?_
  refine f_iload_n (M := mL_neededPlots) 4 dL_neededPlots_3 rfl rfl ?_
  refine f_iload_n (M := mL_neededPlots) 5 dL_neededPlots_4 rfl rfl ?_
  exact e_cVX (M := mL_neededPlots) 3 18 dL_neededPlots_5 pa_10041 pb_10041 cc_10041 rfl rfl rfl rfl rfl (x_kk rfl) (x_kk rfl) rfl (h) (hx (M := mL_neededPlots) rfl hf_neededPlots_0 (hb_w (M := mL_neededPlots) dL_neededPlots_21 dL_neededPlots_23 dL_neededPlots_24 rfl ki_3) rfl (x_kk rfl) (x_kk rfl))
theorem w_mostInfluentialPlot {v0 : Int32} {v : Int32} {I' : Nat → Nat → Int32} {L' : Nat → Nat → Int64} {R' : Nat → Nat → Option Nat} (h : x_Cv X mX8_mostInfluentialPlot [.ref 0, .int v0] (I, L, R) 233 (.inl (some (.int v)), (I', L', R'), 233)) : x_Cv X mL_mostInfluentialPlot [.ref 0, .int v0, .ref 232] (I, L, R) 233 (.inl (some (.int (0))), (I', va_up L' 232 (va_up (L' 232) 0 (v.toInt64)), R'), 233) := by
  show x_Ev X mL_mostInfluentialPlot 0 [some (.ref 0), some (.int v0), some (.ref 232), none] [] ((I, L, R), 233, 0, 0) _
  refine f_aload_n (M := mL_mostInfluentialPlot) 1 dL_mostInfluentialPlot_0 rfl rfl ?_
  refine f_iconst (M := mL_mostInfluentialPlot) 2 dL_mostInfluentialPlot_1 ki_0 rfl ?_
  refine f_aload_n (M := mL_mostInfluentialPlot) 3 dL_mostInfluentialPlot_2 rfl rfl ?_
  refine f_iload_n (M := mL_mostInfluentialPlot) 4 dL_mostInfluentialPlot_3 rfl rfl ?_
  refine e_cV (M := mL_mostInfluentialPlot) [_, _, _] 2 12 dL_mostInfluentialPlot_4 pa_10045 pb_10045 cc_10045 rfl rfl rfl rfl rfl (x_kk rfl) (x_kk rfl) rfl (h) rfl ?_
  refine f_i2l (M := mL_mostInfluentialPlot) 8 dL_mostInfluentialPlot_7 rfl ?_
  refine e_lst (M := mL_mostInfluentialPlot) (w := 1) (j := 0) dL_mostInfluentialPlot_8 (x_kk rfl) rfl kn_0 (by omega) (by omega) ?_
  refine f_goto (M := mL_mostInfluentialPlot) 18 dL_mostInfluentialPlot_9 rfl ?_
  refine f_iconst (M := mL_mostInfluentialPlot) 19 dL_mostInfluentialPlot_18 ki_0 rfl ?_
  refine e_ri (M := mL_mostInfluentialPlot) dL_mostInfluentialPlot_19 rfl (x_kk rfl) (x_kk rfl) ?_
  rfl
theorem hf_mostInfluentialPlot_2 : x_hfind 2 4 (x_mo mL_mostInfluentialPlot) (x_mh mL_mostInfluentialPlot) = some 12 := by decide +kernel
theorem w_mostInfluentialPlot_x2 {v0 : Int32} {I' : Nat → Nat → Int32} {L' : Nat → Nat → Int64} {R' : Nat → Nat → Option Nat} (h : x_Cv X mX8_mostInfluentialPlot [.ref 0, .int v0] (I, L, R) 233 (.inr 2, (I', L', R'), 233)) : x_Cv X mL_mostInfluentialPlot [.ref 0, .int v0, .ref 232] (I, L, R) 233 (.inl (some (.int (1))), (I', L', R'), 233) := by
  show x_Ev X mL_mostInfluentialPlot 0 [some (.ref 0), some (.int v0), some (.ref 232), none] [] ((I, L, R), 233, 0, 0) _
  refine f_aload_n (M := mL_mostInfluentialPlot) 1 dL_mostInfluentialPlot_0 rfl rfl ?_
  refine f_iconst (M := mL_mostInfluentialPlot) 2 dL_mostInfluentialPlot_1 ki_0 rfl ?_
  refine f_aload_n (M := mL_mostInfluentialPlot) 3 dL_mostInfluentialPlot_2 rfl rfl ?_
  refine f_iload_n (M := mL_mostInfluentialPlot) 4 dL_mostInfluentialPlot_3 rfl rfl ?_
  exact e_cVX (M := mL_mostInfluentialPlot) 2 12 dL_mostInfluentialPlot_4 pa_10045 pb_10045 cc_10045 rfl rfl rfl rfl rfl (x_kk rfl) (x_kk rfl) rfl (h) (hx (M := mL_mostInfluentialPlot) rfl hf_mostInfluentialPlot_2 (hb_n (M := mL_mostInfluentialPlot) dL_mostInfluentialPlot_12 dL_mostInfluentialPlot_13 dL_mostInfluentialPlot_14 rfl ki_1) rfl (x_kk rfl) (x_kk rfl))
theorem hf_mostInfluentialPlot_0 : x_hfind 0 4 (x_mo mL_mostInfluentialPlot) (x_mh mL_mostInfluentialPlot) = some 15 := by decide +kernel
theorem w_mostInfluentialPlot_x0 {v0 : Int32} {I' : Nat → Nat → Int32} {L' : Nat → Nat → Int64} {R' : Nat → Nat → Option Nat} (h : x_Cv X mX8_mostInfluentialPlot [.ref 0, .int v0] (I, L, R) 233 (.inr 0, (I', L', R'), 233)) : x_Cv X mL_mostInfluentialPlot [.ref 0, .int v0, .ref 232] (I, L, R) 233 (.inl (some (.int (2))), (I', L', R'), 233) := by
  show x_Ev X mL_mostInfluentialPlot 0 [some (.ref 0), some (.int v0), some (.ref 232), none] [] ((I, L, R), 233, 0, 0) _
  refine f_aload_n (M := mL_mostInfluentialPlot) 1 dL_mostInfluentialPlot_0 rfl rfl ?_
  refine f_iconst (M := mL_mostInfluentialPlot) 2 dL_mostInfluentialPlot_1 ki_0 rfl ?_
  refine f_aload_n (M := mL_mostInfluentialPlot) 3 dL_mostInfluentialPlot_2 rfl rfl ?_
  refine f_iload_n (M := mL_mostInfluentialPlot) 4 dL_mostInfluentialPlot_3 rfl rfl ?_
  exact e_cVX (M := mL_mostInfluentialPlot) 2 12 dL_mostInfluentialPlot_4 pa_10045 pb_10045 cc_10045 rfl rfl rfl rfl rfl (x_kk rfl) (x_kk rfl) rfl (h) (hx (M := mL_mostInfluentialPlot) rfl hf_mostInfluentialPlot_0 (hb_n (M := mL_mostInfluentialPlot) dL_mostInfluentialPlot_15 dL_mostInfluentialPlot_16 dL_mostInfluentialPlot_17 rfl ki_2) rfl (x_kk rfl) (x_kk rfl))
theorem w_advertise {v : Int32} {I' : Nat → Nat → Int32} {L' : Nat → Nat → Int64} {R' : Nat → Nat → Option Nat} (h : x_Cv X mX8_advertise [.ref 0] (I, L, R) 233 (.inl (some (.int v)), (I', L', R'), 233)) : x_Cv X mL_advertise [.ref 0, .ref 232] (I, L, R) 233 (.inl (some (.int (0))), (I', va_up L' 232 (va_up (L' 232) 0 (v.toInt64)), R'), 233) := by
  show x_Ev X mL_advertise 0 [some (.ref 0), some (.ref 232), none] [] ((I, L, R), 233, 0, 0) _
  refine f_aload_n (M := mL_advertise) 1 dL_advertise_0 rfl rfl ?_
  refine f_iconst (M := mL_advertise) 2 dL_advertise_1 ki_0 rfl ?_
  refine f_aload_n (M := mL_advertise) 3 dL_advertise_2 rfl rfl ?_
  refine e_cV (M := mL_advertise) [_, _, _] 1 6 dL_advertise_3 pa_10048 pb_10048 cc_10048 rfl rfl rfl rfl rfl (x_kk rfl) (x_kk rfl) rfl (h) rfl ?_
  refine f_i2l (M := mL_advertise) 7 dL_advertise_6 rfl ?_
  refine e_lst (M := mL_advertise) (w := 1) (j := 0) dL_advertise_7 (x_kk rfl) rfl kn_0 (by omega) (by omega) ?_
  refine f_goto (M := mL_advertise) 14 dL_advertise_8 rfl ?_
  refine f_iconst (M := mL_advertise) 15 dL_advertise_14 ki_0 rfl ?_
  refine e_ri (M := mL_advertise) dL_advertise_15 rfl (x_kk rfl) (x_kk rfl) ?_
  rfl
theorem hf_advertise_0 : x_hfind 0 3 (x_mo mL_advertise) (x_mh mL_advertise) = some 11 := by decide +kernel
theorem w_advertise_x0 {I' : Nat → Nat → Int32} {L' : Nat → Nat → Int64} {R' : Nat → Nat → Option Nat} (h : x_Cv X mX8_advertise [.ref 0] (I, L, R) 233 (.inr 0, (I', L', R'), 233)) : x_Cv X mL_advertise [.ref 0, .ref 232] (I, L, R) 233 (.inl (some (.int (1))), (I', L', R'), 233) := by
  show x_Ev X mL_advertise 0 [some (.ref 0), some (.ref 232), none] [] ((I, L, R), 233, 0, 0) _
  refine f_aload_n (M := mL_advertise) 1 dL_advertise_0 rfl rfl ?_
  refine f_iconst (M := mL_advertise) 2 dL_advertise_1 ki_0 rfl ?_
  refine f_aload_n (M := mL_advertise) 3 dL_advertise_2 rfl rfl ?_
  exact e_cVX (M := mL_advertise) 1 6 dL_advertise_3 pa_10048 pb_10048 cc_10048 rfl rfl rfl rfl rfl (x_kk rfl) (x_kk rfl) rfl (h) (hx (M := mL_advertise) rfl hf_advertise_0 (hb_n (M := mL_advertise) dL_advertise_11 dL_advertise_12 dL_advertise_13 rfl ki_1) rfl (x_kk rfl) (x_kk rfl))
theorem w_volume {v0 : Int32} {v : Int32} {I' : Nat → Nat → Int32} {L' : Nat → Nat → Int64} {R' : Nat → Nat → Option Nat} (h : x_Cv X mX8_volume [.ref 0, .int v0] (I, L, R) 233 (.inl (some (.int v)), (I', L', R'), 233)) : x_Cv X mL_volume [.ref 0, .int v0, .ref 232] (I, L, R) 233 (.inl (some (.int (0))), (I', va_up L' 232 (va_up (L' 232) 0 (v.toInt64)), R'), 233) := by
  show x_Ev X mL_volume 0 [some (.ref 0), some (.int v0), some (.ref 232), none] [] ((I, L, R), 233, 0, 0) _
  refine f_aload_n (M := mL_volume) 1 dL_volume_0 rfl rfl ?_
  refine f_iconst (M := mL_volume) 2 dL_volume_1 ki_0 rfl ?_
  refine f_aload_n (M := mL_volume) 3 dL_volume_2 rfl rfl ?_
  refine f_iload_n (M := mL_volume) 4 dL_volume_3 rfl rfl ?_
  refine e_cV (M := mL_volume) [_, _, _] 2 12 dL_volume_4 pa_10052 pb_10052 cc_10052 rfl rfl rfl rfl rfl (x_kk rfl) (x_kk rfl) rfl (h) rfl ?_
  refine f_i2l (M := mL_volume) 8 dL_volume_7 rfl ?_
  refine e_lst (M := mL_volume) (w := 1) (j := 0) dL_volume_8 (x_kk rfl) rfl kn_0 (by omega) (by omega) ?_
  refine f_goto (M := mL_volume) 18 dL_volume_9 rfl ?_
  refine f_iconst (M := mL_volume) 19 dL_volume_18 ki_0 rfl ?_
  refine e_ri (M := mL_volume) dL_volume_19 rfl (x_kk rfl) (x_kk rfl) ?_
  rfl
theorem hf_volume_2 : x_hfind 2 4 (x_mo mL_volume) (x_mh mL_volume) = some 12 := by decide +kernel
theorem w_volume_x2 {v0 : Int32} {I' : Nat → Nat → Int32} {L' : Nat → Nat → Int64} {R' : Nat → Nat → Option Nat} (h : x_Cv X mX8_volume [.ref 0, .int v0] (I, L, R) 233 (.inr 2, (I', L', R'), 233)) : x_Cv X mL_volume [.ref 0, .int v0, .ref 232] (I, L, R) 233 (.inl (some (.int (1))), (I', L', R'), 233) := by
  show x_Ev X mL_volume 0 [some (.ref 0), some (.int v0), some (.ref 232), none] [] ((I, L, R), 233, 0, 0) _
  refine f_aload_n (M := mL_volume) 1 dL_volume_0 rfl rfl ?_
  refine f_iconst (M := mL_volume) 2 dL_volume_1 ki_0 rfl ?_
  refine f_aload_n (M := mL_volume) 3 dL_volume_2 rfl rfl ?_
  refine f_iload_n (M := mL_volume) 4 dL_volume_3 rfl rfl ?_
  exact e_cVX (M := mL_volume) 2 12 dL_volume_4 pa_10052 pb_10052 cc_10052 rfl rfl rfl rfl rfl (x_kk rfl) (x_kk rfl) rfl (h) (hx (M := mL_volume) rfl hf_volume_2 (hb_n (M := mL_volume) dL_volume_12 dL_volume_13 dL_volume_14 rfl ki_1) rfl (x_kk rfl) (x_kk rfl))
theorem hf_volume_0 : x_hfind 0 4 (x_mo mL_volume) (x_mh mL_volume) = some 15 := by decide +kernel
theorem w_volume_x0 {v0 : Int32} {I' : Nat → Nat → Int32} {L' : Nat → Nat → Int64} {R' : Nat → Nat → Option Nat} (h : x_Cv X mX8_volume [.ref 0, .int v0] (I, L, R) 233 (.inr 0, (I', L', R'), 233)) : x_Cv X mL_volume [.ref 0, .int v0, .ref 232] (I, L, R) 233 (.inl (some (.int (2))), (I', L', R'), 233) := by
  show x_Ev X mL_volume 0 [some (.ref 0), some (.int v0), some (.ref 232), none] [] ((I, L, R), 233, 0, 0) _
  refine f_aload_n (M := mL_volume) 1 dL_volume_0 rfl rfl ?_
  refine f_iconst (M := mL_volume) 2 dL_volume_1 ki_0 rfl ?_
  refine f_aload_n (M := mL_volume) 3 dL_volume_2 rfl rfl ?_
  refine f_iload_n (M := mL_volume) 4 dL_volume_3 rfl rfl ?_
  exact e_cVX (M := mL_volume) 2 12 dL_volume_4 pa_10052 pb_10052 cc_10052 rfl rfl rfl rfl rfl (x_kk rfl) (x_kk rfl) rfl (h) (hx (M := mL_volume) rfl hf_volume_0 (hb_n (M := mL_volume) dL_volume_15 dL_volume_16 dL_volume_17 rfl ki_2) rfl (x_kk rfl) (x_kk rfl))
theorem w_offer {v0 v1 v2 : Int32} {v : Int32} {I' : Nat → Nat → Int32} {L' : Nat → Nat → Int64} {R' : Nat → Nat → Option Nat} (h : x_Cv X mX8_offer [.ref 0, .int v0, .int v1, .int v2] (I, L, R) 233 (.inl (some (.int v)), (I', L', R'), 233)) : x_Cv X mL_offer [.ref 0, .int v0, .int v1, .int v2, .ref 232] (I, L, R) 233 (.inl (some (.int (0))), (I', va_up L' 232 (va_up (L' 232) 0 (v.toInt64)), R'), 233) := by
  show x_Ev X mL_offer 0 [some (.ref 0), some (.int v0), some (.int v1), some (.int v2), some (.ref 232), none] [] ((I, L, R), 233, 0, 0) _
  refine f_aload (M := mL_offer) 2 dL_offer_0 rfl rfl ?_
  refine f_iconst (M := mL_offer) 3 dL_offer_2 ki_0 rfl ?_
  refine f_aload_n (M := mL_offer) 4 dL_offer_3 rfl rfl ?_
  refine f_iload_n (M := mL_offer) 5 dL_offer_4 rfl rfl ?_
  refine f_iload_n (M := mL_offer) 6 dL_offer_5 rfl rfl ?_
  refine f_iload_n (M := mL_offer) 7 dL_offer_6 rfl rfl ?_
  refine e_cV (M := mL_offer) [_, _, _] 3 18 dL_offer_7 pa_10055 pb_10055 cc_10055 rfl rfl rfl rfl rfl (x_kk rfl) (x_kk rfl) rfl (h) rfl ?_
  refine f_i2l (M := mL_offer) 11 dL_offer_10 rfl ?_
  refine e_lst (M := mL_offer) (w := 1) (j := 0) dL_offer_11 (x_kk rfl) rfl kn_0 (by omega) (by omega) ?_
  refine f_goto (M := mL_offer) 27 dL_offer_12 rfl ?_
  refine f_iconst (M := mL_offer) 28 dL_offer_27 ki_0 rfl ?_
  refine e_ri (M := mL_offer) dL_offer_28 rfl (x_kk rfl) (x_kk rfl) ?_
  rfl
theorem hf_offer_2 : x_hfind 2 7 (x_mo mL_offer) (x_mh mL_offer) = some 15 := by decide +kernel
theorem w_offer_x2 {v0 v1 v2 : Int32} {I' : Nat → Nat → Int32} {L' : Nat → Nat → Int64} {R' : Nat → Nat → Option Nat} (h : x_Cv X mX8_offer [.ref 0, .int v0, .int v1, .int v2] (I, L, R) 233 (.inr 2, (I', L', R'), 233)) : x_Cv X mL_offer [.ref 0, .int v0, .int v1, .int v2, .ref 232] (I, L, R) 233 (.inl (some (.int (1))), (I', L', R'), 233) := by
  show x_Ev X mL_offer 0 [some (.ref 0), some (.int v0), some (.int v1), some (.int v2), some (.ref 232), none] [] ((I, L, R), 233, 0, 0) _
  refine f_aload (M := mL_offer) 2 dL_offer_0 rfl rfl ?_
  refine f_iconst (M := mL_offer) 3 dL_offer_2 ki_0 rfl ?_
  refine f_aload_n (M := mL_offer) 4 dL_offer_3 rfl rfl ?_
  refine f_iload_n (M := mL_offer) 5 dL_offer_4 rfl rfl ?_
  refine f_iload_n (M := mL_offer) 6 dL_offer_5 rfl rfl ?_
  refine f_iload_n (M := mL_offer) 7 dL_offer_6 rfl rfl ?_
  exact e_cVX (M := mL_offer) 3 18 dL_offer_7 pa_10055 pb_10055 cc_10055 rfl rfl rfl rfl rfl (x_kk rfl) (x_kk rfl) rfl (h) (hx (M := mL_offer) rfl hf_offer_2 (hb_w (M := mL_offer) dL_offer_15 dL_offer_17 dL_offer_18 rfl ki_1) rfl (x_kk rfl) (x_kk rfl))
theorem hf_offer_1 : x_hfind 1 7 (x_mo mL_offer) (x_mh mL_offer) = some 19 := by decide +kernel
theorem w_offer_x1 {v0 v1 v2 : Int32} {I' : Nat → Nat → Int32} {L' : Nat → Nat → Int64} {R' : Nat → Nat → Option Nat} (h : x_Cv X mX8_offer [.ref 0, .int v0, .int v1, .int v2] (I, L, R) 233 (.inr 1, (I', L', R'), 233)) : x_Cv X mL_offer [.ref 0, .int v0, .int v1, .int v2, .ref 232] (I, L, R) 233 (.inl (some (.int (2))), (I', L', R'), 233) := by
  show x_Ev X mL_offer 0 [some (.ref 0), some (.int v0), some (.int v1), some (.int v2), some (.ref 232), none] [] ((I, L, R), 233, 0, 0) _
  refine f_aload (M := mL_offer) 2 dL_offer_0 rfl rfl ?_
  refine f_iconst (M := mL_offer) 3 dL_offer_2 ki_0 rfl ?_
  refine f_aload_n (M := mL_offer) 4 dL_offer_3 rfl rfl ?_
  refine f_iload_n (M := mL_offer) 5 dL_offer_4 rfl rfl ?_
  refine f_iload_n (M := mL_offer) 6 dL_offer_5 rfl rfl ?_
  refine f_iload_n (M := mL_offer) 7 dL_offer_6 rfl rfl ?_
  exact e_cVX (M := mL_offer) 3 18 dL_offer_7 pa_10055 pb_10055 cc_10055 rfl rfl rfl rfl rfl (x_kk rfl) (x_kk rfl) rfl (h) (hx (M := mL_offer) rfl hf_offer_1 (hb_w (M := mL_offer) dL_offer_19 dL_offer_21 dL_offer_22 rfl ki_2) rfl (x_kk rfl) (x_kk rfl))
theorem hf_offer_0 : x_hfind 0 7 (x_mo mL_offer) (x_mh mL_offer) = some 23 := by decide +kernel
theorem w_offer_x0 {v0 v1 v2 : Int32} {I' : Nat → Nat → Int32} {L' : Nat → Nat → Int64} {R' : Nat → Nat → Option Nat} (h : x_Cv X mX8_offer [.ref 0, .int v0, .int v1, .int v2] (I, L, R) 233 (.inr 0, (I', L', R'), 233)) : x_Cv X mL_offer [.ref 0, .int v0, .int v1, .int v2, .ref 232] (I, L, R) 233 (.inl (some (.int (3))), (I', L', R'), 233) := by
  show x_Ev X mL_offer 0 [some (.ref 0), some (.int v0), some (.int v1), some (.int v2), some (.ref 232), none] [] ((I, L, R), 233, 0, 0) _
  refine f_aload (M := mL_offer) 2 dL_offer_0 rfl rfl ?_
  refine f_iconst (M := mL_offer) 3 dL_offer_2 ki_0 rfl ?_
  refine f_aload_n (M := mL_offer) 4 dL_offer_3 rfl rfl ?_
  refine f_iload_n (M := mL_offer) 5 dL_offer_4 rfl rfl ?_
  refine f_iload_n (M := mL_offer) 6 dL_offer_5 rfl rfl ?_
  refine f_iload_n (M := mL_offer) 7 dL_offer_6 rfl rfl ?_
  exact e_cVX (M := mL_offer) 3 18 dL_offer_7 pa_10055 pb_10055 cc_10055 rfl rfl rfl rfl rfl (x_kk rfl) (x_kk rfl) rfl (h) (hx (M := mL_offer) rfl hf_offer_0 (hb_w (M := mL_offer) dL_offer_23 dL_offer_25 dL_offer_26 rfl ki_3) rfl (x_kk rfl) (x_kk rfl))
theorem w_setDeposit {v0 v1 : Int32} {v : Int32} {I' : Nat → Nat → Int32} {L' : Nat → Nat → Int64} {R' : Nat → Nat → Option Nat} (h : x_Cv X mX8_setDeposit [.ref 0, .int v0, .int v1] (I, L, R) 233 (.inl (some (.int v)), (I', L', R'), 233)) : x_Cv X mL_setDeposit [.ref 0, .int v0, .int v1, .ref 232] (I, L, R) 233 (.inl (some (.int (0))), (I', va_up L' 232 (va_up (L' 232) 0 (v.toInt64)), R'), 233) := by
  show x_Ev X mL_setDeposit 0 [some (.ref 0), some (.int v0), some (.int v1), some (.ref 232), none] [] ((I, L, R), 233, 0, 0) _
  refine f_aload_n (M := mL_setDeposit) 1 dL_setDeposit_0 rfl rfl ?_
  refine f_iconst (M := mL_setDeposit) 2 dL_setDeposit_1 ki_0 rfl ?_
  refine f_aload_n (M := mL_setDeposit) 3 dL_setDeposit_2 rfl rfl ?_
  refine f_iload_n (M := mL_setDeposit) 4 dL_setDeposit_3 rfl rfl ?_
  refine f_iload_n (M := mL_setDeposit) 5 dL_setDeposit_4 rfl rfl ?_
  refine e_cV (M := mL_setDeposit) [_, _, _] 3 18 dL_setDeposit_5 pa_10059 pb_10059 cc_10059 rfl rfl rfl rfl rfl (x_kk rfl) (x_kk rfl) rfl (h) rfl ?_
  refine f_i2l (M := mL_setDeposit) 9 dL_setDeposit_8 rfl ?_
  refine e_lst (M := mL_setDeposit) (w := 1) (j := 0) dL_setDeposit_9 (x_kk rfl) rfl kn_0 (by omega) (by omega) ?_
  refine f_goto (M := mL_setDeposit) 25 dL_setDeposit_10 rfl ?_
  refine f_iconst (M := mL_setDeposit) 26 dL_setDeposit_25 ki_0 rfl ?_
  refine e_ri (M := mL_setDeposit) dL_setDeposit_26 rfl (x_kk rfl) (x_kk rfl) ?_
  rfl
theorem hf_setDeposit_2 : x_hfind 2 5 (x_mo mL_setDeposit) (x_mh mL_setDeposit) = some 13 := by decide +kernel
theorem w_setDeposit_x2 {v0 v1 : Int32} {I' : Nat → Nat → Int32} {L' : Nat → Nat → Int64} {R' : Nat → Nat → Option Nat} (h : x_Cv X mX8_setDeposit [.ref 0, .int v0, .int v1] (I, L, R) 233 (.inr 2, (I', L', R'), 233)) : x_Cv X mL_setDeposit [.ref 0, .int v0, .int v1, .ref 232] (I, L, R) 233 (.inl (some (.int (1))), (I', L', R'), 233) := by
  show x_Ev X mL_setDeposit 0 [some (.ref 0), some (.int v0), some (.int v1), some (.ref 232), none] [] ((I, L, R), 233, 0, 0) _
  refine f_aload_n (M := mL_setDeposit) 1 dL_setDeposit_0 rfl rfl ?_
  refine f_iconst (M := mL_setDeposit) 2 dL_setDeposit_1 ki_0 rfl ?_
  refine f_aload_n (M := mL_setDeposit) 3 dL_setDeposit_2 rfl rfl ?_
  refine f_iload_n (M := mL_setDeposit) 4 dL_setDeposit_3 rfl rfl ?_
  refine f_iload_n (M := mL_setDeposit) 5 dL_setDeposit_4 rfl rfl ?_
  exact e_cVX (M := mL_setDeposit) 3 18 dL_setDeposit_5 pa_10059 pb_10059 cc_10059 rfl rfl rfl rfl rfl (x_kk rfl) (x_kk rfl) rfl (h) (hx (M := mL_setDeposit) rfl hf_setDeposit_2 (hb_w (M := mL_setDeposit) dL_setDeposit_13 dL_setDeposit_15 dL_setDeposit_16 rfl ki_1) rfl (x_kk rfl) (x_kk rfl))
theorem hf_setDeposit_1 : x_hfind 1 5 (x_mo mL_setDeposit) (x_mh mL_setDeposit) = some 17 := by decide +kernel
theorem w_setDeposit_x1 {v0 v1 : Int32} {I' : Nat → Nat → Int32} {L' : Nat → Nat → Int64} {R' : Nat → Nat → Option Nat} (h : x_Cv X mX8_setDeposit [.ref 0, .int v0, .int v1] (I, L, R) 233 (.inr 1, (I', L', R'), 233)) : x_Cv X mL_setDeposit [.ref 0, .int v0, .int v1, .ref 232] (I, L, R) 233 (.inl (some (.int (2))), (I', L', R'), 233) := by
  show x_Ev X mL_setDeposit 0 [some (.ref 0), some (.int v0), some (.int v1), some (.ref 232), none] [] ((I, L, R), 233, 0, 0) _
  refine f_aload_n (M := mL_setDeposit) 1 dL_setDeposit_0 rfl rfl ?_
  refine f_iconst (M := mL_setDeposit) 2 dL_setDeposit_1 ki_0 rfl ?_
  refine f_aload_n (M := mL_setDeposit) 3 dL_setDeposit_2 rfl rfl ?_
  refine f_iload_n (M := mL_setDeposit) 4 dL_setDeposit_3 rfl rfl ?_
  refine f_iload_n (M := mL_setDeposit) 5 dL_setDeposit_4 rfl rfl ?_
  exact e_cVX (M := mL_setDeposit) 3 18 dL_setDeposit_5 pa_10059 pb_10059 cc_10059 rfl rfl rfl rfl rfl (x_kk rfl) (x_kk rfl) rfl (h) (hx (M := mL_setDeposit) rfl hf_setDeposit_1 (hb_w (M := mL_setDeposit) dL_setDeposit_17 dL_setDeposit_19 dL_setDeposit_20 rfl ki_2) rfl (x_kk rfl) (x_kk rfl))
theorem hf_setDeposit_0 : x_hfind 0 5 (x_mo mL_setDeposit) (x_mh mL_setDeposit) = some 21 := by decide +kernel
theorem w_setDeposit_x0 {v0 v1 : Int32} {I' : Nat → Nat → Int32} {L' : Nat → Nat → Int64} {R' : Nat → Nat → Option Nat} (h : x_Cv X mX8_setDeposit [.ref 0, .int v0, .int v1] (I, L, R) 233 (.inr 0, (I', L', R'), 233)) : x_Cv X mL_setDeposit [.ref 0, .int v0, .int v1, .ref 232] (I, L, R) 233 (.inl (some (.int (3))), (I', L', R'), 233) := by
  show x_Ev X mL_setDeposit 0 [some (.ref 0), some (.int v0), some (.int v1), some (.ref 232), none] [] ((I, L, R), 233, 0, 0) _
  refine f_aload_n (M := mL_setDeposit) 1 dL_setDeposit_0 rfl rfl ?_
  refine f_iconst (M := mL_setDeposit) 2 dL_setDeposit_1 ki_0 rfl ?_
  refine f_aload_n (M := mL_setDeposit) 3 dL_setDeposit_2 rfl rfl ?_
  refine f_iload_n (M := mL_setDeposit) 4 dL_setDeposit_3 rfl rfl ?_
  refine f_iload_n (M := mL_setDeposit) 5 dL_setDeposit_4 rfl rfl ?_
  exact e_cVX (M := mL_setDeposit) 3 18 dL_setDeposit_5 pa_10059 pb_10059 cc_10059 rfl rfl rfl rfl rfl (x_kk rfl) (x_kk rfl) rfl (h) (hx (M := mL_setDeposit) rfl hf_setDeposit_0 (hb_w (M := mL_setDeposit) dL_setDeposit_21 dL_setDeposit_23 dL_setDeposit_24 rfl ki_3) rfl (x_kk rfl) (x_kk rfl))
theorem w_seal {v0 : Int32} {v : Int32} {I' : Nat → Nat → Int32} {L' : Nat → Nat → Int64} {R' : Nat → Nat → Option Nat} (h : x_Cv X mX8_seal [.ref 0, .int v0] (I, L, R) 233 (.inl (some (.int v)), (I', L', R'), 233)) : x_Cv X mL_seal [.ref 0, .int v0, .ref 232] (I, L, R) 233 (.inl (some (.int (0))), (I', va_up L' 232 (va_up (L' 232) 0 (v.toInt64)), R'), 233) := by
  show x_Ev X mL_seal 0 [some (.ref 0), some (.int v0), some (.ref 232), none] [] ((I, L, R), 233, 0, 0) _
  refine f_aload_n (M := mL_seal) 1 dL_seal_0 rfl rfl ?_
  refine f_iconst (M := mL_seal) 2 dL_seal_1 ki_0 rfl ?_
  refine f_aload_n (M := mL_seal) 3 dL_seal_2 rfl rfl ?_
  refine f_iload_n (M := mL_seal) 4 dL_seal_3 rfl rfl ?_
  refine e_cV (M := mL_seal) [_, _, _] 2 12 dL_seal_4 pa_10062 pb_10062 cc_10062 rfl rfl rfl rfl rfl (x_kk rfl) (x_kk rfl) rfl (h) rfl ?_
  refine f_i2l (M := mL_seal) 8 dL_seal_7 rfl ?_
  refine e_lst (M := mL_seal) (w := 1) (j := 0) dL_seal_8 (x_kk rfl) rfl kn_0 (by omega) (by omega) ?_
  refine f_goto (M := mL_seal) 18 dL_seal_9 rfl ?_
  refine f_iconst (M := mL_seal) 19 dL_seal_18 ki_0 rfl ?_
  refine e_ri (M := mL_seal) dL_seal_19 rfl (x_kk rfl) (x_kk rfl) ?_
  rfl
theorem hf_seal_2 : x_hfind 2 4 (x_mo mL_seal) (x_mh mL_seal) = some 12 := by decide +kernel
theorem w_seal_x2 {v0 : Int32} {I' : Nat → Nat → Int32} {L' : Nat → Nat → Int64} {R' : Nat → Nat → Option Nat} (h : x_Cv X mX8_seal [.ref 0, .int v0] (I, L, R) 233 (.inr 2, (I', L', R'), 233)) : x_Cv X mL_seal [.ref 0, .int v0, .ref 232] (I, L, R) 233 (.inl (some (.int (1))), (I', L', R'), 233) := by
  show x_Ev X mL_seal 0 [some (.ref 0), some (.int v0), some (.ref 232), none] [] ((I, L, R), 233, 0, 0) _
  refine f_aload_n (M := mL_seal) 1 dL_seal_0 rfl rfl ?_
  refine f_iconst (M := mL_seal) 2 dL_seal_1 ki_0 rfl ?_
  refine f_aload_n (M := mL_seal) 3 dL_seal_2 rfl rfl ?_
  refine f_iload_n (M := mL_seal) 4 dL_seal_3 rfl rfl ?_
  exact e_cVX (M := mL_seal) 2 12 dL_seal_4 pa_10062 pb_10062 cc_10062 rfl rfl rfl rfl rfl (x_kk rfl) (x_kk rfl) rfl (h) (hx (M := mL_seal) rfl hf_seal_2 (hb_n (M := mL_seal) dL_seal_12 dL_seal_13 dL_seal_14 rfl ki_1) rfl (x_kk rfl) (x_kk rfl))
theorem hf_seal_0 : x_hfind 0 4 (x_mo mL_seal) (x_mh mL_seal) = some 15 := by decide +kernel
theorem w_seal_x0 {v0 : Int32} {I' : Nat → Nat → Int32} {L' : Nat → Nat → Int64} {R' : Nat → Nat → Option Nat} (h : x_Cv X mX8_seal [.ref 0, .int v0] (I, L, R) 233 (.inr 0, (I', L', R'), 233)) : x_Cv X mL_seal [.ref 0, .int v0, .ref 232] (I, L, R) 233 (.inl (some (.int (2))), (I', L', R'), 233) := by
  show x_Ev X mL_seal 0 [some (.ref 0), some (.int v0), some (.ref 232), none] [] ((I, L, R), 233, 0, 0) _
  refine f_aload_n (M := mL_seal) 1 dL_seal_0 rfl rfl ?_
  refine f_iconst (M := mL_seal) 2 dL_seal_1 ki_0 rfl ?_
  refine f_aload_n (M := mL_seal) 3 dL_seal_2 rfl rfl ?_
  refine f_iload_n (M := mL_seal) 4 dL_seal_3 rfl rfl ?_
  exact e_cVX (M := mL_seal) 2 12 dL_seal_4 pa_10062 pb_10062 cc_10062 rfl rfl rfl rfl rfl (x_kk rfl) (x_kk rfl) rfl (h) (hx (M := mL_seal) rfl hf_seal_0 (hb_n (M := mL_seal) dL_seal_15 dL_seal_16 dL_seal_17 rfl ki_2) rfl (x_kk rfl) (x_kk rfl))
theorem w_withdraw {v0 : Int32} {I' : Nat → Nat → Int32} {L' : Nat → Nat → Int64} {R' : Nat → Nat → Option Nat} (h : x_Cv X mX8_withdraw [.ref 0, .int v0] (I, L, R) 233 (.inl (none), (I', L', R'), 233)) : x_Cv X mL_withdraw [.ref 0, .int v0] (I, L, R) 233 (.inl (some (.int (0))), (I', L', R'), 233) := by
  show x_Ev X mL_withdraw 0 [some (.ref 0), some (.int v0), none] [] ((I, L, R), 233, 0, 0) _
  refine f_aload_n (M := mL_withdraw) 1 dL_withdraw_0 rfl rfl ?_
  refine f_iload_n (M := mL_withdraw) 2 dL_withdraw_1 rfl rfl ?_
  refine e_cV (M := mL_withdraw) [] 2 12 dL_withdraw_2 pa_10065 pb_10065 cc_10065 rfl rfl rfl rfl rfl (x_kk rfl) (x_kk rfl) rfl (h) rfl ?_
  refine f_goto (M := mL_withdraw) 14 dL_withdraw_5 rfl ?_
  refine f_iconst (M := mL_withdraw) 15 dL_withdraw_14 ki_0 rfl ?_
  refine e_ri (M := mL_withdraw) dL_withdraw_15 rfl (x_kk rfl) (x_kk rfl) ?_
  rfl
theorem hf_withdraw_2 : x_hfind 2 2 (x_mo mL_withdraw) (x_mh mL_withdraw) = some 8 := by decide +kernel
theorem w_withdraw_x2 {v0 : Int32} {I' : Nat → Nat → Int32} {L' : Nat → Nat → Int64} {R' : Nat → Nat → Option Nat} (h : x_Cv X mX8_withdraw [.ref 0, .int v0] (I, L, R) 233 (.inr 2, (I', L', R'), 233)) : x_Cv X mL_withdraw [.ref 0, .int v0] (I, L, R) 233 (.inl (some (.int (1))), (I', L', R'), 233) := by
  show x_Ev X mL_withdraw 0 [some (.ref 0), some (.int v0), none] [] ((I, L, R), 233, 0, 0) _
  refine f_aload_n (M := mL_withdraw) 1 dL_withdraw_0 rfl rfl ?_
  refine f_iload_n (M := mL_withdraw) 2 dL_withdraw_1 rfl rfl ?_
  exact e_cVX (M := mL_withdraw) 2 12 dL_withdraw_2 pa_10065 pb_10065 cc_10065 rfl rfl rfl rfl rfl (x_kk rfl) (x_kk rfl) rfl (h) (hx (M := mL_withdraw) rfl hf_withdraw_2 (hb_n (M := mL_withdraw) dL_withdraw_8 dL_withdraw_9 dL_withdraw_10 rfl ki_1) rfl (x_kk rfl) (x_kk rfl))
theorem hf_withdraw_0 : x_hfind 0 2 (x_mo mL_withdraw) (x_mh mL_withdraw) = some 11 := by decide +kernel
theorem w_withdraw_x0 {v0 : Int32} {I' : Nat → Nat → Int32} {L' : Nat → Nat → Int64} {R' : Nat → Nat → Option Nat} (h : x_Cv X mX8_withdraw [.ref 0, .int v0] (I, L, R) 233 (.inr 0, (I', L', R'), 233)) : x_Cv X mL_withdraw [.ref 0, .int v0] (I, L, R) 233 (.inl (some (.int (2))), (I', L', R'), 233) := by
  show x_Ev X mL_withdraw 0 [some (.ref 0), some (.int v0), none] [] ((I, L, R), 233, 0, 0) _
  refine f_aload_n (M := mL_withdraw) 1 dL_withdraw_0 rfl rfl ?_
  refine f_iload_n (M := mL_withdraw) 2 dL_withdraw_1 rfl rfl ?_
  exact e_cVX (M := mL_withdraw) 2 12 dL_withdraw_2 pa_10065 pb_10065 cc_10065 rfl rfl rfl rfl rfl (x_kk rfl) (x_kk rfl) rfl (h) (hx (M := mL_withdraw) rfl hf_withdraw_0 (hb_n (M := mL_withdraw) dL_withdraw_11 dL_withdraw_12 dL_withdraw_13 rfl ki_2) rfl (x_kk rfl) (x_kk rfl))
theorem w_open {v : Int32} {I' : Nat → Nat → Int32} {L' : Nat → Nat → Int64} {R' : Nat → Nat → Option Nat} (h : x_Cv X mX8_open [.ref 0] (I, L, R) 233 (.inl (some (.int v)), (I', L', R'), 233)) : x_Cv X mL_open [.ref 0, .ref 232] (I, L, R) 233 (.inl (some (.int (0))), (I', va_up L' 232 (va_up (L' 232) 0 (v.toInt64)), R'), 233) := by
  show x_Ev X mL_open 0 [some (.ref 0), some (.ref 232), none] [] ((I, L, R), 233, 0, 0) _
  refine f_aload_n (M := mL_open) 1 dL_open_0 rfl rfl ?_
  refine f_iconst (M := mL_open) 2 dL_open_1 ki_0 rfl ?_
  refine f_aload_n (M := mL_open) 3 dL_open_2 rfl rfl ?_
  refine e_cV (M := mL_open) [_, _, _] 1 6 dL_open_3 pa_10069 pb_10069 cc_10069 rfl rfl rfl rfl rfl (x_kk rfl) (x_kk rfl) rfl (h) rfl ?_
  refine f_i2l (M := mL_open) 7 dL_open_6 rfl ?_
  refine e_lst (M := mL_open) (w := 1) (j := 0) dL_open_7 (x_kk rfl) rfl kn_0 (by omega) (by omega) ?_
  refine f_goto (M := mL_open) 14 dL_open_8 rfl ?_
  refine f_iconst (M := mL_open) 15 dL_open_14 ki_0 rfl ?_
  refine e_ri (M := mL_open) dL_open_15 rfl (x_kk rfl) (x_kk rfl) ?_
  rfl
theorem hf_open_0 : x_hfind 0 3 (x_mo mL_open) (x_mh mL_open) = some 11 := by decide +kernel
theorem w_open_x0 {I' : Nat → Nat → Int32} {L' : Nat → Nat → Int64} {R' : Nat → Nat → Option Nat} (h : x_Cv X mX8_open [.ref 0] (I, L, R) 233 (.inr 0, (I', L', R'), 233)) : x_Cv X mL_open [.ref 0, .ref 232] (I, L, R) 233 (.inl (some (.int (1))), (I', L', R'), 233) := by
  show x_Ev X mL_open 0 [some (.ref 0), some (.ref 232), none] [] ((I, L, R), 233, 0, 0) _
  refine f_aload_n (M := mL_open) 1 dL_open_0 rfl rfl ?_
  refine f_iconst (M := mL_open) 2 dL_open_1 ki_0 rfl ?_
  refine f_aload_n (M := mL_open) 3 dL_open_2 rfl rfl ?_
  exact e_cVX (M := mL_open) 1 6 dL_open_3 pa_10069 pb_10069 cc_10069 rfl rfl rfl rfl rfl (x_kk rfl) (x_kk rfl) rfl (h) (hx (M := mL_open) rfl hf_open_0 (hb_n (M := mL_open) dL_open_11 dL_open_12 dL_open_13 rfl ki_1) rfl (x_kk rfl) (x_kk rfl))
theorem w_problem {v0 : Int32} {v : Int32} {I' : Nat → Nat → Int32} {L' : Nat → Nat → Int64} {R' : Nat → Nat → Option Nat} (h : x_Cv X mX8_problem [.ref 0, .int v0] (I, L, R) 233 (.inl (some (.int v)), (I', L', R'), 233)) : x_Cv X mL_problem [.ref 0, .int v0, .ref 232] (I, L, R) 233 (.inl (some (.int (0))), (I', va_up L' 232 (va_up (L' 232) 0 (v.toInt64)), R'), 233) := by
  show x_Ev X mL_problem 0 [some (.ref 0), some (.int v0), some (.ref 232), none] [] ((I, L, R), 233, 0, 0) _
  refine f_aload_n (M := mL_problem) 1 dL_problem_0 rfl rfl ?_
  refine f_iconst (M := mL_problem) 2 dL_problem_1 ki_0 rfl ?_
  refine f_aload_n (M := mL_problem) 3 dL_problem_2 rfl rfl ?_
  refine f_iload_n (M := mL_problem) 4 dL_problem_3 rfl rfl ?_
  refine e_cV (M := mL_problem) [_, _, _] 2 12 dL_problem_4 pa_10072 pb_10072 cc_10072 rfl rfl rfl rfl rfl (x_kk rfl) (x_kk rfl) rfl (h) rfl ?_
  refine f_i2l (M := mL_problem) 8 dL_problem_7 rfl ?_
  refine e_lst (M := mL_problem) (w := 1) (j := 0) dL_problem_8 (x_kk rfl) rfl kn_0 (by omega) (by omega) ?_
  refine f_goto (M := mL_problem) 18 dL_problem_9 rfl ?_
  refine f_iconst (M := mL_problem) 19 dL_problem_18 ki_0 rfl ?_
  refine e_ri (M := mL_problem) dL_problem_19 rfl (x_kk rfl) (x_kk rfl) ?_
  rfl
theorem hf_problem_2 : x_hfind 2 4 (x_mo mL_problem) (x_mh mL_problem) = some 12 := by decide +kernel
theorem w_problem_x2 {v0 : Int32} {I' : Nat → Nat → Int32} {L' : Nat → Nat → Int64} {R' : Nat → Nat → Option Nat} (h : x_Cv X mX8_problem [.ref 0, .int v0] (I, L, R) 233 (.inr 2, (I', L', R'), 233)) : x_Cv X mL_problem [.ref 0, .int v0, .ref 232] (I, L, R) 233 (.inl (some (.int (1))), (I', L', R'), 233) := by
  show x_Ev X mL_problem 0 [some (.ref 0), some (.int v0), some (.ref 232), none] [] ((I, L, R), 233, 0, 0) _
  refine f_aload_n (M := mL_problem) 1 dL_problem_0 rfl rfl ?_
  refine f_iconst (M := mL_problem) 2 dL_problem_1 ki_0 rfl ?_
  refine f_aload_n (M := mL_problem) 3 dL_problem_2 rfl rfl ?_
  refine f_iload_n (M := mL_problem) 4 dL_problem_3 rfl rfl ?_
  exact e_cVX (M := mL_problem) 2 12 dL_problem_4 pa_10072 pb_10072 cc_10072 rfl rfl rfl rfl rfl (x_kk rfl) (x_kk rfl) rfl (h) (hx (M := mL_problem) rfl hf_problem_2 (hb_n (M := mL_problem) dL_problem_12 dL_problem_13 dL_problem_14 rfl ki_1) rfl (x_kk rfl) (x_kk rfl))
theorem hf_problem_0 : x_hfind 0 4 (x_mo mL_problem) (x_mh mL_problem) = some 15 := by decide +kernel
theorem w_problem_x0 {v0 : Int32} {I' : Nat → Nat → Int32} {L' : Nat → Nat → Int64} {R' : Nat → Nat → Option Nat} (h : x_Cv X mX8_problem [.ref 0, .int v0] (I, L, R) 233 (.inr 0, (I', L', R'), 233)) : x_Cv X mL_problem [.ref 0, .int v0, .ref 232] (I, L, R) 233 (.inl (some (.int (2))), (I', L', R'), 233) := by
  show x_Ev X mL_problem 0 [some (.ref 0), some (.int v0), some (.ref 232), none] [] ((I, L, R), 233, 0, 0) _
  refine f_aload_n (M := mL_problem) 1 dL_problem_0 rfl rfl ?_
  refine f_iconst (M := mL_problem) 2 dL_problem_1 ki_0 rfl ?_
  refine f_aload_n (M := mL_problem) 3 dL_problem_2 rfl rfl ?_
  refine f_iload_n (M := mL_problem) 4 dL_problem_3 rfl rfl ?_
  exact e_cVX (M := mL_problem) 2 12 dL_problem_4 pa_10072 pb_10072 cc_10072 rfl rfl rfl rfl rfl (x_kk rfl) (x_kk rfl) rfl (h) (hx (M := mL_problem) rfl hf_problem_0 (hb_n (M := mL_problem) dL_problem_15 dL_problem_16 dL_problem_17 rfl ki_2) rfl (x_kk rfl) (x_kk rfl))
theorem w_value {v0 : Int32} {v : Int64} {I' : Nat → Nat → Int32} {L' : Nat → Nat → Int64} {R' : Nat → Nat → Option Nat} (h : x_Cv X mX8_value [.ref 0, .int v0] (I, L, R) 233 (.inl (some (.long v)), (I', L', R'), 233)) : x_Cv X mL_value [.ref 0, .int v0, .ref 232] (I, L, R) 233 (.inl (some (.int (0))), (I', va_up L' 232 (va_up (L' 232) 0 (v)), R'), 233) := by
  show x_Ev X mL_value 0 [some (.ref 0), some (.int v0), some (.ref 232), none] [] ((I, L, R), 233, 0, 0) _
  refine f_aload_n (M := mL_value) 1 dL_value_0 rfl rfl ?_
  refine f_iconst (M := mL_value) 2 dL_value_1 ki_0 rfl ?_
  refine f_aload_n (M := mL_value) 3 dL_value_2 rfl rfl ?_
  refine f_iload_n (M := mL_value) 4 dL_value_3 rfl rfl ?_
  refine e_cV (M := mL_value) [_, _, _] 2 12 dL_value_4 pa_10075 pb_10075 cc_10075 rfl rfl rfl rfl rfl (x_kk rfl) (x_kk rfl) rfl (h) rfl ?_
  refine e_lst (M := mL_value) (w := 1) (j := 0) dL_value_7 (x_kk rfl) rfl kn_0 (by omega) (by omega) ?_
  refine f_goto (M := mL_value) 17 dL_value_8 rfl ?_
  refine f_iconst (M := mL_value) 18 dL_value_17 ki_0 rfl ?_
  refine e_ri (M := mL_value) dL_value_18 rfl (x_kk rfl) (x_kk rfl) ?_
  rfl
theorem hf_value_2 : x_hfind 2 4 (x_mo mL_value) (x_mh mL_value) = some 11 := by decide +kernel
theorem w_value_x2 {v0 : Int32} {I' : Nat → Nat → Int32} {L' : Nat → Nat → Int64} {R' : Nat → Nat → Option Nat} (h : x_Cv X mX8_value [.ref 0, .int v0] (I, L, R) 233 (.inr 2, (I', L', R'), 233)) : x_Cv X mL_value [.ref 0, .int v0, .ref 232] (I, L, R) 233 (.inl (some (.int (1))), (I', L', R'), 233) := by
  show x_Ev X mL_value 0 [some (.ref 0), some (.int v0), some (.ref 232), none] [] ((I, L, R), 233, 0, 0) _
  refine f_aload_n (M := mL_value) 1 dL_value_0 rfl rfl ?_
  refine f_iconst (M := mL_value) 2 dL_value_1 ki_0 rfl ?_
  refine f_aload_n (M := mL_value) 3 dL_value_2 rfl rfl ?_
  refine f_iload_n (M := mL_value) 4 dL_value_3 rfl rfl ?_
  exact e_cVX (M := mL_value) 2 12 dL_value_4 pa_10075 pb_10075 cc_10075 rfl rfl rfl rfl rfl (x_kk rfl) (x_kk rfl) rfl (h) (hx (M := mL_value) rfl hf_value_2 (hb_n (M := mL_value) dL_value_11 dL_value_12 dL_value_13 rfl ki_1) rfl (x_kk rfl) (x_kk rfl))
theorem hf_value_0 : x_hfind 0 4 (x_mo mL_value) (x_mh mL_value) = some 14 := by decide +kernel
theorem w_value_x0 {v0 : Int32} {I' : Nat → Nat → Int32} {L' : Nat → Nat → Int64} {R' : Nat → Nat → Option Nat} (h : x_Cv X mX8_value [.ref 0, .int v0] (I, L, R) 233 (.inr 0, (I', L', R'), 233)) : x_Cv X mL_value [.ref 0, .int v0, .ref 232] (I, L, R) 233 (.inl (some (.int (2))), (I', L', R'), 233) := by
  show x_Ev X mL_value 0 [some (.ref 0), some (.int v0), some (.ref 232), none] [] ((I, L, R), 233, 0, 0) _
  refine f_aload_n (M := mL_value) 1 dL_value_0 rfl rfl ?_
  refine f_iconst (M := mL_value) 2 dL_value_1 ki_0 rfl ?_
  refine f_aload_n (M := mL_value) 3 dL_value_2 rfl rfl ?_
  refine f_iload_n (M := mL_value) 4 dL_value_3 rfl rfl ?_
  exact e_cVX (M := mL_value) 2 12 dL_value_4 pa_10075 pb_10075 cc_10075 rfl rfl rfl rfl rfl (x_kk rfl) (x_kk rfl) rfl (h) (hx (M := mL_value) rfl hf_value_0 (hb_n (M := mL_value) dL_value_14 dL_value_15 dL_value_16 rfl ki_2) rfl (x_kk rfl) (x_kk rfl))
theorem w_rank {v0 : Int32} {v : Int32} {I' : Nat → Nat → Int32} {L' : Nat → Nat → Int64} {R' : Nat → Nat → Option Nat} (h : x_Cv X mX8_rank [.ref 0, .int v0] (I, L, R) 233 (.inl (some (.int v)), (I', L', R'), 233)) : x_Cv X mL_rank [.ref 0, .int v0, .ref 232] (I, L, R) 233 (.inl (some (.int (0))), (I', va_up L' 232 (va_up (L' 232) 0 (v.toInt64)), R'), 233) := by
  show x_Ev X mL_rank 0 [some (.ref 0), some (.int v0), some (.ref 232), none] [] ((I, L, R), 233, 0, 0) _
  refine f_aload_n (M := mL_rank) 1 dL_rank_0 rfl rfl ?_
  refine f_iconst (M := mL_rank) 2 dL_rank_1 ki_0 rfl ?_
  refine f_aload_n (M := mL_rank) 3 dL_rank_2 rfl rfl ?_
  refine f_iload_n (M := mL_rank) 4 dL_rank_3 rfl rfl ?_
  refine e_cV (M := mL_rank) [_, _, _] 2 12 dL_rank_4 pa_10079 pb_10079 cc_10079 rfl rfl rfl rfl rfl (x_kk rfl) (x_kk rfl) rfl (h) rfl ?_
  refine f_i2l (M := mL_rank) 8 dL_rank_7 rfl ?_
  refine e_lst (M := mL_rank) (w := 1) (j := 0) dL_rank_8 (x_kk rfl) rfl kn_0 (by omega) (by omega) ?_
  refine f_goto (M := mL_rank) 18 dL_rank_9 rfl ?_
  refine f_iconst (M := mL_rank) 19 dL_rank_18 ki_0 rfl ?_
  refine e_ri (M := mL_rank) dL_rank_19 rfl (x_kk rfl) (x_kk rfl) ?_
  rfl
theorem hf_rank_2 : x_hfind 2 4 (x_mo mL_rank) (x_mh mL_rank) = some 12 := by decide +kernel
theorem w_rank_x2 {v0 : Int32} {I' : Nat → Nat → Int32} {L' : Nat → Nat → Int64} {R' : Nat → Nat → Option Nat} (h : x_Cv X mX8_rank [.ref 0, .int v0] (I, L, R) 233 (.inr 2, (I', L', R'), 233)) : x_Cv X mL_rank [.ref 0, .int v0, .ref 232] (I, L, R) 233 (.inl (some (.int (1))), (I', L', R'), 233) := by
  show x_Ev X mL_rank 0 [some (.ref 0), some (.int v0), some (.ref 232), none] [] ((I, L, R), 233, 0, 0) _
  refine f_aload_n (M := mL_rank) 1 dL_rank_0 rfl rfl ?_
  refine f_iconst (M := mL_rank) 2 dL_rank_1 ki_0 rfl ?_
  refine f_aload_n (M := mL_rank) 3 dL_rank_2 rfl rfl ?_
  refine f_iload_n (M := mL_rank) 4 dL_rank_3 rfl rfl ?_
  exact e_cVX (M := mL_rank) 2 12 dL_rank_4 pa_10079 pb_10079 cc_10079 rfl rfl rfl rfl rfl (x_kk rfl) (x_kk rfl) rfl (h) (hx (M := mL_rank) rfl hf_rank_2 (hb_n (M := mL_rank) dL_rank_12 dL_rank_13 dL_rank_14 rfl ki_1) rfl (x_kk rfl) (x_kk rfl))
theorem hf_rank_0 : x_hfind 0 4 (x_mo mL_rank) (x_mh mL_rank) = some 15 := by decide +kernel
theorem w_rank_x0 {v0 : Int32} {I' : Nat → Nat → Int32} {L' : Nat → Nat → Int64} {R' : Nat → Nat → Option Nat} (h : x_Cv X mX8_rank [.ref 0, .int v0] (I, L, R) 233 (.inr 0, (I', L', R'), 233)) : x_Cv X mL_rank [.ref 0, .int v0, .ref 232] (I, L, R) 233 (.inl (some (.int (2))), (I', L', R'), 233) := by
  show x_Ev X mL_rank 0 [some (.ref 0), some (.int v0), some (.ref 232), none] [] ((I, L, R), 233, 0, 0) _
  refine f_aload_n (M := mL_rank) 1 dL_rank_0 rfl rfl ?_
  refine f_iconst (M := mL_rank) 2 dL_rank_1 ki_0 rfl ?_
  refine f_aload_n (M := mL_rank) 3 dL_rank_2 rfl rfl ?_
  refine f_iload_n (M := mL_rank) 4 dL_rank_3 rfl rfl ?_
  exact e_cVX (M := mL_rank) 2 12 dL_rank_4 pa_10079 pb_10079 cc_10079 rfl rfl rfl rfl rfl (x_kk rfl) (x_kk rfl) rfl (h) (hx (M := mL_rank) rfl hf_rank_0 (hb_n (M := mL_rank) dL_rank_15 dL_rank_16 dL_rank_17 rfl ki_2) rfl (x_kk rfl) (x_kk rfl))
theorem w_turningPoint {v0 : Int32} {v : Int32} {I' : Nat → Nat → Int32} {L' : Nat → Nat → Int64} {R' : Nat → Nat → Option Nat} (h : x_Cv X mX8_turningPoint [.ref 0, .int v0] (I, L, R) 233 (.inl (some (.int v)), (I', L', R'), 233)) : x_Cv X mL_turningPoint [.ref 0, .int v0, .ref 232] (I, L, R) 233 (.inl (some (.int (0))), (I', va_up L' 232 (va_up (L' 232) 0 (v.toInt64)), R'), 233) := by
  show x_Ev X mL_turningPoint 0 [some (.ref 0), some (.int v0), some (.ref 232), none] [] ((I, L, R), 233, 0, 0) _
  refine f_aload_n (M := mL_turningPoint) 1 dL_turningPoint_0 rfl rfl ?_
  refine f_iconst (M := mL_turningPoint) 2 dL_turningPoint_1 ki_0 rfl ?_
  refine f_aload_n (M := mL_turningPoint) 3 dL_turningPoint_2 rfl rfl ?_
  refine f_iload_n (M := mL_turningPoint) 4 dL_turningPoint_3 rfl rfl ?_
  refine e_cV (M := mL_turningPoint) [_, _, _] 4 24 dL_turningPoint_4 pa_10082 pb_10082 cc_10082 rfl rfl rfl rfl rfl (x_kk rfl) (x_kk rfl) rfl (h) rfl ?_
  refine f_i2l (M := mL_turningPoint) 8 dL_turningPoint_7 rfl ?_
  refine e_lst (M := mL_turningPoint) (w := 1) (j := 0) dL_turningPoint_8 (x_kk rfl) rfl kn_0 (by omega) (by omega) ?_
  refine f_goto (M := mL_turningPoint) 21 dL_turningPoint_9 rfl ?_
  refine f_iconst (M := mL_turningPoint) 22 dL_turningPoint_21 ki_0 rfl ?_
  refine e_ri (M := mL_turningPoint) dL_turningPoint_22 rfl (x_kk rfl) (x_kk rfl) ?_
  rfl
theorem hf_turningPoint_2 : x_hfind 2 4 (x_mo mL_turningPoint) (x_mh mL_turningPoint) = some 12 := by decide +kernel
theorem w_turningPoint_x2 {v0 : Int32} {I' : Nat → Nat → Int32} {L' : Nat → Nat → Int64} {R' : Nat → Nat → Option Nat} (h : x_Cv X mX8_turningPoint [.ref 0, .int v0] (I, L, R) 233 (.inr 2, (I', L', R'), 233)) : x_Cv X mL_turningPoint [.ref 0, .int v0, .ref 232] (I, L, R) 233 (.inl (some (.int (1))), (I', L', R'), 233) := by
  show x_Ev X mL_turningPoint 0 [some (.ref 0), some (.int v0), some (.ref 232), none] [] ((I, L, R), 233, 0, 0) _
  refine f_aload_n (M := mL_turningPoint) 1 dL_turningPoint_0 rfl rfl ?_
  refine f_iconst (M := mL_turningPoint) 2 dL_turningPoint_1 ki_0 rfl ?_
  refine f_aload_n (M := mL_turningPoint) 3 dL_turningPoint_2 rfl rfl ?_
  refine f_iload_n (M := mL_turningPoint) 4 dL_turningPoint_3 rfl rfl ?_
  exact e_cVX (M := mL_turningPoint) 4 24 dL_turningPoint_4 pa_10082 pb_10082 cc_10082 rfl rfl rfl rfl rfl (x_kk rfl) (x_kk rfl) rfl (h) (hx (M := mL_turningPoint) rfl hf_turningPoint_2 (hb_n (M := mL_turningPoint) dL_turningPoint_12 dL_turningPoint_13 dL_turningPoint_14 rfl ki_1) rfl (x_kk rfl) (x_kk rfl))
theorem hf_turningPoint_0 : x_hfind 0 4 (x_mo mL_turningPoint) (x_mh mL_turningPoint) = some 15 := by decide +kernel
theorem w_turningPoint_x0 {v0 : Int32} {I' : Nat → Nat → Int32} {L' : Nat → Nat → Int64} {R' : Nat → Nat → Option Nat} (h : x_Cv X mX8_turningPoint [.ref 0, .int v0] (I, L, R) 233 (.inr 0, (I', L', R'), 233)) : x_Cv X mL_turningPoint [.ref 0, .int v0, .ref 232] (I, L, R) 233 (.inl (some (.int (2))), (I', L', R'), 233) := by
  show x_Ev X mL_turningPoint 0 [some (.ref 0), some (.int v0), some (.ref 232), none] [] ((I, L, R), 233, 0, 0) _
  refine f_aload_n (M := mL_turningPoint) 1 dL_turningPoint_0 rfl rfl ?_
  refine f_iconst (M := mL_turningPoint) 2 dL_turningPoint_1 ki_0 rfl ?_
  refine f_aload_n (M := mL_turningPoint) 3 dL_turningPoint_2 rfl rfl ?_
  refine f_iload_n (M := mL_turningPoint) 4 dL_turningPoint_3 rfl rfl ?_
  exact e_cVX (M := mL_turningPoint) 4 24 dL_turningPoint_4 pa_10082 pb_10082 cc_10082 rfl rfl rfl rfl rfl (x_kk rfl) (x_kk rfl) rfl (h) (hx (M := mL_turningPoint) rfl hf_turningPoint_0 (hb_n (M := mL_turningPoint) dL_turningPoint_15 dL_turningPoint_16 dL_turningPoint_17 rfl ki_2) rfl (x_kk rfl) (x_kk rfl))
theorem hf_turningPoint_3 : x_hfind 3 4 (x_mo mL_turningPoint) (x_mh mL_turningPoint) = some 18 := by decide +kernel
theorem w_turningPoint_x3 {v0 : Int32} {I' : Nat → Nat → Int32} {L' : Nat → Nat → Int64} {R' : Nat → Nat → Option Nat} (h : x_Cv X mX8_turningPoint [.ref 0, .int v0] (I, L, R) 233 (.inr 3, (I', L', R'), 233)) : x_Cv X mL_turningPoint [.ref 0, .int v0, .ref 232] (I, L, R) 233 (.inl (some (.int (3))), (I', L', R'), 233) := by
  show x_Ev X mL_turningPoint 0 [some (.ref 0), some (.int v0), some (.ref 232), none] [] ((I, L, R), 233, 0, 0) _
  refine f_aload_n (M := mL_turningPoint) 1 dL_turningPoint_0 rfl rfl ?_
  refine f_iconst (M := mL_turningPoint) 2 dL_turningPoint_1 ki_0 rfl ?_
  refine f_aload_n (M := mL_turningPoint) 3 dL_turningPoint_2 rfl rfl ?_
  refine f_iload_n (M := mL_turningPoint) 4 dL_turningPoint_3 rfl rfl ?_
  exact e_cVX (M := mL_turningPoint) 4 24 dL_turningPoint_4 pa_10082 pb_10082 cc_10082 rfl rfl rfl rfl rfl (x_kk rfl) (x_kk rfl) rfl (h) (hx (M := mL_turningPoint) rfl hf_turningPoint_3 (hb_n (M := mL_turningPoint) dL_turningPoint_18 dL_turningPoint_19 dL_turningPoint_20 rfl ki_3) rfl (x_kk rfl) (x_kk rfl))
theorem w_leastWinningRate {v0 v1 : Int32} {v : Int32} {I' : Nat → Nat → Int32} {L' : Nat → Nat → Int64} {R' : Nat → Nat → Option Nat} (h : x_Cv X mX8_leastWinningRate [.ref 0, .int v0, .int v1] (I, L, R) 233 (.inl (some (.int v)), (I', L', R'), 233)) : x_Cv X mL_leastWinningRate [.ref 0, .int v0, .int v1, .ref 232] (I, L, R) 233 (.inl (some (.int (0))), (I', va_up L' 232 (va_up (L' 232) 0 (v.toInt64)), R'), 233) := by
  show x_Ev X mL_leastWinningRate 0 [some (.ref 0), some (.int v0), some (.int v1), some (.ref 232), none] [] ((I, L, R), 233, 0, 0) _
  refine f_aload_n (M := mL_leastWinningRate) 1 dL_leastWinningRate_0 rfl rfl ?_
  refine f_iconst (M := mL_leastWinningRate) 2 dL_leastWinningRate_1 ki_0 rfl ?_
  refine f_aload_n (M := mL_leastWinningRate) 3 dL_leastWinningRate_2 rfl rfl ?_
  refine f_iload_n (M := mL_leastWinningRate) 4 dL_leastWinningRate_3 rfl rfl ?_
  refine f_iload_n (M := mL_leastWinningRate) 5 dL_leastWinningRate_4 rfl rfl ?_
  refine e_cV (M := mL_leastWinningRate) [_, _, _] 3 18 dL_leastWinningRate_5 pa_10087 pb_10087 cc_10087 rfl rfl rfl rfl rfl (x_kk rfl) (x_kk rfl) rfl (h) rfl ?_
  refine f_i2l (M := mL_leastWinningRate) 9 dL_leastWinningRate_8 rfl ?_
  refine e_lst (M := mL_leastWinningRate) (w := 1) (j := 0) dL_leastWinningRate_9 (x_kk rfl) rfl kn_0 (by omega) (by omega) ?_
  refine f_goto (M := mL_leastWinningRate) 25 dL_leastWinningRate_10 rfl ?_
  refine f_iconst (M := mL_leastWinningRate) 26 dL_leastWinningRate_25 ki_0 rfl ?_
  refine e_ri (M := mL_leastWinningRate) dL_leastWinningRate_26 rfl (x_kk rfl) (x_kk rfl) ?_
  rfl
theorem hf_leastWinningRate_2 : x_hfind 2 5 (x_mo mL_leastWinningRate) (x_mh mL_leastWinningRate) = some 13 := by decide +kernel
theorem w_leastWinningRate_x2 {v0 v1 : Int32} {I' : Nat → Nat → Int32} {L' : Nat → Nat → Int64} {R' : Nat → Nat → Option Nat} (h : x_Cv X mX8_leastWinningRate [.ref 0, .int v0, .int v1] (I, L, R) 233 (.inr 2, (I', L', R'), 233)) : x_Cv X mL_leastWinningRate [.ref 0, .int v0, .int v1, .ref 232] (I, L, R) 233 (.inl (some (.int (1))), (I', L', R'), 233) := by
  show x_Ev X mL_leastWinningRate 0 [some (.ref 0), some (.int v0), some (.int v1), some (.ref 232), none] [] ((I, L, R), 233, 0, 0) _
  refine f_aload_n (M := mL_leastWinningRate) 1 dL_leastWinningRate_0 rfl rfl ?_
  refine f_iconst (M := mL_leastWinningRate) 2 dL_leastWinningRate_1 ki_0 rfl ?_
  refine f_aload_n (M := mL_leastWinningRate) 3 dL_leastWinningRate_2 rfl rfl ?_
  refine f_iload_n (M := mL_leastWinningRate) 4 dL_leastWinningRate_3 rfl rfl ?_
  refine f_iload_n (M := mL_leastWinningRate) 5 dL_leastWinningRate_4 rfl rfl ?_
  exact e_cVX (M := mL_leastWinningRate) 3 18 dL_leastWinningRate_5 pa_10087 pb_10087 cc_10087 rfl rfl rfl rfl rfl (x_kk rfl) (x_kk rfl) rfl (h) (hx (M := mL_leastWinningRate) rfl hf_leastWinningRate_2 (hb_w (M := mL_leastWinningRate) dL_leastWinningRate_13 dL_leastWinningRate_15 dL_leastWinningRate_16 rfl ki_1) rfl (x_kk rfl) (x_kk rfl))
theorem hf_leastWinningRate_0 : x_hfind 0 5 (x_mo mL_leastWinningRate) (x_mh mL_leastWinningRate) = some 17 := by decide +kernel
theorem w_leastWinningRate_x0 {v0 v1 : Int32} {I' : Nat → Nat → Int32} {L' : Nat → Nat → Int64} {R' : Nat → Nat → Option Nat} (h : x_Cv X mX8_leastWinningRate [.ref 0, .int v0, .int v1] (I, L, R) 233 (.inr 0, (I', L', R'), 233)) : x_Cv X mL_leastWinningRate [.ref 0, .int v0, .int v1, .ref 232] (I, L, R) 233 (.inl (some (.int (2))), (I', L', R'), 233) := by
  show x_Ev X mL_leastWinningRate 0 [some (.ref 0), some (.int v0), some (.int v1), some (.ref 232), none] [] ((I, L, R), 233, 0, 0) _
  refine f_aload_n (M := mL_leastWinningRate) 1 dL_leastWinningRate_0 rfl rfl ?_
  refine f_iconst (M := mL_leastWinningRate) 2 dL_leastWinningRate_1 ki_0 rfl ?_
  refine f_aload_n (M := mL_leastWinningRate) 3 dL_leastWinningRate_2 rfl rfl ?_
  refine f_iload_n (M := mL_leastWinningRate) 4 dL_leastWinningRate_3 rfl rfl ?_
  refine f_iload_n (M := mL_leastWinningRate) 5 dL_leastWinningRate_4 rfl rfl ?_
  exact e_cVX (M := mL_leastWinningRate) 3 18 dL_leastWinningRate_5 pa_10087 pb_10087 cc_10087 rfl rfl rfl rfl rfl (x_kk rfl) (x_kk rfl) rfl (h) (hx (M := mL_leastWinningRate) rfl hf_leastWinningRate_0 (hb_w (M := mL_leastWinningRate) dL_leastWinningRate_17 dL_leastWinningRate_19 dL_leastWinningRate_20 rfl ki_2) rfl (x_kk rfl) (x_kk rfl))
theorem hf_leastWinningRate_3 : x_hfind 3 5 (x_mo mL_leastWinningRate) (x_mh mL_leastWinningRate) = some 21 := by decide +kernel
theorem w_leastWinningRate_x3 {v0 v1 : Int32} {I' : Nat → Nat → Int32} {L' : Nat → Nat → Int64} {R' : Nat → Nat → Option Nat} (h : x_Cv X mX8_leastWinningRate [.ref 0, .int v0, .int v1] (I, L, R) 233 (.inr 3, (I', L', R'), 233)) : x_Cv X mL_leastWinningRate [.ref 0, .int v0, .int v1, .ref 232] (I, L, R) 233 (.inl (some (.int (3))), (I', L', R'), 233) := by
  show x_Ev X mL_leastWinningRate 0 [some (.ref 0), some (.int v0), some (.int v1), some (.ref 232), none] [] ((I, L, R), 233, 0, 0) _
  refine f_aload_n (M := mL_leastWinningRate) 1 dL_leastWinningRate_0 rfl rfl ?_
  refine f_iconst (M := mL_leastWinningRate) 2 dL_leastWinningRate_1 ki_0 rfl ?_
  refine f_aload_n (M := mL_leastWinningRate) 3 dL_leastWinningRate_2 rfl rfl ?_
  refine f_iload_n (M := mL_leastWinningRate) 4 dL_leastWinningRate_3 rfl rfl ?_
  refine f_iload_n (M := mL_leastWinningRate) 5 dL_leastWinningRate_4 rfl rfl ?_
  exact e_cVX (M := mL_leastWinningRate) 3 18 dL_leastWinningRate_5 pa_10087 pb_10087 cc_10087 rfl rfl rfl rfl rfl (x_kk rfl) (x_kk rfl) rfl (h) (hx (M := mL_leastWinningRate) rfl hf_leastWinningRate_3 (hb_w (M := mL_leastWinningRate) dL_leastWinningRate_21 dL_leastWinningRate_23 dL_leastWinningRate_24 rfl ki_3) rfl (x_kk rfl) (x_kk rfl))
theorem w_award {v : Int32} {I' : Nat → Nat → Int32} {L' : Nat → Nat → Int64} {R' : Nat → Nat → Option Nat} (h : x_Cv X mX8_award [.ref 0] (I, L, R) 233 (.inl (some (.int v)), (I', L', R'), 233)) : x_Cv X mL_award [.ref 0, .ref 232] (I, L, R) 233 (.inl (some (.int (0))), (I', va_up L' 232 (va_up (L' 232) 0 (v.toInt64)), R'), 233) := by
  show x_Ev X mL_award 0 [some (.ref 0), some (.ref 232), none] [] ((I, L, R), 233, 0, 0) _
  refine f_aload_n (M := mL_award) 1 dL_award_0 rfl rfl ?_
  refine f_iconst (M := mL_award) 2 dL_award_1 ki_0 rfl ?_
  refine f_aload_n (M := mL_award) 3 dL_award_2 rfl rfl ?_
  refine e_cV (M := mL_award) [_, _, _] 2 12 dL_award_3 pa_10090 pb_10090 cc_10090 rfl rfl rfl rfl rfl (x_kk rfl) (x_kk rfl) rfl (h) rfl ?_
  refine f_i2l (M := mL_award) 7 dL_award_6 rfl ?_
  refine e_lst (M := mL_award) (w := 1) (j := 0) dL_award_7 (x_kk rfl) rfl kn_0 (by omega) (by omega) ?_
  refine f_goto (M := mL_award) 17 dL_award_8 rfl ?_
  refine f_iconst (M := mL_award) 18 dL_award_17 ki_0 rfl ?_
  refine e_ri (M := mL_award) dL_award_18 rfl (x_kk rfl) (x_kk rfl) ?_
  rfl
theorem hf_award_0 : x_hfind 0 3 (x_mo mL_award) (x_mh mL_award) = some 11 := by decide +kernel
theorem w_award_x0 {I' : Nat → Nat → Int32} {L' : Nat → Nat → Int64} {R' : Nat → Nat → Option Nat} (h : x_Cv X mX8_award [.ref 0] (I, L, R) 233 (.inr 0, (I', L', R'), 233)) : x_Cv X mL_award [.ref 0, .ref 232] (I, L, R) 233 (.inl (some (.int (1))), (I', L', R'), 233) := by
  show x_Ev X mL_award 0 [some (.ref 0), some (.ref 232), none] [] ((I, L, R), 233, 0, 0) _
  refine f_aload_n (M := mL_award) 1 dL_award_0 rfl rfl ?_
  refine f_iconst (M := mL_award) 2 dL_award_1 ki_0 rfl ?_
  refine f_aload_n (M := mL_award) 3 dL_award_2 rfl rfl ?_
  exact e_cVX (M := mL_award) 2 12 dL_award_3 pa_10090 pb_10090 cc_10090 rfl rfl rfl rfl rfl (x_kk rfl) (x_kk rfl) rfl (h) (hx (M := mL_award) rfl hf_award_0 (hb_n (M := mL_award) dL_award_11 dL_award_12 dL_award_13 rfl ki_1) rfl (x_kk rfl) (x_kk rfl))
theorem hf_award_3 : x_hfind 3 3 (x_mo mL_award) (x_mh mL_award) = some 14 := by decide +kernel
theorem w_award_x3 {I' : Nat → Nat → Int32} {L' : Nat → Nat → Int64} {R' : Nat → Nat → Option Nat} (h : x_Cv X mX8_award [.ref 0] (I, L, R) 233 (.inr 3, (I', L', R'), 233)) : x_Cv X mL_award [.ref 0, .ref 232] (I, L, R) 233 (.inl (some (.int (2))), (I', L', R'), 233) := by
  show x_Ev X mL_award 0 [some (.ref 0), some (.ref 232), none] [] ((I, L, R), 233, 0, 0) _
  refine f_aload_n (M := mL_award) 1 dL_award_0 rfl rfl ?_
  refine f_iconst (M := mL_award) 2 dL_award_1 ki_0 rfl ?_
  refine f_aload_n (M := mL_award) 3 dL_award_2 rfl rfl ?_
  exact e_cVX (M := mL_award) 2 12 dL_award_3 pa_10090 pb_10090 cc_10090 rfl rfl rfl rfl rfl (x_kk rfl) (x_kk rfl) rfl (h) (hx (M := mL_award) rfl hf_award_3 (hb_n (M := mL_award) dL_award_14 dL_award_15 dL_award_16 rfl ki_2) rfl (x_kk rfl) (x_kk rfl))
theorem w_setIndex {v0 v1 v2 : Int32} {I' : Nat → Nat → Int32} {L' : Nat → Nat → Int64} {R' : Nat → Nat → Option Nat} (h : x_Cv X mX8_setIndex [.ref 0, .int v0, .int v1, .int v2] (I, L, R) 233 (.inl (none), (I', L', R'), 233)) : x_Cv X mL_setIndex [.ref 0, .int v0, .int v1, .int v2] (I, L, R) 233 (.inl (some (.int (0))), (I', L', R'), 233) := by
  show x_Ev X mL_setIndex 0 [some (.ref 0), some (.int v0), some (.int v1), some (.int v2), none] [] ((I, L, R), 233, 0, 0) _
  refine f_aload_n (M := mL_setIndex) 1 dL_setIndex_0 rfl rfl ?_
  refine f_iload_n (M := mL_setIndex) 2 dL_setIndex_1 rfl rfl ?_
  refine f_iload_n (M := mL_setIndex) 3 dL_setIndex_2 rfl rfl ?_
  refine f_iload_n (M := mL_setIndex) 4 dL_setIndex_3 rfl rfl ?_
  refine e_cV (M := mL_setIndex) [] 3 18 dL_setIndex_4 pa_10093 pb_10093 cc_10093 rfl rfl rfl rfl rfl (x_kk rfl) (x_kk rfl) rfl (h) rfl ?_
  refine f_goto (M := mL_setIndex) 22 dL_setIndex_7 rfl ?_
  refine f_iconst (M := mL_setIndex) 23 dL_setIndex_22 ki_0 rfl ?_
  refine e_ri (M := mL_setIndex) dL_setIndex_23 rfl (x_kk rfl) (x_kk rfl) ?_
  rfl
theorem hf_setIndex_2 : x_hfind 2 4 (x_mo mL_setIndex) (x_mh mL_setIndex) = some 10 := by decide +kernel
theorem w_setIndex_x2 {v0 v1 v2 : Int32} {I' : Nat → Nat → Int32} {L' : Nat → Nat → Int64} {R' : Nat → Nat → Option Nat} (h : x_Cv X mX8_setIndex [.ref 0, .int v0, .int v1, .int v2] (I, L, R) 233 (.inr 2, (I', L', R'), 233)) : x_Cv X mL_setIndex [.ref 0, .int v0, .int v1, .int v2] (I, L, R) 233 (.inl (some (.int (1))), (I', L', R'), 233) := by
  show x_Ev X mL_setIndex 0 [some (.ref 0), some (.int v0), some (.int v1), some (.int v2), none] [] ((I, L, R), 233, 0, 0) _
  refine f_aload_n (M := mL_setIndex) 1 dL_setIndex_0 rfl rfl ?_
  refine f_iload_n (M := mL_setIndex) 2 dL_setIndex_1 rfl rfl ?_
  refine f_iload_n (M := mL_setIndex) 3 dL_setIndex_2 rfl rfl ?_
  refine f_iload_n (M := mL_setIndex) 4 dL_setIndex_3 rfl rfl ?_
  exact e_cVX (M := mL_setIndex) 3 18 dL_setIndex_4 pa_10093 pb_10093 cc_10093 rfl rfl rfl rfl rfl (x_kk rfl) (x_kk rfl) rfl (h) (hx (M := mL_setIndex) rfl hf_setIndex_2 (hb_w (M := mL_setIndex) dL_setIndex_10 dL_setIndex_12 dL_setIndex_13 rfl ki_1) rfl (x_kk rfl) (x_kk rfl))
theorem hf_setIndex_1 : x_hfind 1 4 (x_mo mL_setIndex) (x_mh mL_setIndex) = some 14 := by decide +kernel
theorem w_setIndex_x1 {v0 v1 v2 : Int32} {I' : Nat → Nat → Int32} {L' : Nat → Nat → Int64} {R' : Nat → Nat → Option Nat} (h : x_Cv X mX8_setIndex [.ref 0, .int v0, .int v1, .int v2] (I, L, R) 233 (.inr 1, (I', L', R'), 233)) : x_Cv X mL_setIndex [.ref 0, .int v0, .int v1, .int v2] (I, L, R) 233 (.inl (some (.int (2))), (I', L', R'), 233) := by
  show x_Ev X mL_setIndex 0 [some (.ref 0), some (.int v0), some (.int v1), some (.int v2), none] [] ((I, L, R), 233, 0, 0) _
  refine f_aload_n (M := mL_setIndex) 1 dL_setIndex_0 rfl rfl ?_
  refine f_iload_n (M := mL_setIndex) 2 dL_setIndex_1 rfl rfl ?_
  refine f_iload_n (M := mL_setIndex) 3 dL_setIndex_2 rfl rfl ?_
  refine f_iload_n (M := mL_setIndex) 4 dL_setIndex_3 rfl rfl ?_
  exact e_cVX (M := mL_setIndex) 3 18 dL_setIndex_4 pa_10093 pb_10093 cc_10093 rfl rfl rfl rfl rfl (x_kk rfl) (x_kk rfl) rfl (h) (hx (M := mL_setIndex) rfl hf_setIndex_1 (hb_w (M := mL_setIndex) dL_setIndex_14 dL_setIndex_16 dL_setIndex_17 rfl ki_2) rfl (x_kk rfl) (x_kk rfl))
theorem hf_setIndex_0 : x_hfind 0 4 (x_mo mL_setIndex) (x_mh mL_setIndex) = some 18 := by decide +kernel
theorem w_setIndex_x0 {v0 v1 v2 : Int32} {I' : Nat → Nat → Int32} {L' : Nat → Nat → Int64} {R' : Nat → Nat → Option Nat} (h : x_Cv X mX8_setIndex [.ref 0, .int v0, .int v1, .int v2] (I, L, R) 233 (.inr 0, (I', L', R'), 233)) : x_Cv X mL_setIndex [.ref 0, .int v0, .int v1, .int v2] (I, L, R) 233 (.inl (some (.int (3))), (I', L', R'), 233) := by
  show x_Ev X mL_setIndex 0 [some (.ref 0), some (.int v0), some (.int v1), some (.int v2), none] [] ((I, L, R), 233, 0, 0) _
  refine f_aload_n (M := mL_setIndex) 1 dL_setIndex_0 rfl rfl ?_
  refine f_iload_n (M := mL_setIndex) 2 dL_setIndex_1 rfl rfl ?_
  refine f_iload_n (M := mL_setIndex) 3 dL_setIndex_2 rfl rfl ?_
  refine f_iload_n (M := mL_setIndex) 4 dL_setIndex_3 rfl rfl ?_
  exact e_cVX (M := mL_setIndex) 3 18 dL_setIndex_4 pa_10093 pb_10093 cc_10093 rfl rfl rfl rfl rfl (x_kk rfl) (x_kk rfl) rfl (h) (hx (M := mL_setIndex) rfl hf_setIndex_0 (hb_w (M := mL_setIndex) dL_setIndex_18 dL_setIndex_20 dL_setIndex_21 rfl ki_3) rfl (x_kk rfl) (x_kk rfl))
theorem w_rate {v0 v1 : Int32} {v : Int32} {I' : Nat → Nat → Int32} {L' : Nat → Nat → Int64} {R' : Nat → Nat → Option Nat} (h : x_Cv X mX8_rate [.ref 0, .int v0, .int v1] (I, L, R) 233 (.inl (some (.int v)), (I', L', R'), 233)) : x_Cv X mL_rate [.ref 0, .int v0, .int v1, .ref 232] (I, L, R) 233 (.inl (some (.int (0))), (I', va_up L' 232 (va_up (L' 232) 0 (v.toInt64)), R'), 233) := by
  show x_Ev X mL_rate 0 [some (.ref 0), some (.int v0), some (.int v1), some (.ref 232), none] [] ((I, L, R), 233, 0, 0) _
  refine f_aload_n (M := mL_rate) 1 dL_rate_0 rfl rfl ?_
  refine f_iconst (M := mL_rate) 2 dL_rate_1 ki_0 rfl ?_
  refine f_aload_n (M := mL_rate) 3 dL_rate_2 rfl rfl ?_
  refine f_iload_n (M := mL_rate) 4 dL_rate_3 rfl rfl ?_
  refine f_iload_n (M := mL_rate) 5 dL_rate_4 rfl rfl ?_
  refine e_cV (M := mL_rate) [_, _, _] 2 12 dL_rate_5 pa_10097 pb_10097 cc_10097 rfl rfl rfl rfl rfl (x_kk rfl) (x_kk rfl) rfl (h) rfl ?_
  refine f_i2l (M := mL_rate) 9 dL_rate_8 rfl ?_
  refine e_lst (M := mL_rate) (w := 1) (j := 0) dL_rate_9 (x_kk rfl) rfl kn_0 (by omega) (by omega) ?_
  refine f_goto (M := mL_rate) 21 dL_rate_10 rfl ?_
  refine f_iconst (M := mL_rate) 22 dL_rate_21 ki_0 rfl ?_
  refine e_ri (M := mL_rate) dL_rate_22 rfl (x_kk rfl) (x_kk rfl) ?_
  rfl
theorem hf_rate_2 : x_hfind 2 5 (x_mo mL_rate) (x_mh mL_rate) = some 13 := by decide +kernel
theorem w_rate_x2 {v0 v1 : Int32} {I' : Nat → Nat → Int32} {L' : Nat → Nat → Int64} {R' : Nat → Nat → Option Nat} (h : x_Cv X mX8_rate [.ref 0, .int v0, .int v1] (I, L, R) 233 (.inr 2, (I', L', R'), 233)) : x_Cv X mL_rate [.ref 0, .int v0, .int v1, .ref 232] (I, L, R) 233 (.inl (some (.int (1))), (I', L', R'), 233) := by
  show x_Ev X mL_rate 0 [some (.ref 0), some (.int v0), some (.int v1), some (.ref 232), none] [] ((I, L, R), 233, 0, 0) _
  refine f_aload_n (M := mL_rate) 1 dL_rate_0 rfl rfl ?_
  refine f_iconst (M := mL_rate) 2 dL_rate_1 ki_0 rfl ?_
  refine f_aload_n (M := mL_rate) 3 dL_rate_2 rfl rfl ?_
  refine f_iload_n (M := mL_rate) 4 dL_rate_3 rfl rfl ?_
  refine f_iload_n (M := mL_rate) 5 dL_rate_4 rfl rfl ?_
  exact e_cVX (M := mL_rate) 2 12 dL_rate_5 pa_10097 pb_10097 cc_10097 rfl rfl rfl rfl rfl (x_kk rfl) (x_kk rfl) rfl (h) (hx (M := mL_rate) rfl hf_rate_2 (hb_w (M := mL_rate) dL_rate_13 dL_rate_15 dL_rate_16 rfl ki_1) rfl (x_kk rfl) (x_kk rfl))
theorem hf_rate_0 : x_hfind 0 5 (x_mo mL_rate) (x_mh mL_rate) = some 17 := by decide +kernel
theorem w_rate_x0 {v0 v1 : Int32} {I' : Nat → Nat → Int32} {L' : Nat → Nat → Int64} {R' : Nat → Nat → Option Nat} (h : x_Cv X mX8_rate [.ref 0, .int v0, .int v1] (I, L, R) 233 (.inr 0, (I', L', R'), 233)) : x_Cv X mL_rate [.ref 0, .int v0, .int v1, .ref 232] (I, L, R) 233 (.inl (some (.int (2))), (I', L', R'), 233) := by
  show x_Ev X mL_rate 0 [some (.ref 0), some (.int v0), some (.int v1), some (.ref 232), none] [] ((I, L, R), 233, 0, 0) _
  refine f_aload_n (M := mL_rate) 1 dL_rate_0 rfl rfl ?_
  refine f_iconst (M := mL_rate) 2 dL_rate_1 ki_0 rfl ?_
  refine f_aload_n (M := mL_rate) 3 dL_rate_2 rfl rfl ?_
  refine f_iload_n (M := mL_rate) 4 dL_rate_3 rfl rfl ?_
  refine f_iload_n (M := mL_rate) 5 dL_rate_4 rfl rfl ?_
  exact e_cVX (M := mL_rate) 2 12 dL_rate_5 pa_10097 pb_10097 cc_10097 rfl rfl rfl rfl rfl (x_kk rfl) (x_kk rfl) rfl (h) (hx (M := mL_rate) rfl hf_rate_0 (hb_w (M := mL_rate) dL_rate_17 dL_rate_19 dL_rate_20 rfl ki_2) rfl (x_kk rfl) (x_kk rfl))
theorem w_indexFor {v0 v1 : Int32} {v : Int32} {I' : Nat → Nat → Int32} {L' : Nat → Nat → Int64} {R' : Nat → Nat → Option Nat} (h : x_Cv X mX8_indexFor [.ref 0, .int v0, .int v1] (I, L, R) 233 (.inl (some (.int v)), (I', L', R'), 233)) : x_Cv X mL_indexFor [.ref 0, .int v0, .int v1, .ref 232] (I, L, R) 233 (.inl (some (.int (0))), (I', va_up L' 232 (va_up (L' 232) 0 (v.toInt64)), R'), 233) := by
  show x_Ev X mL_indexFor 0 [some (.ref 0), some (.int v0), some (.int v1), some (.ref 232), none] [] ((I, L, R), 233, 0, 0) _
  refine f_aload_n (M := mL_indexFor) 1 dL_indexFor_0 rfl rfl ?_
  refine f_iconst (M := mL_indexFor) 2 dL_indexFor_1 ki_0 rfl ?_
  refine f_aload_n (M := mL_indexFor) 3 dL_indexFor_2 rfl rfl ?_
  refine f_iload_n (M := mL_indexFor) 4 dL_indexFor_3 rfl rfl ?_
  refine f_iload_n (M := mL_indexFor) 5 dL_indexFor_4 rfl rfl ?_
  refine e_cV (M := mL_indexFor) [_, _, _] 4 24 dL_indexFor_5 pa_10100 pb_10100 cc_10100 rfl rfl rfl rfl rfl (x_kk rfl) (x_kk rfl) rfl (h) rfl ?_
  refine f_i2l (M := mL_indexFor) 9 dL_indexFor_8 rfl ?_
  refine e_lst (M := mL_indexFor) (w := 1) (j := 0) dL_indexFor_9 (x_kk rfl) rfl kn_0 (by omega) (by omega) ?_
  refine f_goto (M := mL_indexFor) 29 dL_indexFor_10 rfl ?_
  refine f_iconst (M := mL_indexFor) 30 dL_indexFor_29 ki_0 rfl ?_
  refine e_ri (M := mL_indexFor) dL_indexFor_30 rfl (x_kk rfl) (x_kk rfl) ?_
  rfl
theorem hf_indexFor_2 : x_hfind 2 5 (x_mo mL_indexFor) (x_mh mL_indexFor) = some 13 := by decide +kernel
theorem w_indexFor_x2 {v0 v1 : Int32} {I' : Nat → Nat → Int32} {L' : Nat → Nat → Int64} {R' : Nat → Nat → Option Nat} (h : x_Cv X mX8_indexFor [.ref 0, .int v0, .int v1] (I, L, R) 233 (.inr 2, (I', L', R'), 233)) : x_Cv X mL_indexFor [.ref 0, .int v0, .int v1, .ref 232] (I, L, R) 233 (.inl (some (.int (1))), (I', L', R'), 233) := by
  show x_Ev X mL_indexFor 0 [some (.ref 0), some (.int v0), some (.int v1), some (.ref 232), none] [] ((I, L, R), 233, 0, 0) _
  refine f_aload_n (M := mL_indexFor) 1 dL_indexFor_0 rfl rfl ?_
  refine f_iconst (M := mL_indexFor) 2 dL_indexFor_1 ki_0 rfl ?_
  refine f_aload_n (M := mL_indexFor) 3 dL_indexFor_2 rfl rfl ?_
  refine f_iload_n (M := mL_indexFor) 4 dL_indexFor_3 rfl rfl ?_
  refine f_iload_n (M := mL_indexFor) 5 dL_indexFor_4 rfl rfl ?_
  exact e_cVX (M := mL_indexFor) 4 24 dL_indexFor_5 pa_10100 pb_10100 cc_10100 rfl rfl rfl rfl rfl (x_kk rfl) (x_kk rfl) rfl (h) (hx (M := mL_indexFor) rfl hf_indexFor_2 (hb_w (M := mL_indexFor) dL_indexFor_13 dL_indexFor_15 dL_indexFor_16 rfl ki_1) rfl (x_kk rfl) (x_kk rfl))
theorem hf_indexFor_1 : x_hfind 1 5 (x_mo mL_indexFor) (x_mh mL_indexFor) = some 17 := by decide +kernel
theorem w_indexFor_x1 {v0 v1 : Int32} {I' : Nat → Nat → Int32} {L' : Nat → Nat → Int64} {R' : Nat → Nat → Option Nat} (h : x_Cv X mX8_indexFor [.ref 0, .int v0, .int v1] (I, L, R) 233 (.inr 1, (I', L', R'), 233)) : x_Cv X mL_indexFor [.ref 0, .int v0, .int v1, .ref 232] (I, L, R) 233 (.inl (some (.int (2))), (I', L', R'), 233) := by
  show x_Ev X mL_indexFor 0 [some (.ref 0), some (.int v0), some (.int v1), some (.ref 232), none] [] ((I, L, R), 233, 0, 0) _
  refine f_aload_n (M := mL_indexFor) 1 dL_indexFor_0 rfl rfl ?_
  refine f_iconst (M := mL_indexFor) 2 dL_indexFor_1 ki_0 rfl ?_
  refine f_aload_n (M := mL_indexFor) 3 dL_indexFor_2 rfl rfl ?_
  refine f_iload_n (M := mL_indexFor) 4 dL_indexFor_3 rfl rfl ?_
  refine f_iload_n (M := mL_indexFor) 5 dL_indexFor_4 rfl rfl ?_
  exact e_cVX (M := mL_indexFor) 4 24 dL_indexFor_5 pa_10100 pb_10100 cc_10100 rfl rfl rfl rfl rfl (x_kk rfl) (x_kk rfl) rfl (h) (hx (M := mL_indexFor) rfl hf_indexFor_1 (hb_w (M := mL_indexFor) dL_indexFor_17 dL_indexFor_19 dL_indexFor_20 rfl ki_2) rfl (x_kk rfl) (x_kk rfl))
theorem hf_indexFor_0 : x_hfind 0 5 (x_mo mL_indexFor) (x_mh mL_indexFor) = some 21 := by decide +kernel
theorem w_indexFor_x0 {v0 v1 : Int32} {I' : Nat → Nat → Int32} {L' : Nat → Nat → Int64} {R' : Nat → Nat → Option Nat} (h : x_Cv X mX8_indexFor [.ref 0, .int v0, .int v1] (I, L, R) 233 (.inr 0, (I', L', R'), 233)) : x_Cv X mL_indexFor [.ref 0, .int v0, .int v1, .ref 232] (I, L, R) 233 (.inl (some (.int (3))), (I', L', R'), 233) := by
  show x_Ev X mL_indexFor 0 [some (.ref 0), some (.int v0), some (.int v1), some (.ref 232), none] [] ((I, L, R), 233, 0, 0) _
  refine f_aload_n (M := mL_indexFor) 1 dL_indexFor_0 rfl rfl ?_
  refine f_iconst (M := mL_indexFor) 2 dL_indexFor_1 ki_0 rfl ?_
  refine f_aload_n (M := mL_indexFor) 3 dL_indexFor_2 rfl rfl ?_
  refine f_iload_n (M := mL_indexFor) 4 dL_indexFor_3 rfl rfl ?_
  refine f_iload_n (M := mL_indexFor) 5 dL_indexFor_4 rfl rfl ?_
  exact e_cVX (M := mL_indexFor) 4 24 dL_indexFor_5 pa_10100 pb_10100 cc_10100 rfl rfl rfl rfl rfl (x_kk rfl) (x_kk rfl) rfl (h) (hx (M := mL_indexFor) rfl hf_indexFor_0 (hb_w (M := mL_indexFor) dL_indexFor_21 dL_indexFor_23 dL_indexFor_24 rfl ki_3) rfl (x_kk rfl) (x_kk rfl))
theorem hf_indexFor_3 : x_hfind 3 5 (x_mo mL_indexFor) (x_mh mL_indexFor) = some 25 := by decide +kernel
theorem w_indexFor_x3 {v0 v1 : Int32} {I' : Nat → Nat → Int32} {L' : Nat → Nat → Int64} {R' : Nat → Nat → Option Nat} (h : x_Cv X mX8_indexFor [.ref 0, .int v0, .int v1] (I, L, R) 233 (.inr 3, (I', L', R'), 233)) : x_Cv X mL_indexFor [.ref 0, .int v0, .int v1, .ref 232] (I, L, R) 233 (.inl (some (.int (4))), (I', L', R'), 233) := by
  show x_Ev X mL_indexFor 0 [some (.ref 0), some (.int v0), some (.int v1), some (.ref 232), none] [] ((I, L, R), 233, 0, 0) _
  refine f_aload_n (M := mL_indexFor) 1 dL_indexFor_0 rfl rfl ?_
  refine f_iconst (M := mL_indexFor) 2 dL_indexFor_1 ki_0 rfl ?_
  refine f_aload_n (M := mL_indexFor) 3 dL_indexFor_2 rfl rfl ?_
  refine f_iload_n (M := mL_indexFor) 4 dL_indexFor_3 rfl rfl ?_
  refine f_iload_n (M := mL_indexFor) 5 dL_indexFor_4 rfl rfl ?_
  exact e_cVX (M := mL_indexFor) 4 24 dL_indexFor_5 pa_10100 pb_10100 cc_10100 rfl rfl rfl rfl rfl (x_kk rfl) (x_kk rfl) rfl (h) (hx (M := mL_indexFor) rfl hf_indexFor_3 (hb_w (M := mL_indexFor) dL_indexFor_25 dL_indexFor_27 dL_indexFor_28 rfl ki_4) rfl (x_kk rfl) (x_kk rfl))
theorem w_scale {v0 v1 v2 : Int32} {v : Int32} {I' : Nat → Nat → Int32} {L' : Nat → Nat → Int64} {R' : Nat → Nat → Option Nat} (h : x_Cv X mX8_scale [.ref 0, .int v0, .int v1, .int v2] (I, L, R) 233 (.inl (some (.int v)), (I', L', R'), 233)) : x_Cv X mL_scale [.ref 0, .int v0, .int v1, .int v2, .ref 232] (I, L, R) 233 (.inl (some (.int (0))), (I', va_up L' 232 (va_up (L' 232) 0 (v.toInt64)), R'), 233) := by
  show x_Ev X mL_scale 0 [some (.ref 0), some (.int v0), some (.int v1), some (.int v2), some (.ref 232), none] [] ((I, L, R), 233, 0, 0) _
  refine f_aload (M := mL_scale) 2 dL_scale_0 rfl rfl ?_
  refine f_iconst (M := mL_scale) 3 dL_scale_2 ki_0 rfl ?_
  refine f_aload_n (M := mL_scale) 4 dL_scale_3 rfl rfl ?_
  refine f_iload_n (M := mL_scale) 5 dL_scale_4 rfl rfl ?_
  refine f_iload_n (M := mL_scale) 6 dL_scale_5 rfl rfl ?_
  refine f_iload_n (M := mL_scale) 7 dL_scale_6 rfl rfl ?_
  refine e_cV (M := mL_scale) [_, _, _] 3 18 dL_scale_7 pa_10103 pb_10103 cc_10103 rfl rfl rfl rfl rfl (x_kk rfl) (x_kk rfl) rfl (h) rfl ?_
  refine f_i2l (M := mL_scale) 11 dL_scale_10 rfl ?_
  refine e_lst (M := mL_scale) (w := 1) (j := 0) dL_scale_11 (x_kk rfl) rfl kn_0 (by omega) (by omega) ?_
  refine f_goto (M := mL_scale) 27 dL_scale_12 rfl ?_
  refine f_iconst (M := mL_scale) 28 dL_scale_27 ki_0 rfl ?_
  refine e_ri (M := mL_scale) dL_scale_28 rfl (x_kk rfl) (x_kk rfl) ?_
  rfl
theorem hf_scale_2 : x_hfind 2 7 (x_mo mL_scale) (x_mh mL_scale) = some 15 := by decide +kernel
theorem w_scale_x2 {v0 v1 v2 : Int32} {I' : Nat → Nat → Int32} {L' : Nat → Nat → Int64} {R' : Nat → Nat → Option Nat} (h : x_Cv X mX8_scale [.ref 0, .int v0, .int v1, .int v2] (I, L, R) 233 (.inr 2, (I', L', R'), 233)) : x_Cv X mL_scale [.ref 0, .int v0, .int v1, .int v2, .ref 232] (I, L, R) 233 (.inl (some (.int (1))), (I', L', R'), 233) := by
  show x_Ev X mL_scale 0 [some (.ref 0), some (.int v0), some (.int v1), some (.int v2), some (.ref 232), none] [] ((I, L, R), 233, 0, 0) _
  refine f_aload (M := mL_scale) 2 dL_scale_0 rfl rfl ?_
  refine f_iconst (M := mL_scale) 3 dL_scale_2 ki_0 rfl ?_
  refine f_aload_n (M := mL_scale) 4 dL_scale_3 rfl rfl ?_
  refine f_iload_n (M := mL_scale) 5 dL_scale_4 rfl rfl ?_
  refine f_iload_n (M := mL_scale) 6 dL_scale_5 rfl rfl ?_
  refine f_iload_n (M := mL_scale) 7 dL_scale_6 rfl rfl ?_
  exact e_cVX (M := mL_scale) 3 18 dL_scale_7 pa_10103 pb_10103 cc_10103 rfl rfl rfl rfl rfl (x_kk rfl) (x_kk rfl) rfl (h) (hx (M := mL_scale) rfl hf_scale_2 (hb_w (M := mL_scale) dL_scale_15 dL_scale_17 dL_scale_18 rfl ki_1) rfl (x_kk rfl) (x_kk rfl))
theorem hf_scale_1 : x_hfind 1 7 (x_mo mL_scale) (x_mh mL_scale) = some 19 := by decide +kernel
theorem w_scale_x1 {v0 v1 v2 : Int32} {I' : Nat → Nat → Int32} {L' : Nat → Nat → Int64} {R' : Nat → Nat → Option Nat} (h : x_Cv X mX8_scale [.ref 0, .int v0, .int v1, .int v2] (I, L, R) 233 (.inr 1, (I', L', R'), 233)) : x_Cv X mL_scale [.ref 0, .int v0, .int v1, .int v2, .ref 232] (I, L, R) 233 (.inl (some (.int (2))), (I', L', R'), 233) := by
  show x_Ev X mL_scale 0 [some (.ref 0), some (.int v0), some (.int v1), some (.int v2), some (.ref 232), none] [] ((I, L, R), 233, 0, 0) _
  refine f_aload (M := mL_scale) 2 dL_scale_0 rfl rfl ?_
  refine f_iconst (M := mL_scale) 3 dL_scale_2 ki_0 rfl ?_
  refine f_aload_n (M := mL_scale) 4 dL_scale_3 rfl rfl ?_
  refine f_iload_n (M := mL_scale) 5 dL_scale_4 rfl rfl ?_
  refine f_iload_n (M := mL_scale) 6 dL_scale_5 rfl rfl ?_
  refine f_iload_n (M := mL_scale) 7 dL_scale_6 rfl rfl ?_
  exact e_cVX (M := mL_scale) 3 18 dL_scale_7 pa_10103 pb_10103 cc_10103 rfl rfl rfl rfl rfl (x_kk rfl) (x_kk rfl) rfl (h) (hx (M := mL_scale) rfl hf_scale_1 (hb_w (M := mL_scale) dL_scale_19 dL_scale_21 dL_scale_22 rfl ki_2) rfl (x_kk rfl) (x_kk rfl))
theorem hf_scale_0 : x_hfind 0 7 (x_mo mL_scale) (x_mh mL_scale) = some 23 := by decide +kernel
theorem w_scale_x0 {v0 v1 v2 : Int32} {I' : Nat → Nat → Int32} {L' : Nat → Nat → Int64} {R' : Nat → Nat → Option Nat} (h : x_Cv X mX8_scale [.ref 0, .int v0, .int v1, .int v2] (I, L, R) 233 (.inr 0, (I', L', R'), 233)) : x_Cv X mL_scale [.ref 0, .int v0, .int v1, .int v2, .ref 232] (I, L, R) 233 (.inl (some (.int (3))), (I', L', R'), 233) := by
  show x_Ev X mL_scale 0 [some (.ref 0), some (.int v0), some (.int v1), some (.int v2), some (.ref 232), none] [] ((I, L, R), 233, 0, 0) _
  refine f_aload (M := mL_scale) 2 dL_scale_0 rfl rfl ?_
  refine f_iconst (M := mL_scale) 3 dL_scale_2 ki_0 rfl ?_
  refine f_aload_n (M := mL_scale) 4 dL_scale_3 rfl rfl ?_
  refine f_iload_n (M := mL_scale) 5 dL_scale_4 rfl rfl ?_
  refine f_iload_n (M := mL_scale) 6 dL_scale_5 rfl rfl ?_
  refine f_iload_n (M := mL_scale) 7 dL_scale_6 rfl rfl ?_
  exact e_cVX (M := mL_scale) 3 18 dL_scale_7 pa_10103 pb_10103 cc_10103 rfl rfl rfl rfl rfl (x_kk rfl) (x_kk rfl) rfl (h) (hx (M := mL_scale) rfl hf_scale_0 (hb_w (M := mL_scale) dL_scale_23 dL_scale_25 dL_scale_26 rfl ki_3) rfl (x_kk rfl) (x_kk rfl))
theorem w_check {v0 v1 v2 : Int32} {v : Int32} {I' : Nat → Nat → Int32} {L' : Nat → Nat → Int64} {R' : Nat → Nat → Option Nat} (h : x_Cv X mX8_check [.ref 0, .int v0, .int v1, .int v2] (I, L, R) 233 (.inl (some (.int v)), (I', L', R'), 233)) : x_Cv X mL_check [.ref 0, .int v0, .int v1, .int v2, .ref 232] (I, L, R) 233 (.inl (some (.int (0))), (I', va_up L' 232 (va_up (L' 232) 0 (v.toInt64)), R'), 233) := by
  show x_Ev X mL_check 0 [some (.ref 0), some (.int v0), some (.int v1), some (.int v2), some (.ref 232), none] [] ((I, L, R), 233, 0, 0) _
  refine f_aload (M := mL_check) 2 dL_check_0 rfl rfl ?_
  refine f_iconst (M := mL_check) 3 dL_check_2 ki_0 rfl ?_
  refine f_aload_n (M := mL_check) 4 dL_check_3 rfl rfl ?_
  refine f_iload_n (M := mL_check) 5 dL_check_4 rfl rfl ?_
  refine f_iload_n (M := mL_check) 6 dL_check_5 rfl rfl ?_
  refine f_iload_n (M := mL_check) 7 dL_check_6 rfl rfl ?_
  refine e_cV (M := mL_check) [_, _, _] 3 18 dL_check_7 pa_10106 pb_10106 cc_10106 rfl rfl rfl rfl rfl (x_kk rfl) (x_kk rfl) rfl (h) rfl ?_
  refine f_i2l (M := mL_check) 11 dL_check_10 rfl ?_
  refine e_lst (M := mL_check) (w := 1) (j := 0) dL_check_11 (x_kk rfl) rfl kn_0 (by omega) (by omega) ?_
  refine f_goto (M := mL_check) 27 dL_check_12 rfl ?_
  refine f_iconst (M := mL_check) 28 dL_check_27 ki_0 rfl ?_
  refine e_ri (M := mL_check) dL_check_28 rfl (x_kk rfl) (x_kk rfl) ?_
  rfl
theorem hf_check_2 : x_hfind 2 7 (x_mo mL_check) (x_mh mL_check) = some 15 := by decide +kernel
theorem w_check_x2 {v0 v1 v2 : Int32} {I' : Nat → Nat → Int32} {L' : Nat → Nat → Int64} {R' : Nat → Nat → Option Nat} (h : x_Cv X mX8_check [.ref 0, .int v0, .int v1, .int v2] (I, L, R) 233 (.inr 2, (I', L', R'), 233)) : x_Cv X mL_check [.ref 0, .int v0, .int v1, .int v2, .ref 232] (I, L, R) 233 (.inl (some (.int (1))), (I', L', R'), 233) := by
  show x_Ev X mL_check 0 [some (.ref 0), some (.int v0), some (.int v1), some (.int v2), some (.ref 232), none] [] ((I, L, R), 233, 0, 0) _
  refine f_aload (M := mL_check) 2 dL_check_0 rfl rfl ?_
  refine f_iconst (M := mL_check) 3 dL_check_2 ki_0 rfl ?_
  refine f_aload_n (M := mL_check) 4 dL_check_3 rfl rfl ?_
  refine f_iload_n (M := mL_check) 5 dL_check_4 rfl rfl ?_
  refine f_iload_n (M := mL_check) 6 dL_check_5 rfl rfl ?_
  refine f_iload_n (M := mL_check) 7 dL_check_6 rfl rfl ?_
  exact e_cVX (M := mL_check) 3 18 dL_check_7 pa_10106 pb_10106 cc_10106 rfl rfl rfl rfl rfl (x_kk rfl) (x_kk rfl) rfl (h) (hx (M := mL_check) rfl hf_check_2 (hb_w (M := mL_check) dL_check_15 dL_check_17 dL_check_18 rfl ki_1) rfl (x_kk rfl) (x_kk rfl))
theorem hf_check_1 : x_hfind 1 7 (x_mo mL_check) (x_mh mL_check) = some 19 := by decide +kernel
theorem w_check_x1 {v0 v1 v2 : Int32} {I' : Nat → Nat → Int32} {L' : Nat → Nat → Int64} {R' : Nat → Nat → Option Nat} (h : x_Cv X mX8_check [.ref 0, .int v0, .int v1, .int v2] (I, L, R) 233 (.inr 1, (I', L', R'), 233)) : x_Cv X mL_check [.ref 0, .int v0, .int v1, .int v2, .ref 232] (I, L, R) 233 (.inl (some (.int (2))), (I', L', R'), 233) := by
  show x_Ev X mL_check 0 [some (.ref 0), some (.int v0), some (.int v1), some (.int v2), some (.ref 232), none] [] ((I, L, R), 233, 0, 0) _
  refine f_aload (M := mL_check) 2 dL_check_0 rfl rfl ?_
  refine f_iconst (M := mL_check) 3 dL_check_2 ki_0 rfl ?_
  refine f_aload_n (M := mL_check) 4 dL_check_3 rfl rfl ?_
  refine f_iload_n (M := mL_check) 5 dL_check_4 rfl rfl ?_
  refine f_iload_n (M := mL_check) 6 dL_check_5 rfl rfl ?_
  refine f_iload_n (M := mL_check) 7 dL_check_6 rfl rfl ?_
  exact e_cVX (M := mL_check) 3 18 dL_check_7 pa_10106 pb_10106 cc_10106 rfl rfl rfl rfl rfl (x_kk rfl) (x_kk rfl) rfl (h) (hx (M := mL_check) rfl hf_check_1 (hb_w (M := mL_check) dL_check_19 dL_check_21 dL_check_22 rfl ki_2) rfl (x_kk rfl) (x_kk rfl))
theorem hf_check_0 : x_hfind 0 7 (x_mo mL_check) (x_mh mL_check) = some 23 := by decide +kernel
theorem w_check_x0 {v0 v1 v2 : Int32} {I' : Nat → Nat → Int32} {L' : Nat → Nat → Int64} {R' : Nat → Nat → Option Nat} (h : x_Cv X mX8_check [.ref 0, .int v0, .int v1, .int v2] (I, L, R) 233 (.inr 0, (I', L', R'), 233)) : x_Cv X mL_check [.ref 0, .int v0, .int v1, .int v2, .ref 232] (I, L, R) 233 (.inl (some (.int (3))), (I', L', R'), 233) := by
  show x_Ev X mL_check 0 [some (.ref 0), some (.int v0), some (.int v1), some (.int v2), some (.ref 232), none] [] ((I, L, R), 233, 0, 0) _
  refine f_aload (M := mL_check) 2 dL_check_0 rfl rfl ?_
  refine f_iconst (M := mL_check) 3 dL_check_2 ki_0 rfl ?_
  refine f_aload_n (M := mL_check) 4 dL_check_3 rfl rfl ?_
  refine f_iload_n (M := mL_check) 5 dL_check_4 rfl rfl ?_
  refine f_iload_n (M := mL_check) 6 dL_check_5 rfl rfl ?_
  refine f_iload_n (M := mL_check) 7 dL_check_6 rfl rfl ?_
  exact e_cVX (M := mL_check) 3 18 dL_check_7 pa_10106 pb_10106 cc_10106 rfl rfl rfl rfl rfl (x_kk rfl) (x_kk rfl) rfl (h) (hx (M := mL_check) rfl hf_check_0 (hb_w (M := mL_check) dL_check_23 dL_check_25 dL_check_26 rfl ki_3) rfl (x_kk rfl) (x_kk rfl))
theorem w_voidLoad {v0 : Int32} {v : Int32} {I' : Nat → Nat → Int32} {L' : Nat → Nat → Int64} {R' : Nat → Nat → Option Nat} (h : x_Cv X mX8_voidLoad [.ref 0, .int v0] (I, L, R) 233 (.inl (some (.int v)), (I', L', R'), 233)) : x_Cv X mL_voidLoad [.ref 0, .int v0, .ref 232] (I, L, R) 233 (.inl (some (.int (0))), (I', va_up L' 232 (va_up (L' 232) 0 (v.toInt64)), R'), 233) := by
  show x_Ev X mL_voidLoad 0 [some (.ref 0), some (.int v0), some (.ref 232), none] [] ((I, L, R), 233, 0, 0) _
  refine f_aload_n (M := mL_voidLoad) 1 dL_voidLoad_0 rfl rfl ?_
  refine f_iconst (M := mL_voidLoad) 2 dL_voidLoad_1 ki_0 rfl ?_
  refine f_aload_n (M := mL_voidLoad) 3 dL_voidLoad_2 rfl rfl ?_
  refine f_iload_n (M := mL_voidLoad) 4 dL_voidLoad_3 rfl rfl ?_
  refine e_cV (M := mL_voidLoad) [_, _, _] 2 12 dL_voidLoad_4 pa_10109 pb_10109 cc_10109 rfl rfl rfl rfl rfl (x_kk rfl) (x_kk rfl) rfl (h) rfl ?_
  refine f_i2l (M := mL_voidLoad) 8 dL_voidLoad_7 rfl ?_
  refine e_lst (M := mL_voidLoad) (w := 1) (j := 0) dL_voidLoad_8 (x_kk rfl) rfl kn_0 (by omega) (by omega) ?_
  refine f_goto (M := mL_voidLoad) 18 dL_voidLoad_9 rfl ?_
  refine f_iconst (M := mL_voidLoad) 19 dL_voidLoad_18 ki_0 rfl ?_
  refine e_ri (M := mL_voidLoad) dL_voidLoad_19 rfl (x_kk rfl) (x_kk rfl) ?_
  rfl
theorem hf_voidLoad_2 : x_hfind 2 4 (x_mo mL_voidLoad) (x_mh mL_voidLoad) = some 12 := by decide +kernel
theorem w_voidLoad_x2 {v0 : Int32} {I' : Nat → Nat → Int32} {L' : Nat → Nat → Int64} {R' : Nat → Nat → Option Nat} (h : x_Cv X mX8_voidLoad [.ref 0, .int v0] (I, L, R) 233 (.inr 2, (I', L', R'), 233)) : x_Cv X mL_voidLoad [.ref 0, .int v0, .ref 232] (I, L, R) 233 (.inl (some (.int (1))), (I', L', R'), 233) := by
  show x_Ev X mL_voidLoad 0 [some (.ref 0), some (.int v0), some (.ref 232), none] [] ((I, L, R), 233, 0, 0) _
  refine f_aload_n (M := mL_voidLoad) 1 dL_voidLoad_0 rfl rfl ?_
  refine f_iconst (M := mL_voidLoad) 2 dL_voidLoad_1 ki_0 rfl ?_
  refine f_aload_n (M := mL_voidLoad) 3 dL_voidLoad_2 rfl rfl ?_
  refine f_iload_n (M := mL_voidLoad) 4 dL_voidLoad_3 rfl rfl ?_
  exact e_cVX (M := mL_voidLoad) 2 12 dL_voidLoad_4 pa_10109 pb_10109 cc_10109 rfl rfl rfl rfl rfl (x_kk rfl) (x_kk rfl) rfl (h) (hx (M := mL_voidLoad) rfl hf_voidLoad_2 (hb_n (M := mL_voidLoad) dL_voidLoad_12 dL_voidLoad_13 dL_voidLoad_14 rfl ki_1) rfl (x_kk rfl) (x_kk rfl))
theorem hf_voidLoad_0 : x_hfind 0 4 (x_mo mL_voidLoad) (x_mh mL_voidLoad) = some 15 := by decide +kernel
theorem w_voidLoad_x0 {v0 : Int32} {I' : Nat → Nat → Int32} {L' : Nat → Nat → Int64} {R' : Nat → Nat → Option Nat} (h : x_Cv X mX8_voidLoad [.ref 0, .int v0] (I, L, R) 233 (.inr 0, (I', L', R'), 233)) : x_Cv X mL_voidLoad [.ref 0, .int v0, .ref 232] (I, L, R) 233 (.inl (some (.int (2))), (I', L', R'), 233) := by
  show x_Ev X mL_voidLoad 0 [some (.ref 0), some (.int v0), some (.ref 232), none] [] ((I, L, R), 233, 0, 0) _
  refine f_aload_n (M := mL_voidLoad) 1 dL_voidLoad_0 rfl rfl ?_
  refine f_iconst (M := mL_voidLoad) 2 dL_voidLoad_1 ki_0 rfl ?_
  refine f_aload_n (M := mL_voidLoad) 3 dL_voidLoad_2 rfl rfl ?_
  refine f_iload_n (M := mL_voidLoad) 4 dL_voidLoad_3 rfl rfl ?_
  exact e_cVX (M := mL_voidLoad) 2 12 dL_voidLoad_4 pa_10109 pb_10109 cc_10109 rfl rfl rfl rfl rfl (x_kk rfl) (x_kk rfl) rfl (h) (hx (M := mL_voidLoad) rfl hf_voidLoad_0 (hb_n (M := mL_voidLoad) dL_voidLoad_15 dL_voidLoad_16 dL_voidLoad_17 rfl ki_2) rfl (x_kk rfl) (x_kk rfl))
theorem w_worstCheck {v : Int32} {I' : Nat → Nat → Int32} {L' : Nat → Nat → Int64} {R' : Nat → Nat → Option Nat} (h : x_Cv X mX8_worstCheck [.ref 0] (I, L, R) 233 (.inl (some (.int v)), (I', L', R'), 233)) : x_Cv X mL_worstCheck [.ref 0, .ref 232] (I, L, R) 233 (.inl (some (.int (0))), (I', va_up L' 232 (va_up (L' 232) 0 (v.toInt64)), R'), 233) := by
  show x_Ev X mL_worstCheck 0 [some (.ref 0), some (.ref 232), none] [] ((I, L, R), 233, 0, 0) _
  refine f_aload_n (M := mL_worstCheck) 1 dL_worstCheck_0 rfl rfl ?_
  refine f_iconst (M := mL_worstCheck) 2 dL_worstCheck_1 ki_0 rfl ?_
  refine f_aload_n (M := mL_worstCheck) 3 dL_worstCheck_2 rfl rfl ?_
  refine e_cV (M := mL_worstCheck) [_, _, _] 1 6 dL_worstCheck_3 pa_10112 pb_10112 cc_10112 rfl rfl rfl rfl rfl (x_kk rfl) (x_kk rfl) rfl (h) rfl ?_
  refine f_i2l (M := mL_worstCheck) 7 dL_worstCheck_6 rfl ?_
  refine e_lst (M := mL_worstCheck) (w := 1) (j := 0) dL_worstCheck_7 (x_kk rfl) rfl kn_0 (by omega) (by omega) ?_
  refine f_goto (M := mL_worstCheck) 14 dL_worstCheck_8 rfl ?_
  refine f_iconst (M := mL_worstCheck) 15 dL_worstCheck_14 ki_0 rfl ?_
  refine e_ri (M := mL_worstCheck) dL_worstCheck_15 rfl (x_kk rfl) (x_kk rfl) ?_
  rfl
theorem hf_worstCheck_3 : x_hfind 3 3 (x_mo mL_worstCheck) (x_mh mL_worstCheck) = some 11 := by decide +kernel
theorem w_worstCheck_x3 {I' : Nat → Nat → Int32} {L' : Nat → Nat → Int64} {R' : Nat → Nat → Option Nat} (h : x_Cv X mX8_worstCheck [.ref 0] (I, L, R) 233 (.inr 3, (I', L', R'), 233)) : x_Cv X mL_worstCheck [.ref 0, .ref 232] (I, L, R) 233 (.inl (some (.int (1))), (I', L', R'), 233) := by
  show x_Ev X mL_worstCheck 0 [some (.ref 0), some (.ref 232), none] [] ((I, L, R), 233, 0, 0) _
  refine f_aload_n (M := mL_worstCheck) 1 dL_worstCheck_0 rfl rfl ?_
  refine f_iconst (M := mL_worstCheck) 2 dL_worstCheck_1 ki_0 rfl ?_
  refine f_aload_n (M := mL_worstCheck) 3 dL_worstCheck_2 rfl rfl ?_
  exact e_cVX (M := mL_worstCheck) 1 6 dL_worstCheck_3 pa_10112 pb_10112 cc_10112 rfl rfl rfl rfl rfl (x_kk rfl) (x_kk rfl) rfl (h) (hx (M := mL_worstCheck) rfl hf_worstCheck_3 (hb_n (M := mL_worstCheck) dL_worstCheck_11 dL_worstCheck_12 dL_worstCheck_13 rfl ki_1) rfl (x_kk rfl) (x_kk rfl))
theorem w_scaled {v0 v1 v2 : Int32} {v : Int32} {I' : Nat → Nat → Int32} {L' : Nat → Nat → Int64} {R' : Nat → Nat → Option Nat} (h : x_Cv X mX8_scaled [.ref 0, .int v0, .int v1, .int v2] (I, L, R) 233 (.inl (some (.int v)), (I', L', R'), 233)) : x_Cv X mL_scaled [.ref 0, .int v0, .int v1, .int v2, .ref 232] (I, L, R) 233 (.inl (some (.int (0))), (I', va_up L' 232 (va_up (L' 232) 0 (v.toInt64)), R'), 233) := by
  show x_Ev X mL_scaled 0 [some (.ref 0), some (.int v0), some (.int v1), some (.int v2), some (.ref 232), none] [] ((I, L, R), 233, 0, 0) _
  refine f_aload (M := mL_scaled) 2 dL_scaled_0 rfl rfl ?_
  refine f_iconst (M := mL_scaled) 3 dL_scaled_2 ki_0 rfl ?_
  refine f_aload_n (M := mL_scaled) 4 dL_scaled_3 rfl rfl ?_
  refine f_iload_n (M := mL_scaled) 5 dL_scaled_4 rfl rfl ?_
  refine f_iload_n (M := mL_scaled) 6 dL_scaled_5 rfl rfl ?_
  refine f_iload_n (M := mL_scaled) 7 dL_scaled_6 rfl rfl ?_
  refine e_cV (M := mL_scaled) [_, _, _] 3 18 dL_scaled_7 pa_10115 pb_10115 cc_10115 rfl rfl rfl rfl rfl (x_kk rfl) (x_kk rfl) rfl (h) rfl ?_
  refine f_i2l (M := mL_scaled) 11 dL_scaled_10 rfl ?_
  refine e_lst (M := mL_scaled) (w := 1) (j := 0) dL_scaled_11 (x_kk rfl) rfl kn_0 (by omega) (by omega) ?_
  refine f_goto (M := mL_scaled) 27 dL_scaled_12 rfl ?_
  refine f_iconst (M := mL_scaled) 28 dL_scaled_27 ki_0 rfl ?_
  refine e_ri (M := mL_scaled) dL_scaled_28 rfl (x_kk rfl) (x_kk rfl) ?_
  rfl
theorem hf_scaled_2 : x_hfind 2 7 (x_mo mL_scaled) (x_mh mL_scaled) = some 15 := by decide +kernel
theorem w_scaled_x2 {v0 v1 v2 : Int32} {I' : Nat → Nat → Int32} {L' : Nat → Nat → Int64} {R' : Nat → Nat → Option Nat} (h : x_Cv X mX8_scaled [.ref 0, .int v0, .int v1, .int v2] (I, L, R) 233 (.inr 2, (I', L', R'), 233)) : x_Cv X mL_scaled [.ref 0, .int v0, .int v1, .int v2, .ref 232] (I, L, R) 233 (.inl (some (.int (1))), (I', L', R'), 233) := by
  show x_Ev X mL_scaled 0 [some (.ref 0), some (.int v0), some (.int v1), some (.int v2), some (.ref 232), none] [] ((I, L, R), 233, 0, 0) _
  refine f_aload (M := mL_scaled) 2 dL_scaled_0 rfl rfl ?_
  refine f_iconst (M := mL_scaled) 3 dL_scaled_2 ki_0 rfl ?_
  refine f_aload_n (M := mL_scaled) 4 dL_scaled_3 rfl rfl ?_
  refine f_iload_n (M := mL_scaled) 5 dL_scaled_4 rfl rfl ?_
  refine f_iload_n (M := mL_scaled) 6 dL_scaled_5 rfl rfl ?_
  refine f_iload_n (M := mL_scaled) 7 dL_scaled_6 rfl rfl ?_
  exact e_cVX (M := mL_scaled) 3 18 dL_scaled_7 pa_10115 pb_10115 cc_10115 rfl rfl rfl rfl rfl (x_kk rfl) (x_kk rfl) rfl (h) (hx (M := mL_scaled) rfl hf_scaled_2 (hb_w (M := mL_scaled) dL_scaled_15 dL_scaled_17 dL_scaled_18 rfl ki_1) rfl (x_kk rfl) (x_kk rfl))
theorem hf_scaled_1 : x_hfind 1 7 (x_mo mL_scaled) (x_mh mL_scaled) = some 19 := by decide +kernel
theorem w_scaled_x1 {v0 v1 v2 : Int32} {I' : Nat → Nat → Int32} {L' : Nat → Nat → Int64} {R' : Nat → Nat → Option Nat} (h : x_Cv X mX8_scaled [.ref 0, .int v0, .int v1, .int v2] (I, L, R) 233 (.inr 1, (I', L', R'), 233)) : x_Cv X mL_scaled [.ref 0, .int v0, .int v1, .int v2, .ref 232] (I, L, R) 233 (.inl (some (.int (2))), (I', L', R'), 233) := by
  show x_Ev X mL_scaled 0 [some (.ref 0), some (.int v0), some (.int v1), some (.int v2), some (.ref 232), none] [] ((I, L, R), 233, 0, 0) _
  refine f_aload (M := mL_scaled) 2 dL_scaled_0 rfl rfl ?_
  refine f_iconst (M := mL_scaled) 3 dL_scaled_2 ki_0 rfl ?_
  refine f_aload_n (M := mL_scaled) 4 dL_scaled_3 rfl rfl ?_
  refine f_iload_n (M := mL_scaled) 5 dL_scaled_4 rfl rfl ?_
  refine f_iload_n (M := mL_scaled) 6 dL_scaled_5 rfl rfl ?_
  refine f_iload_n (M := mL_scaled) 7 dL_scaled_6 rfl rfl ?_
  exact e_cVX (M := mL_scaled) 3 18 dL_scaled_7 pa_10115 pb_10115 cc_10115 rfl rfl rfl rfl rfl (x_kk rfl) (x_kk rfl) rfl (h) (hx (M := mL_scaled) rfl hf_scaled_1 (hb_w (M := mL_scaled) dL_scaled_19 dL_scaled_21 dL_scaled_22 rfl ki_2) rfl (x_kk rfl) (x_kk rfl))
theorem hf_scaled_0 : x_hfind 0 7 (x_mo mL_scaled) (x_mh mL_scaled) = some 23 := by decide +kernel
theorem w_scaled_x0 {v0 v1 v2 : Int32} {I' : Nat → Nat → Int32} {L' : Nat → Nat → Int64} {R' : Nat → Nat → Option Nat} (h : x_Cv X mX8_scaled [.ref 0, .int v0, .int v1, .int v2] (I, L, R) 233 (.inr 0, (I', L', R'), 233)) : x_Cv X mL_scaled [.ref 0, .int v0, .int v1, .int v2, .ref 232] (I, L, R) 233 (.inl (some (.int (3))), (I', L', R'), 233) := by
  show x_Ev X mL_scaled 0 [some (.ref 0), some (.int v0), some (.int v1), some (.int v2), some (.ref 232), none] [] ((I, L, R), 233, 0, 0) _
  refine f_aload (M := mL_scaled) 2 dL_scaled_0 rfl rfl ?_
  refine f_iconst (M := mL_scaled) 3 dL_scaled_2 ki_0 rfl ?_
  refine f_aload_n (M := mL_scaled) 4 dL_scaled_3 rfl rfl ?_
  refine f_iload_n (M := mL_scaled) 5 dL_scaled_4 rfl rfl ?_
  refine f_iload_n (M := mL_scaled) 6 dL_scaled_5 rfl rfl ?_
  refine f_iload_n (M := mL_scaled) 7 dL_scaled_6 rfl rfl ?_
  exact e_cVX (M := mL_scaled) 3 18 dL_scaled_7 pa_10115 pb_10115 cc_10115 rfl rfl rfl rfl rfl (x_kk rfl) (x_kk rfl) rfl (h) (hx (M := mL_scaled) rfl hf_scaled_0 (hb_w (M := mL_scaled) dL_scaled_23 dL_scaled_25 dL_scaled_26 rfl ki_3) rfl (x_kk rfl) (x_kk rfl))
theorem w_cutShare {v0 : Int32} {v : Int64} {I' : Nat → Nat → Int32} {L' : Nat → Nat → Int64} {R' : Nat → Nat → Option Nat} (h : x_Cv X mX8_cutShare [.ref 0, .int v0] (I, L, R) 233 (.inl (some (.long v)), (I', L', R'), 233)) : x_Cv X mL_cutShare [.ref 0, .int v0, .ref 232] (I, L, R) 233 (.inl (some (.int (0))), (I', va_up L' 232 (va_up (L' 232) 0 (v)), R'), 233) := by
  show x_Ev X mL_cutShare 0 [some (.ref 0), some (.int v0), some (.ref 232), none] [] ((I, L, R), 233, 0, 0) _
  refine f_aload_n (M := mL_cutShare) 1 dL_cutShare_0 rfl rfl ?_
  refine f_iconst (M := mL_cutShare) 2 dL_cutShare_1 ki_0 rfl ?_
  refine f_aload_n (M := mL_cutShare) 3 dL_cutShare_2 rfl rfl ?_
  refine f_iload_n (M := mL_cutShare) 4 dL_cutShare_3 rfl rfl ?_
  refine e_cV (M := mL_cutShare) [_, _, _] 1 6 dL_cutShare_4 pa_10118 pb_10118 cc_10118 rfl rfl rfl rfl rfl (x_kk rfl) (x_kk rfl) rfl (h) rfl ?_
  refine e_lst (M := mL_cutShare) (w := 1) (j := 0) dL_cutShare_7 (x_kk rfl) rfl kn_0 (by omega) (by omega) ?_
  refine f_goto (M := mL_cutShare) 14 dL_cutShare_8 rfl ?_
  refine f_iconst (M := mL_cutShare) 15 dL_cutShare_14 ki_0 rfl ?_
  refine e_ri (M := mL_cutShare) dL_cutShare_15 rfl (x_kk rfl) (x_kk rfl) ?_
  rfl
theorem hf_cutShare_0 : x_hfind 0 4 (x_mo mL_cutShare) (x_mh mL_cutShare) = some 11 := by decide +kernel
theorem w_cutShare_x0 {v0 : Int32} {I' : Nat → Nat → Int32} {L' : Nat → Nat → Int64} {R' : Nat → Nat → Option Nat} (h : x_Cv X mX8_cutShare [.ref 0, .int v0] (I, L, R) 233 (.inr 0, (I', L', R'), 233)) : x_Cv X mL_cutShare [.ref 0, .int v0, .ref 232] (I, L, R) 233 (.inl (some (.int (1))), (I', L', R'), 233) := by
  show x_Ev X mL_cutShare 0 [some (.ref 0), some (.int v0), some (.ref 232), none] [] ((I, L, R), 233, 0, 0) _
  refine f_aload_n (M := mL_cutShare) 1 dL_cutShare_0 rfl rfl ?_
  refine f_iconst (M := mL_cutShare) 2 dL_cutShare_1 ki_0 rfl ?_
  refine f_aload_n (M := mL_cutShare) 3 dL_cutShare_2 rfl rfl ?_
  refine f_iload_n (M := mL_cutShare) 4 dL_cutShare_3 rfl rfl ?_
  exact e_cVX (M := mL_cutShare) 1 6 dL_cutShare_4 pa_10118 pb_10118 cc_10118 rfl rfl rfl rfl rfl (x_kk rfl) (x_kk rfl) rfl (h) (hx (M := mL_cutShare) rfl hf_cutShare_0 (hb_n (M := mL_cutShare) dL_cutShare_11 dL_cutShare_12 dL_cutShare_13 rfl ki_1) rfl (x_kk rfl) (x_kk rfl))
theorem w_net {v0 : Int32} {v : Int32} {I' : Nat → Nat → Int32} {L' : Nat → Nat → Int64} {R' : Nat → Nat → Option Nat} (h : x_Cv X mX8_net [.ref 0, .int v0] (I, L, R) 233 (.inl (some (.int v)), (I', L', R'), 233)) : x_Cv X mL_net [.ref 0, .int v0, .ref 232] (I, L, R) 233 (.inl (some (.int (0))), (I', va_up L' 232 (va_up (L' 232) 0 (v.toInt64)), R'), 233) := by
  show x_Ev X mL_net 0 [some (.ref 0), some (.int v0), some (.ref 232), none] [] ((I, L, R), 233, 0, 0) _
  refine f_aload_n (M := mL_net) 1 dL_net_0 rfl rfl ?_
  refine f_iconst (M := mL_net) 2 dL_net_1 ki_0 rfl ?_
  refine f_aload_n (M := mL_net) 3 dL_net_2 rfl rfl ?_
  refine f_iload_n (M := mL_net) 4 dL_net_3 rfl rfl ?_
  refine e_cV (M := mL_net) [_, _, _] 1 6 dL_net_4 pa_10122 pb_10122 cc_10122 rfl rfl rfl rfl rfl (x_kk rfl) (x_kk rfl) rfl (h) rfl ?_
  refine f_i2l (M := mL_net) 8 dL_net_7 rfl ?_
  refine e_lst (M := mL_net) (w := 1) (j := 0) dL_net_8 (x_kk rfl) rfl kn_0 (by omega) (by omega) ?_
  refine f_goto (M := mL_net) 15 dL_net_9 rfl ?_
  refine f_iconst (M := mL_net) 16 dL_net_15 ki_0 rfl ?_
  refine e_ri (M := mL_net) dL_net_16 rfl (x_kk rfl) (x_kk rfl) ?_
  rfl
theorem hf_net_2 : x_hfind 2 4 (x_mo mL_net) (x_mh mL_net) = some 12 := by decide +kernel
theorem w_net_x2 {v0 : Int32} {I' : Nat → Nat → Int32} {L' : Nat → Nat → Int64} {R' : Nat → Nat → Option Nat} (h : x_Cv X mX8_net [.ref 0, .int v0] (I, L, R) 233 (.inr 2, (I', L', R'), 233)) : x_Cv X mL_net [.ref 0, .int v0, .ref 232] (I, L, R) 233 (.inl (some (.int (1))), (I', L', R'), 233) := by
  show x_Ev X mL_net 0 [some (.ref 0), some (.int v0), some (.ref 232), none] [] ((I, L, R), 233, 0, 0) _
  refine f_aload_n (M := mL_net) 1 dL_net_0 rfl rfl ?_
  refine f_iconst (M := mL_net) 2 dL_net_1 ki_0 rfl ?_
  refine f_aload_n (M := mL_net) 3 dL_net_2 rfl rfl ?_
  refine f_iload_n (M := mL_net) 4 dL_net_3 rfl rfl ?_
  exact e_cVX (M := mL_net) 1 6 dL_net_4 pa_10122 pb_10122 cc_10122 rfl rfl rfl rfl rfl (x_kk rfl) (x_kk rfl) rfl (h) (hx (M := mL_net) rfl hf_net_2 (hb_n (M := mL_net) dL_net_12 dL_net_13 dL_net_14 rfl ki_1) rfl (x_kk rfl) (x_kk rfl))
theorem w_endMonth {v : Int64} {I' : Nat → Nat → Int32} {L' : Nat → Nat → Int64} {R' : Nat → Nat → Option Nat} (h : x_Cv X mX8_endMonth [.ref 0] (I, L, R) 233 (.inl (some (.long v)), (I', L', R'), 233)) : x_Cv X mL_endMonth [.ref 0, .ref 232] (I, L, R) 233 (.inl (some (.int (0))), (I', va_up L' 232 (va_up (L' 232) 0 (v)), R'), 233) := by
  show x_Ev X mL_endMonth 0 [some (.ref 0), some (.ref 232), none] [] ((I, L, R), 233, 0, 0) _
  refine f_aload_n (M := mL_endMonth) 1 dL_endMonth_0 rfl rfl ?_
  refine f_iconst (M := mL_endMonth) 2 dL_endMonth_1 ki_0 rfl ?_
  refine f_aload_n (M := mL_endMonth) 3 dL_endMonth_2 rfl rfl ?_
  refine e_cV (M := mL_endMonth) [_, _, _] 1 6 dL_endMonth_3 pa_10125 pb_10125 cc_10125 rfl rfl rfl rfl rfl (x_kk rfl) (x_kk rfl) rfl (h) rfl ?_
  refine e_lst (M := mL_endMonth) (w := 1) (j := 0) dL_endMonth_6 (x_kk rfl) rfl kn_0 (by omega) (by omega) ?_
  refine f_goto (M := mL_endMonth) 13 dL_endMonth_7 rfl ?_
  refine f_iconst (M := mL_endMonth) 14 dL_endMonth_13 ki_0 rfl ?_
  refine e_ri (M := mL_endMonth) dL_endMonth_14 rfl (x_kk rfl) (x_kk rfl) ?_
  rfl
theorem hf_endMonth_0 : x_hfind 0 3 (x_mo mL_endMonth) (x_mh mL_endMonth) = some 10 := by decide +kernel
theorem w_endMonth_x0 {I' : Nat → Nat → Int32} {L' : Nat → Nat → Int64} {R' : Nat → Nat → Option Nat} (h : x_Cv X mX8_endMonth [.ref 0] (I, L, R) 233 (.inr 0, (I', L', R'), 233)) : x_Cv X mL_endMonth [.ref 0, .ref 232] (I, L, R) 233 (.inl (some (.int (1))), (I', L', R'), 233) := by
  show x_Ev X mL_endMonth 0 [some (.ref 0), some (.ref 232), none] [] ((I, L, R), 233, 0, 0) _
  refine f_aload_n (M := mL_endMonth) 1 dL_endMonth_0 rfl rfl ?_
  refine f_iconst (M := mL_endMonth) 2 dL_endMonth_1 ki_0 rfl ?_
  refine f_aload_n (M := mL_endMonth) 3 dL_endMonth_2 rfl rfl ?_
  exact e_cVX (M := mL_endMonth) 1 6 dL_endMonth_3 pa_10125 pb_10125 cc_10125 rfl rfl rfl rfl rfl (x_kk rfl) (x_kk rfl) rfl (h) (hx (M := mL_endMonth) rfl hf_endMonth_0 (hb_n (M := mL_endMonth) dL_endMonth_10 dL_endMonth_11 dL_endMonth_12 rfl ki_1) rfl (x_kk rfl) (x_kk rfl))
theorem w_charge {v0 : Int32} {v : Int64} {I' : Nat → Nat → Int32} {L' : Nat → Nat → Int64} {R' : Nat → Nat → Option Nat} (h : x_Cv X mX8_charge [.ref 0, .int v0] (I, L, R) 233 (.inl (some (.long v)), (I', L', R'), 233)) : x_Cv X mL_charge [.ref 0, .int v0, .ref 232] (I, L, R) 233 (.inl (some (.int (0))), (I', va_up L' 232 (va_up (L' 232) 0 (v)), R'), 233) := by
  show x_Ev X mL_charge 0 [some (.ref 0), some (.int v0), some (.ref 232), none] [] ((I, L, R), 233, 0, 0) _
  refine f_aload_n (M := mL_charge) 1 dL_charge_0 rfl rfl ?_
  refine f_iconst (M := mL_charge) 2 dL_charge_1 ki_0 rfl ?_
  refine f_aload_n (M := mL_charge) 3 dL_charge_2 rfl rfl ?_
  refine f_iload_n (M := mL_charge) 4 dL_charge_3 rfl rfl ?_
  refine e_cV (M := mL_charge) [_, _, _] 2 12 dL_charge_4 pa_10129 pb_10129 cc_10129 rfl rfl rfl rfl rfl (x_kk rfl) (x_kk rfl) rfl (h) rfl ?_
  refine e_lst (M := mL_charge) (w := 1) (j := 0) dL_charge_7 (x_kk rfl) rfl kn_0 (by omega) (by omega) ?_
  refine f_goto (M := mL_charge) 17 dL_charge_8 rfl ?_
  refine f_iconst (M := mL_charge) 18 dL_charge_17 ki_0 rfl ?_
  refine e_ri (M := mL_charge) dL_charge_18 rfl (x_kk rfl) (x_kk rfl) ?_
  rfl
theorem hf_charge_2 : x_hfind 2 4 (x_mo mL_charge) (x_mh mL_charge) = some 11 := by decide +kernel
theorem w_charge_x2 {v0 : Int32} {I' : Nat → Nat → Int32} {L' : Nat → Nat → Int64} {R' : Nat → Nat → Option Nat} (h : x_Cv X mX8_charge [.ref 0, .int v0] (I, L, R) 233 (.inr 2, (I', L', R'), 233)) : x_Cv X mL_charge [.ref 0, .int v0, .ref 232] (I, L, R) 233 (.inl (some (.int (1))), (I', L', R'), 233) := by
  show x_Ev X mL_charge 0 [some (.ref 0), some (.int v0), some (.ref 232), none] [] ((I, L, R), 233, 0, 0) _
  refine f_aload_n (M := mL_charge) 1 dL_charge_0 rfl rfl ?_
  refine f_iconst (M := mL_charge) 2 dL_charge_1 ki_0 rfl ?_
  refine f_aload_n (M := mL_charge) 3 dL_charge_2 rfl rfl ?_
  refine f_iload_n (M := mL_charge) 4 dL_charge_3 rfl rfl ?_
  exact e_cVX (M := mL_charge) 2 12 dL_charge_4 pa_10129 pb_10129 cc_10129 rfl rfl rfl rfl rfl (x_kk rfl) (x_kk rfl) rfl (h) (hx (M := mL_charge) rfl hf_charge_2 (hb_n (M := mL_charge) dL_charge_11 dL_charge_12 dL_charge_13 rfl ki_1) rfl (x_kk rfl) (x_kk rfl))
theorem hf_charge_0 : x_hfind 0 4 (x_mo mL_charge) (x_mh mL_charge) = some 14 := by decide +kernel
theorem w_charge_x0 {v0 : Int32} {I' : Nat → Nat → Int32} {L' : Nat → Nat → Int64} {R' : Nat → Nat → Option Nat} (h : x_Cv X mX8_charge [.ref 0, .int v0] (I, L, R) 233 (.inr 0, (I', L', R'), 233)) : x_Cv X mL_charge [.ref 0, .int v0, .ref 232] (I, L, R) 233 (.inl (some (.int (2))), (I', L', R'), 233) := by
  show x_Ev X mL_charge 0 [some (.ref 0), some (.int v0), some (.ref 232), none] [] ((I, L, R), 233, 0, 0) _
  refine f_aload_n (M := mL_charge) 1 dL_charge_0 rfl rfl ?_
  refine f_iconst (M := mL_charge) 2 dL_charge_1 ki_0 rfl ?_
  refine f_aload_n (M := mL_charge) 3 dL_charge_2 rfl rfl ?_
  refine f_iload_n (M := mL_charge) 4 dL_charge_3 rfl rfl ?_
  exact e_cVX (M := mL_charge) 2 12 dL_charge_4 pa_10129 pb_10129 cc_10129 rfl rfl rfl rfl rfl (x_kk rfl) (x_kk rfl) rfl (h) (hx (M := mL_charge) rfl hf_charge_0 (hb_n (M := mL_charge) dL_charge_14 dL_charge_15 dL_charge_16 rfl ki_2) rfl (x_kk rfl) (x_kk rfl))
theorem w_pay {v0 : Int32} {v : Int64} {I' : Nat → Nat → Int32} {L' : Nat → Nat → Int64} {R' : Nat → Nat → Option Nat} (h : x_Cv X mX8_pay [.ref 0, .int v0] (I, L, R) 233 (.inl (some (.long v)), (I', L', R'), 233)) : x_Cv X mL_pay [.ref 0, .int v0, .ref 232] (I, L, R) 233 (.inl (some (.int (0))), (I', va_up L' 232 (va_up (L' 232) 0 (v)), R'), 233) := by
  show x_Ev X mL_pay 0 [some (.ref 0), some (.int v0), some (.ref 232), none] [] ((I, L, R), 233, 0, 0) _
  refine f_aload_n (M := mL_pay) 1 dL_pay_0 rfl rfl ?_
  refine f_iconst (M := mL_pay) 2 dL_pay_1 ki_0 rfl ?_
  refine f_aload_n (M := mL_pay) 3 dL_pay_2 rfl rfl ?_
  refine f_iload_n (M := mL_pay) 4 dL_pay_3 rfl rfl ?_
  refine e_cV (M := mL_pay) [_, _, _] 2 12 dL_pay_4 pa_10132 pb_10132 cc_10132 rfl rfl rfl rfl rfl (x_kk rfl) (x_kk rfl) rfl (h) rfl ?_
  refine e_lst (M := mL_pay) (w := 1) (j := 0) dL_pay_7 (x_kk rfl) rfl kn_0 (by omega) (by omega) ?_
  refine f_goto (M := mL_pay) 17 dL_pay_8 rfl ?_
  refine f_iconst (M := mL_pay) 18 dL_pay_17 ki_0 rfl ?_
  refine e_ri (M := mL_pay) dL_pay_18 rfl (x_kk rfl) (x_kk rfl) ?_
  rfl
theorem hf_pay_1 : x_hfind 1 4 (x_mo mL_pay) (x_mh mL_pay) = some 11 := by decide +kernel
theorem w_pay_x1 {v0 : Int32} {I' : Nat → Nat → Int32} {L' : Nat → Nat → Int64} {R' : Nat → Nat → Option Nat} (h : x_Cv X mX8_pay [.ref 0, .int v0] (I, L, R) 233 (.inr 1, (I', L', R'), 233)) : x_Cv X mL_pay [.ref 0, .int v0, .ref 232] (I, L, R) 233 (.inl (some (.int (1))), (I', L', R'), 233) := by
  show x_Ev X mL_pay 0 [some (.ref 0), some (.int v0), some (.ref 232), none] [] ((I, L, R), 233, 0, 0) _
  refine f_aload_n (M := mL_pay) 1 dL_pay_0 rfl rfl ?_
  refine f_iconst (M := mL_pay) 2 dL_pay_1 ki_0 rfl ?_
  refine f_aload_n (M := mL_pay) 3 dL_pay_2 rfl rfl ?_
  refine f_iload_n (M := mL_pay) 4 dL_pay_3 rfl rfl ?_
  exact e_cVX (M := mL_pay) 2 12 dL_pay_4 pa_10132 pb_10132 cc_10132 rfl rfl rfl rfl rfl (x_kk rfl) (x_kk rfl) rfl (h) (hx (M := mL_pay) rfl hf_pay_1 (hb_n (M := mL_pay) dL_pay_11 dL_pay_12 dL_pay_13 rfl ki_1) rfl (x_kk rfl) (x_kk rfl))
theorem hf_pay_0 : x_hfind 0 4 (x_mo mL_pay) (x_mh mL_pay) = some 14 := by decide +kernel
theorem w_pay_x0 {v0 : Int32} {I' : Nat → Nat → Int32} {L' : Nat → Nat → Int64} {R' : Nat → Nat → Option Nat} (h : x_Cv X mX8_pay [.ref 0, .int v0] (I, L, R) 233 (.inr 0, (I', L', R'), 233)) : x_Cv X mL_pay [.ref 0, .int v0, .ref 232] (I, L, R) 233 (.inl (some (.int (2))), (I', L', R'), 233) := by
  show x_Ev X mL_pay 0 [some (.ref 0), some (.int v0), some (.ref 232), none] [] ((I, L, R), 233, 0, 0) _
  refine f_aload_n (M := mL_pay) 1 dL_pay_0 rfl rfl ?_
  refine f_iconst (M := mL_pay) 2 dL_pay_1 ki_0 rfl ?_
  refine f_aload_n (M := mL_pay) 3 dL_pay_2 rfl rfl ?_
  refine f_iload_n (M := mL_pay) 4 dL_pay_3 rfl rfl ?_
  exact e_cVX (M := mL_pay) 2 12 dL_pay_4 pa_10132 pb_10132 cc_10132 rfl rfl rfl rfl rfl (x_kk rfl) (x_kk rfl) rfl (h) (hx (M := mL_pay) rfl hf_pay_0 (hb_n (M := mL_pay) dL_pay_14 dL_pay_15 dL_pay_16 rfl ki_2) rfl (x_kk rfl) (x_kk rfl))
theorem w_projectedDebt {v0 : Int32} {v : Int64} {I' : Nat → Nat → Int32} {L' : Nat → Nat → Int64} {R' : Nat → Nat → Option Nat} (h : x_Cv X mX8_projectedDebt [.ref 0, .int v0] (I, L, R) 233 (.inl (some (.long v)), (I', L', R'), 233)) : x_Cv X mL_projectedDebt [.ref 0, .int v0, .ref 232] (I, L, R) 233 (.inl (some (.int (0))), (I', va_up L' 232 (va_up (L' 232) 0 (v)), R'), 233) := by
  show x_Ev X mL_projectedDebt 0 [some (.ref 0), some (.int v0), some (.ref 232), none] [] ((I, L, R), 233, 0, 0) _
  refine f_aload_n (M := mL_projectedDebt) 1 dL_projectedDebt_0 rfl rfl ?_
  refine f_iconst (M := mL_projectedDebt) 2 dL_projectedDebt_1 ki_0 rfl ?_
  refine f_aload_n (M := mL_projectedDebt) 3 dL_projectedDebt_2 rfl rfl ?_
  refine f_iload_n (M := mL_projectedDebt) 4 dL_projectedDebt_3 rfl rfl ?_
  refine e_cV (M := mL_projectedDebt) [_, _, _] 2 12 dL_projectedDebt_4 pa_10135 pb_10135 cc_10135 rfl rfl rfl rfl rfl (x_kk rfl) (x_kk rfl) rfl (h) rfl ?_
  refine e_lst (M := mL_projectedDebt) (w := 1) (j := 0) dL_projectedDebt_7 (x_kk rfl) rfl kn_0 (by omega) (by omega) ?_
  refine f_goto (M := mL_projectedDebt) 17 dL_projectedDebt_8 rfl ?_
  refine f_iconst (M := mL_projectedDebt) 18 dL_projectedDebt_17 ki_0 rfl ?_
  refine e_ri (M := mL_projectedDebt) dL_projectedDebt_18 rfl (x_kk rfl) (x_kk rfl) ?_
  rfl
theorem hf_projectedDebt_1 : x_hfind 1 4 (x_mo mL_projectedDebt) (x_mh mL_projectedDebt) = some 11 := by decide +kernel
theorem w_projectedDebt_x1 {v0 : Int32} {I' : Nat → Nat → Int32} {L' : Nat → Nat → Int64} {R' : Nat → Nat → Option Nat} (h : x_Cv X mX8_projectedDebt [.ref 0, .int v0] (I, L, R) 233 (.inr 1, (I', L', R'), 233)) : x_Cv X mL_projectedDebt [.ref 0, .int v0, .ref 232] (I, L, R) 233 (.inl (some (.int (1))), (I', L', R'), 233) := by
  show x_Ev X mL_projectedDebt 0 [some (.ref 0), some (.int v0), some (.ref 232), none] [] ((I, L, R), 233, 0, 0) _
  refine f_aload_n (M := mL_projectedDebt) 1 dL_projectedDebt_0 rfl rfl ?_
  refine f_iconst (M := mL_projectedDebt) 2 dL_projectedDebt_1 ki_0 rfl ?_
  refine f_aload_n (M := mL_projectedDebt) 3 dL_projectedDebt_2 rfl rfl ?_
  refine f_iload_n (M := mL_projectedDebt) 4 dL_projectedDebt_3 rfl rfl ?_
  exact e_cVX (M := mL_projectedDebt) 2 12 dL_projectedDebt_4 pa_10135 pb_10135 cc_10135 rfl rfl rfl rfl rfl (x_kk rfl) (x_kk rfl) rfl (h) (hx (M := mL_projectedDebt) rfl hf_projectedDebt_1 (hb_n (M := mL_projectedDebt) dL_projectedDebt_11 dL_projectedDebt_12 dL_projectedDebt_13 rfl ki_1) rfl (x_kk rfl) (x_kk rfl))
theorem hf_projectedDebt_0 : x_hfind 0 4 (x_mo mL_projectedDebt) (x_mh mL_projectedDebt) = some 14 := by decide +kernel
theorem w_projectedDebt_x0 {v0 : Int32} {I' : Nat → Nat → Int32} {L' : Nat → Nat → Int64} {R' : Nat → Nat → Option Nat} (h : x_Cv X mX8_projectedDebt [.ref 0, .int v0] (I, L, R) 233 (.inr 0, (I', L', R'), 233)) : x_Cv X mL_projectedDebt [.ref 0, .int v0, .ref 232] (I, L, R) 233 (.inl (some (.int (2))), (I', L', R'), 233) := by
  show x_Ev X mL_projectedDebt 0 [some (.ref 0), some (.int v0), some (.ref 232), none] [] ((I, L, R), 233, 0, 0) _
  refine f_aload_n (M := mL_projectedDebt) 1 dL_projectedDebt_0 rfl rfl ?_
  refine f_iconst (M := mL_projectedDebt) 2 dL_projectedDebt_1 ki_0 rfl ?_
  refine f_aload_n (M := mL_projectedDebt) 3 dL_projectedDebt_2 rfl rfl ?_
  refine f_iload_n (M := mL_projectedDebt) 4 dL_projectedDebt_3 rfl rfl ?_
  exact e_cVX (M := mL_projectedDebt) 2 12 dL_projectedDebt_4 pa_10135 pb_10135 cc_10135 rfl rfl rfl rfl rfl (x_kk rfl) (x_kk rfl) rfl (h) (hx (M := mL_projectedDebt) rfl hf_projectedDebt_0 (hb_n (M := mL_projectedDebt) dL_projectedDebt_14 dL_projectedDebt_15 dL_projectedDebt_16 rfl ki_2) rfl (x_kk rfl) (x_kk rfl))
theorem w_close {v : Int64} {I' : Nat → Nat → Int32} {L' : Nat → Nat → Int64} {R' : Nat → Nat → Option Nat} (h : x_Cv X mX8_close [.ref 0] (I, L, R) 233 (.inl (some (.long v)), (I', L', R'), 233)) : x_Cv X mL_close [.ref 0, .ref 232] (I, L, R) 233 (.inl (some (.int (0))), (I', va_up L' 232 (va_up (L' 232) 0 (v)), R'), 233) := by
  show x_Ev X mL_close 0 [some (.ref 0), some (.ref 232), none] [] ((I, L, R), 233, 0, 0) _
  refine f_aload_n (M := mL_close) 1 dL_close_0 rfl rfl ?_
  refine f_iconst (M := mL_close) 2 dL_close_1 ki_0 rfl ?_
  refine f_aload_n (M := mL_close) 3 dL_close_2 rfl rfl ?_
  refine e_cV (M := mL_close) [_, _, _] 1 6 dL_close_3 pa_10138 pb_10138 cc_10138 rfl rfl rfl rfl rfl (x_kk rfl) (x_kk rfl) rfl (h) rfl ?_
  refine e_lst (M := mL_close) (w := 1) (j := 0) dL_close_6 (x_kk rfl) rfl kn_0 (by omega) (by omega) ?_
  refine f_goto (M := mL_close) 13 dL_close_7 rfl ?_
  refine f_iconst (M := mL_close) 14 dL_close_13 ki_0 rfl ?_
  refine e_ri (M := mL_close) dL_close_14 rfl (x_kk rfl) (x_kk rfl) ?_
  rfl
theorem hf_close_0 : x_hfind 0 3 (x_mo mL_close) (x_mh mL_close) = some 10 := by decide +kernel
theorem w_close_x0 {I' : Nat → Nat → Int32} {L' : Nat → Nat → Int64} {R' : Nat → Nat → Option Nat} (h : x_Cv X mX8_close [.ref 0] (I, L, R) 233 (.inr 0, (I', L', R'), 233)) : x_Cv X mL_close [.ref 0, .ref 232] (I, L, R) 233 (.inl (some (.int (1))), (I', L', R'), 233) := by
  show x_Ev X mL_close 0 [some (.ref 0), some (.ref 232), none] [] ((I, L, R), 233, 0, 0) _
  refine f_aload_n (M := mL_close) 1 dL_close_0 rfl rfl ?_
  refine f_iconst (M := mL_close) 2 dL_close_1 ki_0 rfl ?_
  refine f_aload_n (M := mL_close) 3 dL_close_2 rfl rfl ?_
  exact e_cVX (M := mL_close) 1 6 dL_close_3 pa_10138 pb_10138 cc_10138 rfl rfl rfl rfl rfl (x_kk rfl) (x_kk rfl) rfl (h) (hx (M := mL_close) rfl hf_close_0 (hb_n (M := mL_close) dL_close_10 dL_close_11 dL_close_12 rfl ki_1) rfl (x_kk rfl) (x_kk rfl))
theorem w_remaining {v0 : Int32} {v : Int32} {I' : Nat → Nat → Int32} {L' : Nat → Nat → Int64} {R' : Nat → Nat → Option Nat} (h : x_Cv X mX8_remaining [.ref 0, .int v0] (I, L, R) 233 (.inl (some (.int v)), (I', L', R'), 233)) : x_Cv X mL_remaining [.ref 0, .int v0, .ref 232] (I, L, R) 233 (.inl (some (.int (0))), (I', va_up L' 232 (va_up (L' 232) 0 (v.toInt64)), R'), 233) := by
  show x_Ev X mL_remaining 0 [some (.ref 0), some (.int v0), some (.ref 232), none] [] ((I, L, R), 233, 0, 0) _
  refine f_aload_n (M := mL_remaining) 1 dL_remaining_0 rfl rfl ?_
  refine f_iconst (M := mL_remaining) 2 dL_remaining_1 ki_0 rfl ?_
  refine f_aload_n (M := mL_remaining) 3 dL_remaining_2 rfl rfl ?_
  refine f_iload_n (M := mL_remaining) 4 dL_remaining_3 rfl rfl ?_
  refine e_cV (M := mL_remaining) [_, _, _] 2 12 dL_remaining_4 pa_10141 pb_10141 cc_10141 rfl rfl rfl rfl rfl (x_kk rfl) (x_kk rfl) rfl (h) rfl ?_
  refine f_i2l (M := mL_remaining) 8 dL_remaining_7 rfl ?_
  refine e_lst (M := mL_remaining) (w := 1) (j := 0) dL_remaining_8 (x_kk rfl) rfl kn_0 (by omega) (by omega) ?_
  refine f_goto (M := mL_remaining) 18 dL_remaining_9 rfl ?_
  refine f_iconst (M := mL_remaining) 19 dL_remaining_18 ki_0 rfl ?_
  refine e_ri (M := mL_remaining) dL_remaining_19 rfl (x_kk rfl) (x_kk rfl) ?_
  rfl
theorem hf_remaining_2 : x_hfind 2 4 (x_mo mL_remaining) (x_mh mL_remaining) = some 12 := by decide +kernel
theorem w_remaining_x2 {v0 : Int32} {I' : Nat → Nat → Int32} {L' : Nat → Nat → Int64} {R' : Nat → Nat → Option Nat} (h : x_Cv X mX8_remaining [.ref 0, .int v0] (I, L, R) 233 (.inr 2, (I', L', R'), 233)) : x_Cv X mL_remaining [.ref 0, .int v0, .ref 232] (I, L, R) 233 (.inl (some (.int (1))), (I', L', R'), 233) := by
  show x_Ev X mL_remaining 0 [some (.ref 0), some (.int v0), some (.ref 232), none] [] ((I, L, R), 233, 0, 0) _
  refine f_aload_n (M := mL_remaining) 1 dL_remaining_0 rfl rfl ?_
  refine f_iconst (M := mL_remaining) 2 dL_remaining_1 ki_0 rfl ?_
  refine f_aload_n (M := mL_remaining) 3 dL_remaining_2 rfl rfl ?_
  refine f_iload_n (M := mL_remaining) 4 dL_remaining_3 rfl rfl ?_
  exact e_cVX (M := mL_remaining) 2 12 dL_remaining_4 pa_10141 pb_10141 cc_10141 rfl rfl rfl rfl rfl (x_kk rfl) (x_kk rfl) rfl (h) (hx (M := mL_remaining) rfl hf_remaining_2 (hb_n (M := mL_remaining) dL_remaining_12 dL_remaining_13 dL_remaining_14 rfl ki_1) rfl (x_kk rfl) (x_kk rfl))
theorem hf_remaining_0 : x_hfind 0 4 (x_mo mL_remaining) (x_mh mL_remaining) = some 15 := by decide +kernel
theorem w_remaining_x0 {v0 : Int32} {I' : Nat → Nat → Int32} {L' : Nat → Nat → Int64} {R' : Nat → Nat → Option Nat} (h : x_Cv X mX8_remaining [.ref 0, .int v0] (I, L, R) 233 (.inr 0, (I', L', R'), 233)) : x_Cv X mL_remaining [.ref 0, .int v0, .ref 232] (I, L, R) 233 (.inl (some (.int (2))), (I', L', R'), 233) := by
  show x_Ev X mL_remaining 0 [some (.ref 0), some (.int v0), some (.ref 232), none] [] ((I, L, R), 233, 0, 0) _
  refine f_aload_n (M := mL_remaining) 1 dL_remaining_0 rfl rfl ?_
  refine f_iconst (M := mL_remaining) 2 dL_remaining_1 ki_0 rfl ?_
  refine f_aload_n (M := mL_remaining) 3 dL_remaining_2 rfl rfl ?_
  refine f_iload_n (M := mL_remaining) 4 dL_remaining_3 rfl rfl ?_
  exact e_cVX (M := mL_remaining) 2 12 dL_remaining_4 pa_10141 pb_10141 cc_10141 rfl rfl rfl rfl rfl (x_kk rfl) (x_kk rfl) rfl (h) (hx (M := mL_remaining) rfl hf_remaining_0 (hb_n (M := mL_remaining) dL_remaining_15 dL_remaining_16 dL_remaining_17 rfl ki_2) rfl (x_kk rfl) (x_kk rfl))
theorem w_declareDefault {v : Int32} {I' : Nat → Nat → Int32} {L' : Nat → Nat → Int64} {R' : Nat → Nat → Option Nat} (h : x_Cv X mX8_declareDefault [.ref 0] (I, L, R) 233 (.inl (some (.int v)), (I', L', R'), 233)) : x_Cv X mL_declareDefault [.ref 0, .ref 232] (I, L, R) 233 (.inl (some (.int (0))), (I', va_up L' 232 (va_up (L' 232) 0 (v.toInt64)), R'), 233) := by
  show x_Ev X mL_declareDefault 0 [some (.ref 0), some (.ref 232), none] [] ((I, L, R), 233, 0, 0) _
  refine f_aload_n (M := mL_declareDefault) 1 dL_declareDefault_0 rfl rfl ?_
  refine f_iconst (M := mL_declareDefault) 2 dL_declareDefault_1 ki_0 rfl ?_
  refine f_aload_n (M := mL_declareDefault) 3 dL_declareDefault_2 rfl rfl ?_
  refine e_cV (M := mL_declareDefault) [_, _, _] 1 6 dL_declareDefault_3 pa_10144 pb_10144 cc_10144 rfl rfl rfl rfl rfl (x_kk rfl) (x_kk rfl) rfl (h) rfl ?_
  refine f_i2l (M := mL_declareDefault) 7 dL_declareDefault_6 rfl ?_
  refine e_lst (M := mL_declareDefault) (w := 1) (j := 0) dL_declareDefault_7 (x_kk rfl) rfl kn_0 (by omega) (by omega) ?_
  refine f_goto (M := mL_declareDefault) 14 dL_declareDefault_8 rfl ?_
  refine f_iconst (M := mL_declareDefault) 15 dL_declareDefault_14 ki_0 rfl ?_
  refine e_ri (M := mL_declareDefault) dL_declareDefault_15 rfl (x_kk rfl) (x_kk rfl) ?_
  rfl
theorem hf_declareDefault_0 : x_hfind 0 3 (x_mo mL_declareDefault) (x_mh mL_declareDefault) = some 11 := by decide +kernel
theorem w_declareDefault_x0 {I' : Nat → Nat → Int32} {L' : Nat → Nat → Int64} {R' : Nat → Nat → Option Nat} (h : x_Cv X mX8_declareDefault [.ref 0] (I, L, R) 233 (.inr 0, (I', L', R'), 233)) : x_Cv X mL_declareDefault [.ref 0, .ref 232] (I, L, R) 233 (.inl (some (.int (1))), (I', L', R'), 233) := by
  show x_Ev X mL_declareDefault 0 [some (.ref 0), some (.ref 232), none] [] ((I, L, R), 233, 0, 0) _
  refine f_aload_n (M := mL_declareDefault) 1 dL_declareDefault_0 rfl rfl ?_
  refine f_iconst (M := mL_declareDefault) 2 dL_declareDefault_1 ki_0 rfl ?_
  refine f_aload_n (M := mL_declareDefault) 3 dL_declareDefault_2 rfl rfl ?_
  exact e_cVX (M := mL_declareDefault) 1 6 dL_declareDefault_3 pa_10144 pb_10144 cc_10144 rfl rfl rfl rfl rfl (x_kk rfl) (x_kk rfl) rfl (h) (hx (M := mL_declareDefault) rfl hf_declareDefault_0 (hb_n (M := mL_declareDefault) dL_declareDefault_11 dL_declareDefault_12 dL_declareDefault_13 rfl ki_1) rfl (x_kk rfl) (x_kk rfl))
theorem w_damages {v : Int64} {I' : Nat → Nat → Int32} {L' : Nat → Nat → Int64} {R' : Nat → Nat → Option Nat} (h : x_Cv X mX8_damages [.ref 0] (I, L, R) 233 (.inl (some (.long v)), (I', L', R'), 233)) : x_Cv X mL_damages [.ref 0, .ref 232] (I, L, R) 233 (.inl (some (.int (0))), (I', va_up L' 232 (va_up (L' 232) 0 (v)), R'), 233) := by
  show x_Ev X mL_damages 0 [some (.ref 0), some (.ref 232), none] [] ((I, L, R), 233, 0, 0) _
  refine f_aload_n (M := mL_damages) 1 dL_damages_0 rfl rfl ?_
  refine f_iconst (M := mL_damages) 2 dL_damages_1 ki_0 rfl ?_
  refine f_aload_n (M := mL_damages) 3 dL_damages_2 rfl rfl ?_
  refine e_cV (M := mL_damages) [_, _, _] 1 6 dL_damages_3 pa_10147 pb_10147 cc_10147 rfl rfl rfl rfl rfl (x_kk rfl) (x_kk rfl) rfl (h) rfl ?_
  refine e_lst (M := mL_damages) (w := 1) (j := 0) dL_damages_6 (x_kk rfl) rfl kn_0 (by omega) (by omega) ?_
  refine f_goto (M := mL_damages) 13 dL_damages_7 rfl ?_
  refine f_iconst (M := mL_damages) 14 dL_damages_13 ki_0 rfl ?_
  refine e_ri (M := mL_damages) dL_damages_14 rfl (x_kk rfl) (x_kk rfl) ?_
  rfl
theorem hf_damages_0 : x_hfind 0 3 (x_mo mL_damages) (x_mh mL_damages) = some 10 := by decide +kernel
theorem w_damages_x0 {I' : Nat → Nat → Int32} {L' : Nat → Nat → Int64} {R' : Nat → Nat → Option Nat} (h : x_Cv X mX8_damages [.ref 0] (I, L, R) 233 (.inr 0, (I', L', R'), 233)) : x_Cv X mL_damages [.ref 0, .ref 232] (I, L, R) 233 (.inl (some (.int (1))), (I', L', R'), 233) := by
  show x_Ev X mL_damages 0 [some (.ref 0), some (.ref 232), none] [] ((I, L, R), 233, 0, 0) _
  refine f_aload_n (M := mL_damages) 1 dL_damages_0 rfl rfl ?_
  refine f_iconst (M := mL_damages) 2 dL_damages_1 ki_0 rfl ?_
  refine f_aload_n (M := mL_damages) 3 dL_damages_2 rfl rfl ?_
  exact e_cVX (M := mL_damages) 1 6 dL_damages_3 pa_10147 pb_10147 cc_10147 rfl rfl rfl rfl rfl (x_kk rfl) (x_kk rfl) rfl (h) (hx (M := mL_damages) rfl hf_damages_0 (hb_n (M := mL_damages) dL_damages_10 dL_damages_11 dL_damages_12 rfl ki_1) rfl (x_kk rfl) (x_kk rfl))
theorem w_undo {v : Int32} {I' : Nat → Nat → Int32} {L' : Nat → Nat → Int64} {R' : Nat → Nat → Option Nat} (h : x_Cv X mX8_undo [.ref 0] (I, L, R) 233 (.inl (some (.int v)), (I', L', R'), 233)) : x_Cv X mL_undo [.ref 0, .ref 232] (I, L, R) 233 (.inl (some (.int (0))), (I', va_up L' 232 (va_up (L' 232) 0 (v.toInt64)), R'), 233) := by
  show x_Ev X mL_undo 0 [some (.ref 0), some (.ref 232), none] [] ((I, L, R), 233, 0, 0) _
  refine f_aload_n (M := mL_undo) 1 dL_undo_0 rfl rfl ?_
  refine f_iconst (M := mL_undo) 2 dL_undo_1 ki_0 rfl ?_
  refine f_aload_n (M := mL_undo) 3 dL_undo_2 rfl rfl ?_
  refine e_cV (M := mL_undo) [_, _, _] 1 6 dL_undo_3 pa_10150 pb_10150 cc_10150 rfl rfl rfl rfl rfl (x_kk rfl) (x_kk rfl) rfl (h) rfl ?_
  refine f_i2l (M := mL_undo) 7 dL_undo_6 rfl ?_
  refine e_lst (M := mL_undo) (w := 1) (j := 0) dL_undo_7 (x_kk rfl) rfl kn_0 (by omega) (by omega) ?_
  refine f_goto (M := mL_undo) 14 dL_undo_8 rfl ?_
  refine f_iconst (M := mL_undo) 15 dL_undo_14 ki_0 rfl ?_
  refine e_ri (M := mL_undo) dL_undo_15 rfl (x_kk rfl) (x_kk rfl) ?_
  rfl
theorem hf_undo_0 : x_hfind 0 3 (x_mo mL_undo) (x_mh mL_undo) = some 11 := by decide +kernel
theorem w_undo_x0 {I' : Nat → Nat → Int32} {L' : Nat → Nat → Int64} {R' : Nat → Nat → Option Nat} (h : x_Cv X mX8_undo [.ref 0] (I, L, R) 233 (.inr 0, (I', L', R'), 233)) : x_Cv X mL_undo [.ref 0, .ref 232] (I, L, R) 233 (.inl (some (.int (1))), (I', L', R'), 233) := by
  show x_Ev X mL_undo 0 [some (.ref 0), some (.ref 232), none] [] ((I, L, R), 233, 0, 0) _
  refine f_aload_n (M := mL_undo) 1 dL_undo_0 rfl rfl ?_
  refine f_iconst (M := mL_undo) 2 dL_undo_1 ki_0 rfl ?_
  refine f_aload_n (M := mL_undo) 3 dL_undo_2 rfl rfl ?_
  exact e_cVX (M := mL_undo) 1 6 dL_undo_3 pa_10150 pb_10150 cc_10150 rfl rfl rfl rfl rfl (x_kk rfl) (x_kk rfl) rfl (h) (hx (M := mL_undo) rfl hf_undo_0 (hb_n (M := mL_undo) dL_undo_11 dL_undo_12 dL_undo_13 rfl ki_1) rfl (x_kk rfl) (x_kk rfl))
end

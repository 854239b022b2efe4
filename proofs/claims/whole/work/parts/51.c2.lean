/-! ===== the class: cruise, bidding, loads (laid by wip/whole/src/c2.py) ===== -/
section
variable {X : x_X} {I : Nat → Nat → Int32} {L : Nat → Nat → Int64} {R : Nat → Nat → Option Nat}
def cv_all (v : Nat → Int32) (p : Nat) (n : Nat) : Int64 := x_sum64 (fun s => (v (p * 6 + s)).toInt64) n
def cv_in (v : Nat → Int32) (σ : Int32) (p : Nat) : Int64 := if σ = -1 then cv_all v p 6 else (v (p * 6 + σ.toNatClampNeg)).toInt64
theorem l_X2_volumeIn (hR : x_wf R) {β : Nat} (hβ : x_sl β) {p : Nat} (hp : p < 30) : ∀ d k, k + d = 6 → x_Ev X mX2_volumeIn 26 [some (.ref (β + 5)), some (.int (Int32.ofNat p)), some (.int (-1)), some (.int (Int32.ofNat p * 6)), some (.long (cv_all (I (β + 6)) p k)), none, some (.int (Int32.ofNat k))] [] ((I, L, R), 233, 0, 0) (.inl (some (.long (cv_all (I (β + 6)) p 6))), (I, L, R), 233) := by
  intro d
  induction d with
  | zero =>
    intro k hd
    obtain rfl : 6 = k := by omega
    refine f_iload (M := mX2_volumeIn) 28 dX2_volumeIn_26 rfl rfl ?_
    refine f_bipush (M := mX2_volumeIn) 30 dX2_volumeIn_28 kb_6 rfl ?_
    refine e_icmp_geT (M := mX2_volumeIn) 54 dX2_volumeIn_30 rfl (by decide) ?_
    refine f_lload (M := mX2_volumeIn) 56 dX2_volumeIn_54 rfl rfl ?_
    refine e_rl (M := mX2_volumeIn) dX2_volumeIn_56 rfl (x_kk rfl) (x_kk rfl) ?_
    rfl
  | succ d ih =>
    intro k hd
    refine f_iload (M := mX2_volumeIn) 28 dX2_volumeIn_26 rfl rfl ?_
    refine f_bipush (M := mX2_volumeIn) 30 dX2_volumeIn_28 kb_6 rfl ?_
    refine e_icmp_geF (M := mX2_volumeIn) 54 dX2_volumeIn_30 rfl (by rw [kn_6, n_le (by omega) (by omega)]; omega) ?_
    refine f_lload (M := mX2_volumeIn) 35 dX2_volumeIn_33 rfl rfl ?_
    refine f_aload_n (M := mX2_volumeIn) 36 dX2_volumeIn_35 rfl rfl ?_
    refine e_getR (M := mX2_volumeIn) dX2_volumeIn_36 fl_2009 (x_kk rfl) (sl_lt hβ 5 rfl) (sl_s hβ 5 rfl rfl) (wf_2_1 hR hβ) ?_
    refine f_iload_n (M := mX2_volumeIn) 40 dX2_volumeIn_39 rfl rfl ?_
    refine f_iload (M := mX2_volumeIn) 42 dX2_volumeIn_40 rfl rfl ?_
    refine f_iadd (M := mX2_volumeIn) 43 dX2_volumeIn_42 rfl ?_
    refine e_ild (M := mX2_volumeIn) (w := 180) (j := (p * 6) + (k)) dX2_volumeIn_43 (sl_lt hβ 6 rfl) (sl_shp hβ 6 rfl) (ix_add (ix_mul rfl kn_6) rfl) (by omega) (by omega) ?_
    refine f_i2l (M := mX2_volumeIn) 45 dX2_volumeIn_44 rfl ?_
    refine f_ladd (M := mX2_volumeIn) 46 dX2_volumeIn_45 rfl ?_
    refine f_lstore (M := mX2_volumeIn) (ls' := [_, _, _, _, _, _, _]) 48 dX2_volumeIn_46 rfl rfl rfl ?_
    refine f_iinc (M := mX2_volumeIn) (ls' := [_, _, _, _, _, _, _]) 51 dX2_volumeIn_48 ki_1 rfl rfl rfl rfl ?_
    refine f_goto (M := mX2_volumeIn) 26 dX2_volumeIn_51 rfl ?_
    rw [n_inc (s := k)]; exact ih (k + 1) (by omega)
theorem c_X2_volumeInN (hR : x_wf R) {β : Nat} (hβ : x_sl β) {p : Nat} (hp : p < 30) : x_Cv X mX2_volumeIn [.ref (β + 5), .int (Int32.ofNat p), .int (-1)] (I, L, R) 233 (.inl (some (.long (cv_all (I (β + 6)) p 6))), (I, L, R), 233) := by
  show x_Ev X mX2_volumeIn 0 [some (.ref (β + 5)), some (.int (Int32.ofNat p)), some (.int (-1)), none, none, none, none] [] ((I, L, R), 233, 0, 0) _
  refine f_iload_n (M := mX2_volumeIn) 1 dX2_volumeIn_0 rfl rfl ?_
  refine f_bipush (M := mX2_volumeIn) 3 dX2_volumeIn_1 kb_6 rfl ?_
  refine f_imul (M := mX2_volumeIn) 4 dX2_volumeIn_3 rfl ?_
  refine f_istore_n (M := mX2_volumeIn) (ls' := [_, _, _, _, _, _, _]) 5 dX2_volumeIn_4 rfl rfl rfl ?_
  refine f_iload_n (M := mX2_volumeIn) 6 dX2_volumeIn_5 rfl rfl ?_
  refine f_iconst (M := mX2_volumeIn) 7 dX2_volumeIn_6 ki_m1 rfl ?_
  refine e_icmp_eqT (M := mX2_volumeIn) 20 dX2_volumeIn_7 rfl rfl ?_
  refine f_lconst (M := mX2_volumeIn) 21 dX2_volumeIn_20 kl_0 rfl ?_
  refine f_lstore (M := mX2_volumeIn) (ls' := [_, _, _, _, _, _, _]) 23 dX2_volumeIn_21 rfl rfl rfl ?_
  refine f_iconst (M := mX2_volumeIn) 24 dX2_volumeIn_23 ki_0 rfl ?_
  refine f_istore (M := mX2_volumeIn) (ls' := [_, _, _, _, _, _, _]) 26 dX2_volumeIn_24 rfl rfl rfl ?_
  exact l_X2_volumeIn hR hβ hp 6 0 rfl
theorem c_X2_volumeInS (hR : x_wf R) {β : Nat} (hβ : x_sl β) {p : Nat} (hp : p < 30) {s : Nat} (hs : s < 6) : x_Cv X mX2_volumeIn [.ref (β + 5), .int (Int32.ofNat p), .int (Int32.ofNat s)] (I, L, R) 233 (.inl (some (.long ((I (β + 6) (p * 6 + s)).toInt64))), (I, L, R), 233) := by
  show x_Ev X mX2_volumeIn 0 [some (.ref (β + 5)), some (.int (Int32.ofNat p)), some (.int (Int32.ofNat s)), none, none, none, none] [] ((I, L, R), 233, 0, 0) _
  refine f_iload_n (M := mX2_volumeIn) 1 dX2_volumeIn_0 rfl rfl ?_
  refine f_bipush (M := mX2_volumeIn) 3 dX2_volumeIn_1 kb_6 rfl ?_
  refine f_imul (M := mX2_volumeIn) 4 dX2_volumeIn_3 rfl ?_
  refine f_istore_n (M := mX2_volumeIn) (ls' := [_, _, _, _, _, _, _]) 5 dX2_volumeIn_4 rfl rfl rfl ?_
  refine f_iload_n (M := mX2_volumeIn) 6 dX2_volumeIn_5 rfl rfl ?_
  refine f_iconst (M := mX2_volumeIn) 7 dX2_volumeIn_6 ki_m1 rfl ?_
  refine e_icmp_eqF (M := mX2_volumeIn) 20 dX2_volumeIn_7 rfl (n_ne1 (by omega)) ?_
  refine f_aload_n (M := mX2_volumeIn) 11 dX2_volumeIn_10 rfl rfl ?_
  refine e_getR (M := mX2_volumeIn) dX2_volumeIn_11 fl_2009 (x_kk rfl) (sl_lt hβ 5 rfl) (sl_s hβ 5 rfl rfl) (wf_2_1 hR hβ) ?_
  refine f_iload_n (M := mX2_volumeIn) 15 dX2_volumeIn_14 rfl rfl ?_
  refine f_iload_n (M := mX2_volumeIn) 16 dX2_volumeIn_15 rfl rfl ?_
  refine f_iadd (M := mX2_volumeIn) 17 dX2_volumeIn_16 rfl ?_
  refine e_ild (M := mX2_volumeIn) (w := 180) (j := ((p) * (6)) + (s)) dX2_volumeIn_17 (sl_lt hβ 6 rfl) (sl_shp hβ 6 rfl) (ix_add (ix_mul rfl kn_6) rfl) (by omega) (by omega) ?_
  refine f_i2l (M := mX2_volumeIn) 19 dX2_volumeIn_18 rfl ?_
  refine e_rl (M := mX2_volumeIn) dX2_volumeIn_19 rfl (x_kk rfl) (x_kk rfl) ?_
  rfl
theorem c_X2_volumeIn (hR : x_wf R) {β : Nat} (hβ : x_sl β) {p : Nat} (hp : p < 30) {σ : Int32} (hσ : x_spec σ) : x_Cv X mX2_volumeIn [.ref (β + 5), .int (Int32.ofNat p), .int σ] (I, L, R) 233 (.inl (some (.long (cv_in (I (β + 6)) σ p))), (I, L, R), 233) := by
  rcases hσ with rfl | ⟨s, hs, rfl⟩
  · exact c_X2_volumeInN hR hβ hp
  · have h := c_X2_volumeInS (X := X) (I := I) (L := L) hR hβ hp hs
    unfold cv_in
    rw [if_neg (n_ne1 (by omega)), n_cl (by omega)]
    exact h
def cv_sum (v : Nat → Int32) (σ : Int32) (n : Nat) : Int64 := x_sum64 (cv_in v σ) n
def cv_sq (v : Nat → Int32) (σ : Int32) (n : Nat) : Int64 := x_sum64 (fun p => cv_in v σ p * cv_in v σ p) n
theorem l_X2_total (hR : x_wf R) {β : Nat} (hβ : x_sl β) {Np : Nat} (hNp : Np ≤ 30) (hn : I (β + 5) 0 = Int32.ofNat Np) {σ : Int32} (hσ : x_spec σ) : ∀ d k, k + d = Np → x_Ev X mX2_total 5 [some (.ref (β + 5)), some (.int σ), some (.long (cv_sum (I (β + 6)) σ k)), none, some (.int (Int32.ofNat k))] [] ((I, L, R), 233, 0, 0) (.inl (some (.long (cv_sum (I (β + 6)) σ Np))), (I, L, R), 233) := by
  intro d
  induction d with
  | zero =>
    intro k hd
    obtain rfl : Np = k := by omega
    refine f_iload (M := mX2_total) 7 dX2_total_5 rfl rfl ?_
    refine f_aload_n (M := mX2_total) 8 dX2_total_7 rfl rfl ?_
    refine e_getI (M := mX2_total) dX2_total_8 fl_2015 (x_kk rfl) (sl_lt hβ 5 rfl) (sl_s hβ 5 rfl rfl) ?_
    refine e_icmp_geT (M := mX2_total) 30 dX2_total_11 rfl (by rw [hn]; exact Int32.le_refl _) ?_
    refine f_lload_n (M := mX2_total) 31 dX2_total_30 rfl rfl ?_
    refine e_rl (M := mX2_total) dX2_total_31 rfl (x_kk rfl) (x_kk rfl) ?_
    rfl
  | succ d ih =>
    intro k hd
    refine f_iload (M := mX2_total) 7 dX2_total_5 rfl rfl ?_
    refine f_aload_n (M := mX2_total) 8 dX2_total_7 rfl rfl ?_
    refine e_getI (M := mX2_total) dX2_total_8 fl_2015 (x_kk rfl) (sl_lt hβ 5 rfl) (sl_s hβ 5 rfl rfl) ?_
    refine e_icmp_geF (M := mX2_total) 30 dX2_total_11 rfl (by rw [hn, n_le (by omega) (by omega)]; omega) ?_
    refine f_lload_n (M := mX2_total) 15 dX2_total_14 rfl rfl ?_
    refine f_aload_n (M := mX2_total) 16 dX2_total_15 rfl rfl ?_
    refine f_iload (M := mX2_total) 18 dX2_total_16 rfl rfl ?_
    refine f_iload_n (M := mX2_total) 19 dX2_total_18 rfl rfl ?_
    refine e_cV (M := mX2_total) [_, _] 0 0 dX2_total_19 pa_2035 pb_2035 cc_2035 rfl rfl rfl rfl rfl (x_kk rfl) (x_kk rfl) (x_rcvOK (sl_lt hβ 5 rfl) (sl_s hβ 5 rfl rfl) rfl) (c_X2_volumeIn hR hβ (by omega) hσ) rfl ?_
    refine f_ladd (M := mX2_total) 23 dX2_total_22 rfl ?_
    refine f_lstore_n (M := mX2_total) (ls' := [_, _, _, _, _]) 24 dX2_total_23 rfl rfl rfl ?_
    refine f_iinc (M := mX2_total) (ls' := [_, _, _, _, _]) 27 dX2_total_24 ki_1 rfl rfl rfl rfl ?_
    refine f_goto (M := mX2_total) 5 dX2_total_27 rfl ?_
    rw [n_inc (s := k)]; exact ih (k + 1) (by omega)
theorem c_X2_total (hR : x_wf R) {β : Nat} (hβ : x_sl β) {Np : Nat} (hNp : Np ≤ 30) (hn : I (β + 5) 0 = Int32.ofNat Np) {σ : Int32} (hσ : x_spec σ) : x_Cv X mX2_total [.ref (β + 5), .int σ] (I, L, R) 233 (.inl (some (.long (cv_sum (I (β + 6)) σ Np))), (I, L, R), 233) := by
  show x_Ev X mX2_total 0 [some (.ref (β + 5)), some (.int σ), none, none, none] [] ((I, L, R), 233, 0, 0) _
  refine f_lconst (M := mX2_total) 1 dX2_total_0 kl_0 rfl ?_
  refine f_lstore_n (M := mX2_total) (ls' := [_, _, _, _, _]) 2 dX2_total_1 rfl rfl rfl ?_
  refine f_iconst (M := mX2_total) 3 dX2_total_2 ki_0 rfl ?_
  refine f_istore (M := mX2_total) (ls' := [_, _, _, _, _]) 5 dX2_total_3 rfl rfl rfl ?_
  exact l_X2_total hR hβ hNp hn hσ Np 0 (by omega)
theorem l_X2_spread (hR : x_wf R) {β : Nat} (hβ : x_sl β) {Np : Nat} (hNp : Np ≤ 30) (hn : I (β + 5) 0 = Int32.ofNat Np) {σ : Int32} (hσ : x_spec σ) {w : Option Value} : ∀ d k, k + d = Np → x_Ev X mX2_spread 8 [some (.ref (β + 5)), some (.int σ), some (.long (cv_sum (I (β + 6)) σ k)), none, some (.long (cv_sq (I (β + 6)) σ k)), none, some (.int (Int32.ofNat k)), w, none] [] ((I, L, R), 233, 0, 0) (.inl (some (.long ((I (β + 5) 0).toInt64 * cv_sq (I (β + 6)) σ Np - cv_sum (I (β + 6)) σ Np * cv_sum (I (β + 6)) σ Np))), (I, L, R), 233) := by
  intro d
  induction d generalizing w with
  | zero =>
    intro k hd
    obtain rfl : Np = k := by omega
    refine f_iload (M := mX2_spread) 10 dX2_spread_8 rfl rfl ?_
    refine f_aload_n (M := mX2_spread) 11 dX2_spread_10 rfl rfl ?_
    refine e_getI (M := mX2_spread) dX2_spread_11 fl_2015 (x_kk rfl) (sl_lt hβ 5 rfl) (sl_s hβ 5 rfl rfl) ?_
    refine e_icmp_geT (M := mX2_spread) 47 dX2_spread_14 rfl (by rw [hn]; exact Int32.le_refl _) ?_
    refine f_aload_n (M := mX2_spread) 48 dX2_spread_47 rfl rfl ?_
    refine e_getI (M := mX2_spread) dX2_spread_48 fl_2015 (x_kk rfl) (sl_lt hβ 5 rfl) (sl_s hβ 5 rfl rfl) ?_
    refine f_i2l (M := mX2_spread) 52 dX2_spread_51 rfl ?_
    refine f_lload (M := mX2_spread) 54 dX2_spread_52 rfl rfl ?_
    refine f_lmul (M := mX2_spread) 55 dX2_spread_54 rfl ?_
    refine f_lload_n (M := mX2_spread) 56 dX2_spread_55 rfl rfl ?_
    refine f_lload_n (M := mX2_spread) 57 dX2_spread_56 rfl rfl ?_
    refine f_lmul (M := mX2_spread) 58 dX2_spread_57 rfl ?_
    refine f_lsub (M := mX2_spread) 59 dX2_spread_58 rfl ?_
    refine e_rl (M := mX2_spread) dX2_spread_59 rfl (x_kk rfl) (x_kk rfl) ?_
    rfl
  | succ d ih =>
    intro k hd
    refine f_iload (M := mX2_spread) 10 dX2_spread_8 rfl rfl ?_
    refine f_aload_n (M := mX2_spread) 11 dX2_spread_10 rfl rfl ?_
    refine e_getI (M := mX2_spread) dX2_spread_11 fl_2015 (x_kk rfl) (sl_lt hβ 5 rfl) (sl_s hβ 5 rfl rfl) ?_
    refine e_icmp_geF (M := mX2_spread) 47 dX2_spread_14 rfl (by rw [hn, n_le (by omega) (by omega)]; omega) ?_
    refine f_aload_n (M := mX2_spread) 18 dX2_spread_17 rfl rfl ?_
    refine f_iload (M := mX2_spread) 20 dX2_spread_18 rfl rfl ?_
    refine f_iload_n (M := mX2_spread) 21 dX2_spread_20 rfl rfl ?_
    refine e_cV (M := mX2_spread) [_] 0 0 dX2_spread_21 pa_2035 pb_2035 cc_2035 rfl rfl rfl rfl rfl (x_kk rfl) (x_kk rfl) (x_rcvOK (sl_lt hβ 5 rfl) (sl_s hβ 5 rfl rfl) rfl) (c_X2_volumeIn hR hβ (by omega) hσ) rfl ?_
    refine f_lstore (M := mX2_spread) (ls' := [_, _, _, _, _, _, _, _, _]) 26 dX2_spread_24 rfl rfl rfl ?_
    refine f_lload_n (M := mX2_spread) 27 dX2_spread_26 rfl rfl ?_
    refine f_lload (M := mX2_spread) 29 dX2_spread_27 rfl rfl ?_
    refine f_ladd (M := mX2_spread) 30 dX2_spread_29 rfl ?_
    refine f_lstore_n (M := mX2_spread) (ls' := [_, _, _, _, _, _, _, _, _]) 31 dX2_spread_30 rfl rfl rfl ?_
    refine f_lload (M := mX2_spread) 33 dX2_spread_31 rfl rfl ?_
    refine f_lload (M := mX2_spread) 35 dX2_spread_33 rfl rfl ?_
    refine f_lload (M := mX2_spread) 37 dX2_spread_35 rfl rfl ?_
    refine f_lmul (M := mX2_spread) 38 dX2_spread_37 rfl ?_
    refine f_ladd (M := mX2_spread) 39 dX2_spread_38 rfl ?_
    refine f_lstore (M := mX2_spread) (ls' := [_, _, _, _, _, _, _, _, _]) 41 dX2_spread_39 rfl rfl rfl ?_
    refine f_iinc (M := mX2_spread) (ls' := [_, _, _, _, _, _, _, _, _]) 44 dX2_spread_41 ki_1 rfl rfl rfl rfl ?_
    refine f_goto (M := mX2_spread) 8 dX2_spread_44 rfl ?_
    rw [n_inc (s := k)]; exact ih (k + 1) (by omega)
theorem c_X2_spread (hR : x_wf R) {β : Nat} (hβ : x_sl β) {Np : Nat} (hNp : Np ≤ 30) (hn : I (β + 5) 0 = Int32.ofNat Np) {σ : Int32} (hσ : x_spec σ) : x_Cv X mX2_spread [.ref (β + 5), .int σ] (I, L, R) 233 (.inl (some (.long ((I (β + 5) 0).toInt64 * cv_sq (I (β + 6)) σ Np - cv_sum (I (β + 6)) σ Np * cv_sum (I (β + 6)) σ Np))), (I, L, R), 233) := by
  show x_Ev X mX2_spread 0 [some (.ref (β + 5)), some (.int σ), none, none, none, none, none, none, none] [] ((I, L, R), 233, 0, 0) _
  refine f_lconst (M := mX2_spread) 1 dX2_spread_0 kl_0 rfl ?_
  refine f_lstore_n (M := mX2_spread) (ls' := [_, _, _, _, _, _, _, _, _]) 2 dX2_spread_1 rfl rfl rfl ?_
  refine f_lconst (M := mX2_spread) 3 dX2_spread_2 kl_0 rfl ?_
  refine f_lstore (M := mX2_spread) (ls' := [_, _, _, _, _, _, _, _, _]) 5 dX2_spread_3 rfl rfl rfl ?_
  refine f_iconst (M := mX2_spread) 6 dX2_spread_5 ki_0 rfl ?_
  refine f_istore (M := mX2_spread) (ls' := [_, _, _, _, _, _, _, _, _]) 8 dX2_spread_6 rfl rfl rfl ?_
  exact l_X2_spread hR hβ hNp hn hσ Np 0 (by omega)
theorem c_X0_rateOf (hR : x_wf R) {β : Nat} (hβ : x_sl β) {q : Nat} (hq : q < 8) {s : Nat} (hs : s < 6) : x_Cv X mX0_rateOf [.ref (β + 7), .int (Int32.ofNat q), .int (Int32.ofNat s)] (I, L, R) 233 (.inl (some (.int (I (β + 9) (q * 6 + s)))), (I, L, R), 233) := by
  show x_Ev X mX0_rateOf 0 [some (.ref (β + 7)), some (.int (Int32.ofNat q)), some (.int (Int32.ofNat s))] [] ((I, L, R), 233, 0, 0) _
  refine f_aload_n (M := mX0_rateOf) 1 dX0_rateOf_0 rfl rfl ?_
  refine e_getR (M := mX0_rateOf) dX0_rateOf_1 fl_15 (x_kk rfl) (sl_lt hβ 7 rfl) (sl_s hβ 7 rfl rfl) (wf_0_1 hR hβ) ?_
  refine f_iload_n (M := mX0_rateOf) 5 dX0_rateOf_4 rfl rfl ?_
  refine f_bipush (M := mX0_rateOf) 7 dX0_rateOf_5 kb_6 rfl ?_
  refine f_imul (M := mX0_rateOf) 8 dX0_rateOf_7 rfl ?_
  refine f_iload_n (M := mX0_rateOf) 9 dX0_rateOf_8 rfl rfl ?_
  refine f_iadd (M := mX0_rateOf) 10 dX0_rateOf_9 rfl ?_
  refine e_ild (M := mX0_rateOf) (w := 48) (j := ((q) * (6)) + (s)) dX0_rateOf_10 (sl_lt hβ 9 rfl) (sl_shp hβ 9 rfl) (ix_add (ix_mul rfl kn_6) rfl) (by omega) (by omega) ?_
  refine e_ri (M := mX0_rateOf) dX0_rateOf_11 rfl (x_kk rfl) (x_kk rfl) ?_
  rfl
theorem c_X0_isSealed (hR : x_wf R) {β : Nat} (hβ : x_sl β) {q : Nat} (hq : q < 8) : x_Cv X mX0_isSealed [.ref (β + 7), .int (Int32.ofNat q)] (I, L, R) 233 (.inl (some (.int (x_b (0 < I (β + 11) q)))), (I, L, R), 233) := by
  show x_Ev X mX0_isSealed 0 [some (.ref (β + 7)), some (.int (Int32.ofNat q))] [] ((I, L, R), 233, 0, 0) _
  refine f_aload_n (M := mX0_isSealed) 1 dX0_isSealed_0 rfl rfl ?_
  refine e_getR (M := mX0_isSealed) dX0_isSealed_1 fl_21 (x_kk rfl) (sl_lt hβ 7 rfl) (sl_s hβ 7 rfl rfl) (wf_0_3 hR hβ) ?_
  refine f_iload_n (M := mX0_isSealed) 5 dX0_isSealed_4 rfl rfl ?_
  refine e_ild (M := mX0_isSealed) (w := 8) (j := q) dX0_isSealed_5 (sl_lt hβ 11 rfl) (sl_shp hβ 11 rfl) rfl (by omega) (by omega) ?_
  refine e_if_le (M := mX0_isSealed) (t := 13) dX0_isSealed_6 rfl (fun h1 => ?_) (fun h1 => ?_)
  · refine f_iconst (M := mX0_isSealed) 14 dX0_isSealed_13 ki_0 rfl ?_
    refine e_rb (M := mX0_isSealed) dX0_isSealed_14 rfl (x_kk rfl) (x_kk rfl) (by decide) ?_
    exact r_b0 (fun z => absurd h1 (i_nle.mpr z))
  · refine f_iconst (M := mX0_isSealed) 10 dX0_isSealed_9 ki_1 rfl ?_
    refine f_goto (M := mX0_isSealed) 14 dX0_isSealed_10 rfl ?_
    refine e_rb (M := mX0_isSealed) dX0_isSealed_14 rfl (x_kk rfl) (x_kk rfl) (by decide) ?_
    exact r_b1 (i_nle.mp h1)
def cv_val (r v : Nat → Int32) (q n : Nat) : Int64 := x_sum64 (fun s => (r (q * 6 + s)).toInt64 * (v s).toInt64) n
theorem l_X0_valueOf (hR : x_wf R) {β : Nat} (hβ : x_sl β) {q : Nat} (hq : q < 8) : ∀ d k, k + d = 6 → x_Ev X mX0_valueOf 5 [some (.ref (β + 7)), some (.int (Int32.ofNat q)), some (.long (cv_val (I (β + 9)) (I (β + 8)) q k)), none, some (.int (Int32.ofNat k))] [] ((I, L, R), 233, 0, 0) (.inl (some (.long (cv_val (I (β + 9)) (I (β + 8)) q 6))), (I, L, R), 233) := by
  intro d
  induction d with
  | zero =>
    intro k hd
    obtain rfl : 6 = k := by omega
    refine f_iload (M := mX0_valueOf) 7 dX0_valueOf_5 rfl rfl ?_
    refine f_bipush (M := mX0_valueOf) 9 dX0_valueOf_7 kb_6 rfl ?_
    refine e_icmp_geT (M := mX0_valueOf) 38 dX0_valueOf_9 rfl (by decide) ?_
    refine f_lload_n (M := mX0_valueOf) 39 dX0_valueOf_38 rfl rfl ?_
    refine e_rl (M := mX0_valueOf) dX0_valueOf_39 rfl (x_kk rfl) (x_kk rfl) ?_
    rfl
  | succ d ih =>
    intro k hd
    refine f_iload (M := mX0_valueOf) 7 dX0_valueOf_5 rfl rfl ?_
    refine f_bipush (M := mX0_valueOf) 9 dX0_valueOf_7 kb_6 rfl ?_
    refine e_icmp_geF (M := mX0_valueOf) 38 dX0_valueOf_9 rfl (by rw [kn_6, n_le (by omega) (by omega)]; omega) ?_
    refine f_lload_n (M := mX0_valueOf) 13 dX0_valueOf_12 rfl rfl ?_
    refine f_aload_n (M := mX0_valueOf) 14 dX0_valueOf_13 rfl rfl ?_
    refine f_iload_n (M := mX0_valueOf) 15 dX0_valueOf_14 rfl rfl ?_
    refine f_iload (M := mX0_valueOf) 17 dX0_valueOf_15 rfl rfl ?_
    refine e_cV (M := mX0_valueOf) [_, _] 0 0 dX0_valueOf_17 pa_45 pb_45 cc_45 rfl rfl rfl rfl rfl (x_kk rfl) (x_kk rfl) (x_rcvOK (sl_lt hβ 7 rfl) (sl_s hβ 7 rfl rfl) rfl) (c_X0_rateOf hR hβ hq (by omega)) rfl ?_
    refine f_i2l (M := mX0_valueOf) 21 dX0_valueOf_20 rfl ?_
    refine f_aload_n (M := mX0_valueOf) 22 dX0_valueOf_21 rfl rfl ?_
    refine e_getR (M := mX0_valueOf) dX0_valueOf_22 fl_9 (x_kk rfl) (sl_lt hβ 7 rfl) (sl_s hβ 7 rfl rfl) (wf_0_0 hR hβ) ?_
    refine f_iload (M := mX0_valueOf) 27 dX0_valueOf_25 rfl rfl ?_
    refine e_ild (M := mX0_valueOf) (w := 6) (j := k) dX0_valueOf_27 (sl_lt hβ 8 rfl) (sl_shp hβ 8 rfl) rfl (by omega) (by omega) ?_
    refine f_i2l (M := mX0_valueOf) 29 dX0_valueOf_28 rfl ?_
    refine f_lmul (M := mX0_valueOf) 30 dX0_valueOf_29 rfl ?_
    refine f_ladd (M := mX0_valueOf) 31 dX0_valueOf_30 rfl ?_
    refine f_lstore_n (M := mX0_valueOf) (ls' := [_, _, _, _, _]) 32 dX0_valueOf_31 rfl rfl rfl ?_
    refine f_iinc (M := mX0_valueOf) (ls' := [_, _, _, _, _]) 35 dX0_valueOf_32 ki_1 rfl rfl rfl rfl ?_
    refine f_goto (M := mX0_valueOf) 5 dX0_valueOf_35 rfl ?_
    rw [n_inc (s := k)]; exact ih (k + 1) (by omega)
theorem c_X0_valueOf (hR : x_wf R) {β : Nat} (hβ : x_sl β) {q : Nat} (hq : q < 8) : x_Cv X mX0_valueOf [.ref (β + 7), .int (Int32.ofNat q)] (I, L, R) 233 (.inl (some (.long (cv_val (I (β + 9)) (I (β + 8)) q 6))), (I, L, R), 233) := by
  show x_Ev X mX0_valueOf 0 [some (.ref (β + 7)), some (.int (Int32.ofNat q)), none, none, none] [] ((I, L, R), 233, 0, 0) _
  refine f_lconst (M := mX0_valueOf) 1 dX0_valueOf_0 kl_0 rfl ?_
  refine f_lstore_n (M := mX0_valueOf) (ls' := [_, _, _, _, _]) 2 dX0_valueOf_1 rfl rfl rfl ?_
  refine f_iconst (M := mX0_valueOf) 3 dX0_valueOf_2 ki_0 rfl ?_
  refine f_istore (M := mX0_valueOf) (ls' := [_, _, _, _, _]) 5 dX0_valueOf_3 rfl rfl rfl ?_
  exact l_X0_valueOf hR hβ hq 6 0 rfl
def cv_low (r m : Nat → Int32) (q : Nat) (e : Int32) (s : Nat) : Bool := decide (¬ Int32.ofNat s = e ∧ r (q * 6 + s) < m s)
theorem l_X0_hasLowRate (hR : x_wf R) {β : Nat} (hβ : x_sl β) {q : Nat} (hq : q < 8) {Ns : Nat} (hNs : Ns ≤ 6) (hn : I (β + 1) 0 = Int32.ofNat Ns) {e : Int32} : ∀ d k, k + d = Ns → x_any (cv_low (I (β + 9)) (I (β + 3)) q e) k = false → x_Ev X mX0_hasLowRate 3 [some (.ref (β + 7)), some (.int (Int32.ofNat q)), some (.int e), some (.ref (β + 1)), some (.int (Int32.ofNat k))] [] ((I, L, R), 233, 0, 0) (.inl (some (.int (x_b (x_any (cv_low (I (β + 9)) (I (β + 3)) q e) Ns = true)))), (I, L, R), 233) := by
  intro d
  induction d with
  | zero =>
    intro k hd he
    obtain rfl : Ns = k := by omega
    refine f_iload (M := mX0_hasLowRate) 5 dX0_hasLowRate_3 rfl rfl ?_
    refine f_aload_n (M := mX0_hasLowRate) 6 dX0_hasLowRate_5 rfl rfl ?_
    refine e_getI (M := mX0_hasLowRate) dX0_hasLowRate_6 fl_65 (x_kk rfl) (sl_lt hβ 1 rfl) (sl_s hβ 1 rfl rfl) ?_
    refine e_icmp_geT (M := mX0_hasLowRate) 43 dX0_hasLowRate_9 rfl (by rw [hn]; exact Int32.le_refl _) ?_
    refine f_iconst (M := mX0_hasLowRate) 44 dX0_hasLowRate_43 ki_0 rfl ?_
    refine e_rb (M := mX0_hasLowRate) dX0_hasLowRate_44 rfl (x_kk rfl) (x_kk rfl) (by decide) ?_
    exact r_b0 (fun z => by rw [he] at z; cases z)
  | succ d ih =>
    intro k hd he
    refine f_iload (M := mX0_hasLowRate) 5 dX0_hasLowRate_3 rfl rfl ?_
    refine f_aload_n (M := mX0_hasLowRate) 6 dX0_hasLowRate_5 rfl rfl ?_
    refine e_getI (M := mX0_hasLowRate) dX0_hasLowRate_6 fl_65 (x_kk rfl) (sl_lt hβ 1 rfl) (sl_s hβ 1 rfl rfl) ?_
    refine e_icmp_geF (M := mX0_hasLowRate) 43 dX0_hasLowRate_9 rfl (by rw [hn, n_le (by omega) (by omega)]; omega) ?_
    refine f_iload (M := mX0_hasLowRate) 14 dX0_hasLowRate_12 rfl rfl ?_
    refine f_iload_n (M := mX0_hasLowRate) 15 dX0_hasLowRate_14 rfl rfl ?_
    refine e_icmp_eq (M := mX0_hasLowRate) (t := 37) dX0_hasLowRate_15 rfl (fun h3 => ?_) (fun h3 => ?_)
    · refine f_iinc (M := mX0_hasLowRate) (ls' := [_, _, _, _, _]) 40 dX0_hasLowRate_37 ki_1 rfl rfl rfl rfl ?_
      refine f_goto (M := mX0_hasLowRate) 3 dX0_hasLowRate_40 rfl ?_
      rw [n_inc (s := k)]; exact ih (k + 1) (by omega) (x_any_f he (decide_eq_false (fun z => z.1 h3)))
    · refine f_aload_n (M := mX0_hasLowRate) 19 dX0_hasLowRate_18 rfl rfl ?_
      refine f_iload_n (M := mX0_hasLowRate) 20 dX0_hasLowRate_19 rfl rfl ?_
      refine f_iload (M := mX0_hasLowRate) 22 dX0_hasLowRate_20 rfl rfl ?_
      refine e_cV (M := mX0_hasLowRate) [_] 0 0 dX0_hasLowRate_22 pa_45 pb_45 cc_45 rfl rfl rfl rfl rfl (x_kk rfl) (x_kk rfl) (x_rcvOK (sl_lt hβ 7 rfl) (sl_s hβ 7 rfl rfl) rfl) (c_X0_rateOf hR hβ hq (by omega)) rfl ?_
      refine f_aload_n (M := mX0_hasLowRate) 26 dX0_hasLowRate_25 rfl rfl ?_
      refine e_getR (M := mX0_hasLowRate) dX0_hasLowRate_26 fl_70 (x_kk rfl) (sl_lt hβ 1 rfl) (sl_s hβ 1 rfl rfl) (wf_7_2 hR hβ) ?_
      refine f_iload (M := mX0_hasLowRate) 31 dX0_hasLowRate_29 rfl rfl ?_
      refine e_ild (M := mX0_hasLowRate) (w := 6) (j := k) dX0_hasLowRate_31 (sl_lt hβ 3 rfl) (sl_shp hβ 3 rfl) rfl (by omega) (by omega) ?_
      refine e_icmp_ge (M := mX0_hasLowRate) (t := 37) dX0_hasLowRate_32 rfl (fun h4 => ?_) (fun h4 => ?_)
      · refine f_iinc (M := mX0_hasLowRate) (ls' := [_, _, _, _, _]) 40 dX0_hasLowRate_37 ki_1 rfl rfl rfl rfl ?_
        refine f_goto (M := mX0_hasLowRate) 3 dX0_hasLowRate_40 rfl ?_
        rw [n_inc (s := k)]; exact ih (k + 1) (by omega) (x_any_f he (decide_eq_false (fun z => absurd z.2 (i_nlt.mpr h4))))
      · refine f_iconst (M := mX0_hasLowRate) 36 dX0_hasLowRate_35 ki_1 rfl ?_
        refine e_rb (M := mX0_hasLowRate) dX0_hasLowRate_36 rfl (x_kk rfl) (x_kk rfl) (by decide) ?_
        exact r_b1 (x_any_t (f := cv_low (I (β + 9)) (I (β + 3)) q e) (decide_eq_true ⟨h3, i_nle.mp h4⟩) (show k < Ns by omega))
theorem c_X0_hasLowRate (hR : x_wf R) {β : Nat} (hβ : x_sl β) {q : Nat} (hq : q < 8) {Ns : Nat} (hNs : Ns ≤ 6) (hn : I (β + 1) 0 = Int32.ofNat Ns) {e : Int32} : x_Cv X mX0_hasLowRate [.ref (β + 7), .int (Int32.ofNat q), .int e, .ref (β + 1)] (I, L, R) 233 (.inl (some (.int (x_b (x_any (cv_low (I (β + 9)) (I (β + 3)) q e) Ns = true)))), (I, L, R), 233) := by
  show x_Ev X mX0_hasLowRate 0 [some (.ref (β + 7)), some (.int (Int32.ofNat q)), some (.int e), some (.ref (β + 1)), none] [] ((I, L, R), 233, 0, 0) _
  refine f_iconst (M := mX0_hasLowRate) 1 dX0_hasLowRate_0 ki_0 rfl ?_
  refine f_istore (M := mX0_hasLowRate) (ls' := [_, _, _, _, _]) 3 dX0_hasLowRate_1 rfl rfl rfl ?_
  exact l_X0_hasLowRate hR hβ hq hNs hn Ns 0 (by omega) rfl
theorem c_X0_isDepositTooLow (hR : x_wf R) {β : Nat} (hβ : x_sl β) {q : Nat} (hq : q < 8) {v : Int64} : x_Cv X mX0_isDepositTooLow [.ref (β + 7), .int (Int32.ofNat q), .long v, .ref (β + 1)] (I, L, R) 233 (.inl (some (.int (x_b ((I (β + 10) q).toInt64 * 100 < v * (I (β + 2) 2).toInt64)))), (I, L, R), 233) := by
  show x_Ev X mX0_isDepositTooLow 0 [some (.ref (β + 7)), some (.int (Int32.ofNat q)), some (.long v), none, some (.ref (β + 1))] [] ((I, L, R), 233, 0, 0) _
  refine f_aload_n (M := mX0_isDepositTooLow) 1 dX0_isDepositTooLow_0 rfl rfl ?_
  refine e_getR (M := mX0_isDepositTooLow) dX0_isDepositTooLow_1 fl_18 (x_kk rfl) (sl_lt hβ 7 rfl) (sl_s hβ 7 rfl rfl) (wf_0_2 hR hβ) ?_
  refine f_iload_n (M := mX0_isDepositTooLow) 5 dX0_isDepositTooLow_4 rfl rfl ?_
  refine e_ild (M := mX0_isDepositTooLow) (w := 8) (j := q) dX0_isDepositTooLow_5 (sl_lt hβ 10 rfl) (sl_shp hβ 10 rfl) rfl (by omega) (by omega) ?_
  refine f_i2l (M := mX0_isDepositTooLow) 7 dX0_isDepositTooLow_6 rfl ?_
  refine f_ldc2 (M := mX0_isDepositTooLow) 10 dX0_isDepositTooLow_7 (x_kk rfl) csl_73 rfl ?_
  refine f_lmul (M := mX0_isDepositTooLow) 11 dX0_isDepositTooLow_10 rfl ?_
  refine f_lload_n (M := mX0_isDepositTooLow) 12 dX0_isDepositTooLow_11 rfl rfl ?_
  refine f_aload (M := mX0_isDepositTooLow) 14 dX0_isDepositTooLow_12 rfl rfl ?_
  refine e_getR (M := mX0_isDepositTooLow) dX0_isDepositTooLow_14 fl_75 (x_kk rfl) (sl_lt hβ 1 rfl) (sl_s hβ 1 rfl rfl) (wf_7_1 hR hβ) ?_
  refine f_iconst (M := mX0_isDepositTooLow) 18 dX0_isDepositTooLow_17 ki_2 rfl ?_
  refine e_ild (M := mX0_isDepositTooLow) (w := 7) (j := 2) dX0_isDepositTooLow_18 (sl_lt hβ 2 rfl) (sl_shp hβ 2 rfl) kn_2 (by omega) (by omega) ?_
  refine f_i2l (M := mX0_isDepositTooLow) 20 dX0_isDepositTooLow_19 rfl ?_
  refine f_lmul (M := mX0_isDepositTooLow) 21 dX0_isDepositTooLow_20 rfl ?_
  refine f_lcmp (M := mX0_isDepositTooLow) 22 dX0_isDepositTooLow_21 rfl ?_
  refine e_if_ge (M := mX0_isDepositTooLow) (t := 29) dX0_isDepositTooLow_22 rfl (fun h1 => ?_) (fun h1 => ?_)
  · refine f_iconst (M := mX0_isDepositTooLow) 30 dX0_isDepositTooLow_29 ki_0 rfl ?_
    refine e_rb (M := mX0_isDepositTooLow) dX0_isDepositTooLow_30 rfl (x_kk rfl) (x_kk rfl) (by decide) ?_
    exact r_b0 (fun z => absurd (lc_ge.mp h1) (l_nle.mpr z))
  · refine f_iconst (M := mX0_isDepositTooLow) 26 dX0_isDepositTooLow_25 ki_1 rfl ?_
    refine f_goto (M := mX0_isDepositTooLow) 30 dX0_isDepositTooLow_26 rfl ?_
    refine e_rb (M := mX0_isDepositTooLow) dX0_isDepositTooLow_30 rfl (x_kk rfl) (x_kk rfl) (by decide) ?_
    exact r_b1 (l_nle.mp (fun z => h1 (lc_ge.mpr z)))
def cv_prob (I : Nat → Nat → Int32) (β q n : Nat) : Int32 := if ¬ 0 < I (β + 11) q then 1 else if x_any (cv_low (I (β + 9)) (I (β + 3)) q (-1)) n = true then 2 else if (I (β + 10) q).toInt64 * 100 < cv_val (I (β + 9)) (I (β + 8)) q 6 * (I (β + 2) 2).toInt64 then 3 else if Int32.ofNat q = I (β + 7) 5 then 4 else 0
theorem c_X0_problemOf (hR : x_wf R) {β : Nat} (hβ : x_sl β) {q : Nat} (hq : q < 8) {Ns : Nat} (hNs : Ns ≤ 6) (hn : I (β + 1) 0 = Int32.ofNat Ns) : x_Cv X mX0_problemOf [.ref (β + 7), .int (Int32.ofNat q), .ref (β + 1)] (I, L, R) 233 (.inl (some (.int (cv_prob I β q Ns))), (I, L, R), 233) := by
  show x_Ev X mX0_problemOf 0 [some (.ref (β + 7)), some (.int (Int32.ofNat q)), some (.ref (β + 1))] [] ((I, L, R), 233, 0, 0) _
  refine f_aload_n (M := mX0_problemOf) 1 dX0_problemOf_0 rfl rfl ?_
  refine f_iload_n (M := mX0_problemOf) 2 dX0_problemOf_1 rfl rfl ?_
  refine e_cV (M := mX0_problemOf) [_] 0 0 dX0_problemOf_2 pa_49 pb_49 cc_49 rfl rfl rfl rfl rfl (x_kk rfl) (x_kk rfl) (x_rcvOK (sl_lt hβ 7 rfl) (sl_s hβ 7 rfl rfl) rfl) (c_X0_isSealed hR hβ hq) rfl ?_
  refine e_if_ne (M := mX0_problemOf) (t := 10) dX0_problemOf_5 rfl (fun h1 => ?_) (fun h1 => ?_)
  · refine f_aload_n (M := mX0_problemOf) 11 dX0_problemOf_10 rfl rfl ?_
    refine f_iload_n (M := mX0_problemOf) 12 dX0_problemOf_11 rfl rfl ?_
    refine f_iconst (M := mX0_problemOf) 13 dX0_problemOf_12 ki_m1 rfl ?_
    refine f_aload_n (M := mX0_problemOf) 14 dX0_problemOf_13 rfl rfl ?_
    refine e_cV (M := mX0_problemOf) [_] 0 0 dX0_problemOf_14 pa_53 pb_53 cc_53 rfl rfl rfl rfl rfl (x_kk rfl) (x_kk rfl) (x_rcvOK (sl_lt hβ 7 rfl) (sl_s hβ 7 rfl rfl) rfl) (c_X0_hasLowRate (e := -1) hR hβ hq hNs hn) rfl ?_
    refine e_if_eq (M := mX0_problemOf) (t := 22) dX0_problemOf_17 rfl (fun h2 => ?_) (fun h2 => ?_)
    · refine f_aload_n (M := mX0_problemOf) 23 dX0_problemOf_22 rfl rfl ?_
      refine f_iload_n (M := mX0_problemOf) 24 dX0_problemOf_23 rfl rfl ?_
      refine f_aload_n (M := mX0_problemOf) 25 dX0_problemOf_24 rfl rfl ?_
      refine f_iload_n (M := mX0_problemOf) 26 dX0_problemOf_25 rfl rfl ?_
      refine e_cV (M := mX0_problemOf) [_, _, _] 0 0 dX0_problemOf_26 pa_57 pb_57 cc_57 rfl rfl rfl rfl rfl (x_kk rfl) (x_kk rfl) (x_rcvOK (sl_lt hβ 7 rfl) (sl_s hβ 7 rfl rfl) rfl) (c_X0_valueOf hR hβ hq) rfl ?_
      refine f_aload_n (M := mX0_problemOf) 30 dX0_problemOf_29 rfl rfl ?_
      refine e_cV (M := mX0_problemOf) [_] 0 0 dX0_problemOf_30 pa_61 pb_61 cc_61 rfl rfl rfl rfl rfl (x_kk rfl) (x_kk rfl) (x_rcvOK (sl_lt hβ 7 rfl) (sl_s hβ 7 rfl rfl) rfl) (c_X0_isDepositTooLow hR hβ hq) rfl ?_
      refine e_if_eq (M := mX0_problemOf) (t := 38) dX0_problemOf_33 rfl (fun h3 => ?_) (fun h3 => ?_)
      · refine f_iload_n (M := mX0_problemOf) 39 dX0_problemOf_38 rfl rfl ?_
        refine f_aload_n (M := mX0_problemOf) 40 dX0_problemOf_39 rfl rfl ?_
        refine e_getI (M := mX0_problemOf) dX0_problemOf_40 fl_24 (x_kk rfl) (sl_lt hβ 7 rfl) (sl_s hβ 7 rfl rfl) ?_
        refine e_icmp_ne (M := mX0_problemOf) (t := 50) dX0_problemOf_43 rfl (fun h4 => ?_) (fun h4 => ?_)
        · refine f_iconst (M := mX0_problemOf) 51 dX0_problemOf_50 ki_0 rfl ?_
          refine e_ri (M := mX0_problemOf) dX0_problemOf_51 rfl (x_kk rfl) (x_kk rfl) ?_
          exact r_i (by unfold cv_prob; rw [if_neg (fun z => z (x_bT h1)), if_neg (x_bF h2), if_neg (x_bF h3), if_neg h4])
        · refine f_iconst (M := mX0_problemOf) 47 dX0_problemOf_46 ki_4 rfl ?_
          refine f_goto (M := mX0_problemOf) 51 dX0_problemOf_47 rfl ?_
          refine e_ri (M := mX0_problemOf) dX0_problemOf_51 rfl (x_kk rfl) (x_kk rfl) ?_
          exact r_i (by unfold cv_prob; rw [if_neg (fun z => z (x_bT h1)), if_neg (x_bF h2), if_neg (x_bF h3), if_pos (x_dn h4)])
      · refine f_iconst (M := mX0_problemOf) 37 dX0_problemOf_36 ki_3 rfl ?_
        refine e_ri (M := mX0_problemOf) dX0_problemOf_37 rfl (x_kk rfl) (x_kk rfl) ?_
        exact r_i (by unfold cv_prob; rw [if_neg (fun z => z (x_bT h1)), if_neg (x_bF h2), if_pos (x_bT h3)])
    · refine f_iconst (M := mX0_problemOf) 21 dX0_problemOf_20 ki_2 rfl ?_
      refine e_ri (M := mX0_problemOf) dX0_problemOf_21 rfl (x_kk rfl) (x_kk rfl) ?_
      exact r_i (by unfold cv_prob; rw [if_neg (fun z => z (x_bT h1)), if_pos (x_bT h2)])
  · refine f_iconst (M := mX0_problemOf) 9 dX0_problemOf_8 ki_1 rfl ?_
    refine e_ri (M := mX0_problemOf) dX0_problemOf_9 rfl (x_kk rfl) (x_kk rfl) ?_
    exact r_i (by unfold cv_prob; rw [if_pos (x_bG h1)])
theorem c_X0_isValid (hR : x_wf R) {β : Nat} (hβ : x_sl β) {q : Nat} (hq : q < 8) {Ns : Nat} (hNs : Ns ≤ 6) (hn : I (β + 1) 0 = Int32.ofNat Ns) : x_Cv X mX0_isValid [.ref (β + 7), .int (Int32.ofNat q), .ref (β + 1)] (I, L, R) 233 (.inl (some (.int (x_b (cv_prob I β q Ns = 0)))), (I, L, R), 233) := by
  show x_Ev X mX0_isValid 0 [some (.ref (β + 7)), some (.int (Int32.ofNat q)), some (.ref (β + 1))] [] ((I, L, R), 233, 0, 0) _
  refine f_aload_n (M := mX0_isValid) 1 dX0_isValid_0 rfl rfl ?_
  refine f_iload_n (M := mX0_isValid) 2 dX0_isValid_1 rfl rfl ?_
  refine f_aload_n (M := mX0_isValid) 3 dX0_isValid_2 rfl rfl ?_
  refine e_cV (M := mX0_isValid) [_] 0 0 dX0_isValid_3 pa_78 pb_78 cc_78 rfl rfl rfl rfl rfl (x_kk rfl) (x_kk rfl) (x_rcvOK (sl_lt hβ 7 rfl) (sl_s hβ 7 rfl rfl) rfl) (c_X0_problemOf hR hβ hq hNs hn) rfl ?_
  refine e_if_ne (M := mX0_isValid) (t := 13) dX0_isValid_6 rfl (fun h1 => ?_) (fun h1 => ?_)
  · refine f_iconst (M := mX0_isValid) 14 dX0_isValid_13 ki_0 rfl ?_
    refine e_rb (M := mX0_isValid) dX0_isValid_14 rfl (x_kk rfl) (x_kk rfl) (by decide) ?_
    exact r_b0 h1
  · refine f_iconst (M := mX0_isValid) 10 dX0_isValid_9 ki_1 rfl ?_
    refine f_goto (M := mX0_isValid) 14 dX0_isValid_10 rfl ?_
    refine e_rb (M := mX0_isValid) dX0_isValid_14 rfl (x_kk rfl) (x_kk rfl) (by decide) ?_
    exact r_b1 (x_dn h1)
theorem c_X0_goesBefore (hR : x_wf R) {β : Nat} (hβ : x_sl β) {q : Nat} (hq : q < 8) {j : Nat} (hj : j < 8) {v : Int64} : x_Cv X mX0_goesBefore [.ref (β + 7), .int (Int32.ofNat q), .int (Int32.ofNat j), .long v] (I, L, R) 233 (.inl (some (.int (x_b (0 < v ∨ (v = 0 ∧ I (β + 11) q < I (β + 11) j))))), (I, L, R), 233) := by
  show x_Ev X mX0_goesBefore 0 [some (.ref (β + 7)), some (.int (Int32.ofNat q)), some (.int (Int32.ofNat j)), some (.long v), none] [] ((I, L, R), 233, 0, 0) _
  refine f_lload_n (M := mX0_goesBefore) 1 dX0_goesBefore_0 rfl rfl ?_
  refine f_lconst (M := mX0_goesBefore) 2 dX0_goesBefore_1 kl_0 rfl ?_
  refine f_lcmp (M := mX0_goesBefore) 3 dX0_goesBefore_2 rfl ?_
  refine e_if_gt (M := mX0_goesBefore) (t := 27) dX0_goesBefore_3 rfl (fun h1 => ?_) (fun h1 => ?_)
  · refine f_iconst (M := mX0_goesBefore) 28 dX0_goesBefore_27 ki_1 rfl ?_
    refine f_goto (M := mX0_goesBefore) 32 dX0_goesBefore_28 rfl ?_
    refine e_rb (M := mX0_goesBefore) dX0_goesBefore_32 rfl (x_kk rfl) (x_kk rfl) (by decide) ?_
    exact r_b1 (Or.inl (lc_gt.mp h1))
  · refine f_lload_n (M := mX0_goesBefore) 7 dX0_goesBefore_6 rfl rfl ?_
    refine f_lconst (M := mX0_goesBefore) 8 dX0_goesBefore_7 kl_0 rfl ?_
    refine f_lcmp (M := mX0_goesBefore) 9 dX0_goesBefore_8 rfl ?_
    refine e_if_ne (M := mX0_goesBefore) (t := 31) dX0_goesBefore_9 rfl (fun h2 => ?_) (fun h2 => ?_)
    · refine f_iconst (M := mX0_goesBefore) 32 dX0_goesBefore_31 ki_0 rfl ?_
      refine e_rb (M := mX0_goesBefore) dX0_goesBefore_32 rfl (x_kk rfl) (x_kk rfl) (by decide) ?_
      exact r_b0 (fun z => z.elim (fun y => h1 (lc_gt.mpr y)) (fun y => h2 (lc_eq.mpr y.1)))
    · refine f_aload_n (M := mX0_goesBefore) 13 dX0_goesBefore_12 rfl rfl ?_
      refine e_getR (M := mX0_goesBefore) dX0_goesBefore_13 fl_21 (x_kk rfl) (sl_lt hβ 7 rfl) (sl_s hβ 7 rfl rfl) (wf_0_3 hR hβ) ?_
      refine f_iload_n (M := mX0_goesBefore) 17 dX0_goesBefore_16 rfl rfl ?_
      refine e_ild (M := mX0_goesBefore) (w := 8) (j := q) dX0_goesBefore_17 (sl_lt hβ 11 rfl) (sl_shp hβ 11 rfl) rfl (by omega) (by omega) ?_
      refine f_aload_n (M := mX0_goesBefore) 19 dX0_goesBefore_18 rfl rfl ?_
      refine e_getR (M := mX0_goesBefore) dX0_goesBefore_19 fl_21 (x_kk rfl) (sl_lt hβ 7 rfl) (sl_s hβ 7 rfl rfl) (wf_0_3 hR hβ) ?_
      refine f_iload_n (M := mX0_goesBefore) 23 dX0_goesBefore_22 rfl rfl ?_
      refine e_ild (M := mX0_goesBefore) (w := 8) (j := j) dX0_goesBefore_23 (sl_lt hβ 11 rfl) (sl_shp hβ 11 rfl) rfl (by omega) (by omega) ?_
      refine e_icmp_ge (M := mX0_goesBefore) (t := 31) dX0_goesBefore_24 rfl (fun h3 => ?_) (fun h3 => ?_)
      · refine f_iconst (M := mX0_goesBefore) 32 dX0_goesBefore_31 ki_0 rfl ?_
        refine e_rb (M := mX0_goesBefore) dX0_goesBefore_32 rfl (x_kk rfl) (x_kk rfl) (by decide) ?_
        exact r_b0 (fun z => z.elim (fun y => h1 (lc_gt.mpr y)) (fun y => absurd y.2 (i_nlt.mpr h3)))
      · refine f_iconst (M := mX0_goesBefore) 28 dX0_goesBefore_27 ki_1 rfl ?_
        refine f_goto (M := mX0_goesBefore) 32 dX0_goesBefore_28 rfl ?_
        refine e_rb (M := mX0_goesBefore) dX0_goesBefore_32 rfl (x_kk rfl) (x_kk rfl) (by decide) ?_
        exact r_b1 (Or.inr ⟨lc_eq.mp (x_dn h2), i_nle.mp h3⟩)
def cv_lead (I : Nat → Nat → Int32) (β q j : Nat) : Int64 := cv_val (I (β + 9)) (I (β + 8)) q 6 - cv_val (I (β + 9)) (I (β + 8)) j 6
abbrev cv_bef (I : Nat → Nat → Int32) (β q j : Nat) : Prop := 0 < cv_lead I β q j ∨ (cv_lead I β q j = 0 ∧ I (β + 11) q < I (β + 11) j)
theorem c_X0_beats (hR : x_wf R) {β : Nat} (hβ : x_sl β) {q : Nat} (hq : q < 8) {j : Nat} (hj : j < 8) : x_Cv X mX0_beats [.ref (β + 7), .int (Int32.ofNat q), .int (Int32.ofNat j)] (I, L, R) 233 (.inl (some (.int (x_b (cv_bef I β q j)))), (I, L, R), 233) := by
  show x_Ev X mX0_beats 0 [some (.ref (β + 7)), some (.int (Int32.ofNat q)), some (.int (Int32.ofNat j))] [] ((I, L, R), 233, 0, 0) _
  refine f_aload_n (M := mX0_beats) 1 dX0_beats_0 rfl rfl ?_
  refine f_iload_n (M := mX0_beats) 2 dX0_beats_1 rfl rfl ?_
  refine f_iload_n (M := mX0_beats) 3 dX0_beats_2 rfl rfl ?_
  refine f_aload_n (M := mX0_beats) 4 dX0_beats_3 rfl rfl ?_
  refine f_iload_n (M := mX0_beats) 5 dX0_beats_4 rfl rfl ?_
  refine e_cV (M := mX0_beats) [_, _, _, _] 0 0 dX0_beats_5 pa_57 pb_57 cc_57 rfl rfl rfl rfl rfl (x_kk rfl) (x_kk rfl) (x_rcvOK (sl_lt hβ 7 rfl) (sl_s hβ 7 rfl rfl) rfl) (c_X0_valueOf hR hβ hq) rfl ?_
  refine f_aload_n (M := mX0_beats) 9 dX0_beats_8 rfl rfl ?_
  refine f_iload_n (M := mX0_beats) 10 dX0_beats_9 rfl rfl ?_
  refine e_cV (M := mX0_beats) [_, _, _, _, _] 0 0 dX0_beats_10 pa_57 pb_57 cc_57 rfl rfl rfl rfl rfl (x_kk rfl) (x_kk rfl) (x_rcvOK (sl_lt hβ 7 rfl) (sl_s hβ 7 rfl rfl) rfl) (c_X0_valueOf hR hβ hj) rfl ?_
  refine f_lsub (M := mX0_beats) 14 dX0_beats_13 rfl ?_
  refine e_cV (M := mX0_beats) [_] 0 0 dX0_beats_14 pa_86 pb_86 cc_86 rfl rfl rfl rfl rfl (x_kk rfl) (x_kk rfl) (x_rcvOK (sl_lt hβ 7 rfl) (sl_s hβ 7 rfl rfl) rfl) (c_X0_goesBefore hR hβ hq hj) rfl ?_
  refine e_rb (M := mX0_beats) dX0_beats_17 rfl (x_kk rfl) (x_kk rfl) (by exact x_bN) ?_
  rfl
def cv_win (I : Nat → Nat → Int32) (β n : Nat) : Nat → Option Nat := sp_fst (fun k => cv_prob I β k n = 0) (fun k j => cv_bef I β k j)
theorem l_X0_winner (hR : x_wf R) {β : Nat} (hβ : x_sl β) {Ns : Nat} (hNs : Ns ≤ 6) (hn : I (β + 1) 0 = Int32.ofNat Ns) : ∀ d k, k + d = 8 → x_Ev X mX0_winner 4 [some (.ref (β + 7)), some (.ref (β + 1)), some (.int (x_on (cv_win I β Ns k))), some (.int (Int32.ofNat k))] [] ((I, L, R), 233, 0, 0) (.inl (some (.int (x_on (cv_win I β Ns 8)))), (I, L, R), 233) := by
  intro d
  induction d with
  | zero =>
    intro k hd
    obtain rfl : 8 = k := by omega
    refine f_iload_n (M := mX0_winner) 5 dX0_winner_4 rfl rfl ?_
    refine f_bipush (M := mX0_winner) 7 dX0_winner_5 kb_8 rfl ?_
    refine e_icmp_geT (M := mX0_winner) 41 dX0_winner_7 rfl (by decide) ?_
    refine f_iload_n (M := mX0_winner) 42 dX0_winner_41 rfl rfl ?_
    refine e_ri (M := mX0_winner) dX0_winner_42 rfl (x_kk rfl) (x_kk rfl) ?_
    rfl
  | succ d ih =>
    intro k hd
    cases hw : cv_win I β Ns k with
    | none =>
      refine f_iload_n (M := mX0_winner) 5 dX0_winner_4 rfl rfl ?_
      refine f_bipush (M := mX0_winner) 7 dX0_winner_5 kb_8 rfl ?_
      refine e_icmp_geF (M := mX0_winner) 41 dX0_winner_7 rfl (by rw [kn_8, n_le (by omega) (by omega)]; omega) ?_
      refine f_aload_n (M := mX0_winner) 11 dX0_winner_10 rfl rfl ?_
      refine f_iload_n (M := mX0_winner) 12 dX0_winner_11 rfl rfl ?_
      refine f_aload_n (M := mX0_winner) 13 dX0_winner_12 rfl rfl ?_
      refine e_cV (M := mX0_winner) [_] 0 0 dX0_winner_13 pa_82 pb_82 cc_82 rfl rfl rfl rfl rfl (x_kk rfl) (x_kk rfl) (x_rcvOK (sl_lt hβ 7 rfl) (sl_s hβ 7 rfl rfl) rfl) (c_X0_isValid hR hβ (by omega) hNs hn) rfl ?_
      refine e_if_eq (M := mX0_winner) (t := 35) dX0_winner_16 rfl (fun h1 => ?_) (fun h1 => ?_)
      · refine f_iinc (M := mX0_winner) (ls' := [_, _, _, _]) 38 dX0_winner_35 ki_1 rfl rfl rfl rfl ?_
        refine f_goto (M := mX0_winner) 4 dX0_winner_38 rfl ?_
        rw [n_inc (s := k)]; have ih1 := ih (k + 1) (by omega); rw [show cv_win I β Ns (k + 1) = _ from (sp_fst_n (x_bF h1)).trans hw] at ih1; exact ih1
      · refine f_iload_n (M := mX0_winner) 20 dX0_winner_19 rfl rfl ?_
        refine f_iconst (M := mX0_winner) 21 dX0_winner_20 ki_m1 rfl ?_
        refine e_icmp_eqT (M := mX0_winner) 33 dX0_winner_21 rfl rfl ?_
        refine f_iload_n (M := mX0_winner) 34 dX0_winner_33 rfl rfl ?_
        refine f_istore_n (M := mX0_winner) (ls' := [_, _, _, _]) 35 dX0_winner_34 rfl rfl rfl ?_
        refine f_iinc (M := mX0_winner) (ls' := [_, _, _, _]) 38 dX0_winner_35 ki_1 rfl rfl rfl rfl ?_
        refine f_goto (M := mX0_winner) 4 dX0_winner_38 rfl ?_
        rw [n_inc (s := k)]; have ih1 := ih (k + 1) (by omega); rw [show cv_win I β Ns (k + 1) = _ from sp_fst_0 (x_bT h1) hw] at ih1; exact ih1
    | some i =>
      have hi : i < 8 := Nat.lt_trans (sp_fst_lt hw) (by omega)
      refine f_iload_n (M := mX0_winner) 5 dX0_winner_4 rfl rfl ?_
      refine f_bipush (M := mX0_winner) 7 dX0_winner_5 kb_8 rfl ?_
      refine e_icmp_geF (M := mX0_winner) 41 dX0_winner_7 rfl (by rw [kn_8, n_le (by omega) (by omega)]; omega) ?_
      refine f_aload_n (M := mX0_winner) 11 dX0_winner_10 rfl rfl ?_
      refine f_iload_n (M := mX0_winner) 12 dX0_winner_11 rfl rfl ?_
      refine f_aload_n (M := mX0_winner) 13 dX0_winner_12 rfl rfl ?_
      refine e_cV (M := mX0_winner) [_] 0 0 dX0_winner_13 pa_82 pb_82 cc_82 rfl rfl rfl rfl rfl (x_kk rfl) (x_kk rfl) (x_rcvOK (sl_lt hβ 7 rfl) (sl_s hβ 7 rfl rfl) rfl) (c_X0_isValid hR hβ (by omega) hNs hn) rfl ?_
      refine e_if_eq (M := mX0_winner) (t := 35) dX0_winner_16 rfl (fun h1 => ?_) (fun h1 => ?_)
      · refine f_iinc (M := mX0_winner) (ls' := [_, _, _, _]) 38 dX0_winner_35 ki_1 rfl rfl rfl rfl ?_
        refine f_goto (M := mX0_winner) 4 dX0_winner_38 rfl ?_
        rw [n_inc (s := k)]; have ih1 := ih (k + 1) (by omega); rw [show cv_win I β Ns (k + 1) = _ from (sp_fst_n (x_bF h1)).trans hw] at ih1; exact ih1
      · refine f_iload_n (M := mX0_winner) 20 dX0_winner_19 rfl rfl ?_
        refine f_iconst (M := mX0_winner) 21 dX0_winner_20 ki_m1 rfl ?_
        refine e_icmp_eqF (M := mX0_winner) 33 dX0_winner_21 rfl (n_ne1 (by omega)) ?_
        refine f_aload_n (M := mX0_winner) 25 dX0_winner_24 rfl rfl ?_
        refine f_iload_n (M := mX0_winner) 26 dX0_winner_25 rfl rfl ?_
        refine f_iload_n (M := mX0_winner) 27 dX0_winner_26 rfl rfl ?_
        refine e_cV (M := mX0_winner) [_] 0 0 dX0_winner_27 pa_90 pb_90 cc_90 rfl rfl rfl rfl rfl (x_kk rfl) (x_kk rfl) (x_rcvOK (sl_lt hβ 7 rfl) (sl_s hβ 7 rfl rfl) rfl) (c_X0_beats hR hβ (by omega) hi) rfl ?_
        refine e_if_eq (M := mX0_winner) (t := 35) dX0_winner_30 rfl (fun h2 => ?_) (fun h2 => ?_)
        · refine f_iinc (M := mX0_winner) (ls' := [_, _, _, _]) 38 dX0_winner_35 ki_1 rfl rfl rfl rfl ?_
          refine f_goto (M := mX0_winner) 4 dX0_winner_38 rfl ?_
          rw [n_inc (s := k)]; have ih1 := ih (k + 1) (by omega); rw [show cv_win I β Ns (k + 1) = _ from (sp_fst_2 hw (x_bF h2)).trans hw] at ih1; exact ih1
        · refine f_iload_n (M := mX0_winner) 34 dX0_winner_33 rfl rfl ?_
          refine f_istore_n (M := mX0_winner) (ls' := [_, _, _, _]) 35 dX0_winner_34 rfl rfl rfl ?_
          refine f_iinc (M := mX0_winner) (ls' := [_, _, _, _]) 38 dX0_winner_35 ki_1 rfl rfl rfl rfl ?_
          refine f_goto (M := mX0_winner) 4 dX0_winner_38 rfl ?_
          rw [n_inc (s := k)]; have ih1 := ih (k + 1) (by omega); rw [show cv_win I β Ns (k + 1) = _ from sp_fst_1 (x_bT h1) hw (x_bT h2)] at ih1; exact ih1
theorem c_X0_winner (hR : x_wf R) {β : Nat} (hβ : x_sl β) {Ns : Nat} (hNs : Ns ≤ 6) (hn : I (β + 1) 0 = Int32.ofNat Ns) : x_Cv X mX0_winner [.ref (β + 7), .ref (β + 1)] (I, L, R) 233 (.inl (some (.int (x_on (cv_win I β Ns 8)))), (I, L, R), 233) := by
  show x_Ev X mX0_winner 0 [some (.ref (β + 7)), some (.ref (β + 1)), none, none] [] ((I, L, R), 233, 0, 0) _
  refine f_iconst (M := mX0_winner) 1 dX0_winner_0 ki_m1 rfl ?_
  refine f_istore_n (M := mX0_winner) (ls' := [_, _, _, _]) 2 dX0_winner_1 rfl rfl rfl ?_
  refine f_iconst (M := mX0_winner) 3 dX0_winner_2 ki_0 rfl ?_
  refine f_istore_n (M := mX0_winner) (ls' := [_, _, _, _]) 4 dX0_winner_3 rfl rfl rfl ?_
  exact l_X0_winner hR hβ hNs hn 8 0 rfl
end

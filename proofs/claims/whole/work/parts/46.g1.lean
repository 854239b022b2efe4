/-! ===== the common divisor (laid by wip/whole/src/g1.py) ===== -/
section
variable {X : x_X} {I : Nat → Nat → Int32} {L : Nat → Nat → Int64} {R : Nat → Nat → Option Nat}
def x_gcd : Nat → Int64 → Int64 → Int64
  | 0, v, _ => v
  | n + 1, v, w => if w = 0 then v else x_gcd n w (v - v / w * w)
/-- n steps are enough -/
def x_gst : Nat → Int64 → Int64 → Prop
  | 0, _, w => w = 0
  | n + 1, v, w => w = 0 ∨ x_gst n w (v - v / w * w)
theorem pa_9147 : x_look 9147 x_cpyT = none := rfl
theorem cc_div {k : Nat} (hk : k ≤ 100) : x_cal (mX9_divisor (k + 1)) 9147 = some (1, mX9_divisor k, 2) := by
  show some (1, mX9_divisor (min k 100), 2) = _
  rw [Nat.min_eq_left hk]
theorem key_div {k : Nat} : x_key (mX9_divisor k) 147 = 9147 := by
  show 9 * 1000 + 147 = 9147
  rfl
theorem pa_div {k : Nat} : x_look (x_key (mX9_divisor k) 147) x_cpyT = none := by
  rw [key_div]
  rfl
theorem cc_dv {k : Nat} (hk : k ≤ 100) : x_cal (mX9_divisor (k + 1)) (x_key (mX9_divisor (k + 1)) 147) = some (1, mX9_divisor k, 2) := by
  rw [key_div]
  exact cc_div hk
theorem cc_part : x_cal mX9_part 9147 = some (1, mX9_divisor 100, 2) := rfl
theorem div_B {k : Nat} {x y : Int64} : x_ccB (mX9_divisor (k + 1)) (mX9_divisor k) 1 1 2 147 [.long y, .long x] [.long x, .long y] [] = true := by
  have h : Nat.blt k (k + 1) = true := Nat.ble_eq.mpr (Nat.le_refl _)
  show (true && true && true && Nat.blt k (k + 1) && true && true) = true
  rw [h]
  rfl
theorem c_X9_divisor : ∀ (k : Nat) (v w : Int64), k ≤ 100 → x_gst k v w → x_Cv X (mX9_divisor k) [.long v, .long w] (I, L, R) 233 (.inl (some (.long (x_gcd k v w))), (I, L, R), 233) := by
  intro k
  induction k with
  | zero =>
    intro v w hk h
    show x_Ev X (mX9_divisor 0) 0 [some (.long v), none, some (.long w), none] [] ((I, L, R), 233, 0, 0) _
    refine f_lload_n (M := mX9_divisor 0) 1 dX9_divisor_0 rfl rfl ?_
    refine f_lconst (M := mX9_divisor 0) 2 dX9_divisor_1 kl_0 rfl ?_
    refine f_lcmp (M := mX9_divisor 0) 3 dX9_divisor_2 rfl ?_
    refine e_if_neF (M := mX9_divisor 0) 10 dX9_divisor_3 rfl (fun z => z (lc_eq.mpr h)) ?_
    refine f_lload_n (M := mX9_divisor 0) 7 dX9_divisor_6 rfl rfl ?_
    refine f_goto (M := mX9_divisor 0) 17 dX9_divisor_7 rfl ?_
    refine e_rl (M := mX9_divisor 0) dX9_divisor_17 rfl (x_kk rfl) (x_kk rfl) ?_
    rfl
  | succ k ih =>
    intro v w hk h
    by_cases hw : w = 0
    · show x_Ev X (mX9_divisor (k + 1)) 0 [some (.long v), none, some (.long w), none] [] ((I, L, R), 233, 0, 0) _
      refine f_lload_n (M := mX9_divisor (k + 1)) 1 dX9_divisor_0 rfl rfl ?_
      refine f_lconst (M := mX9_divisor (k + 1)) 2 dX9_divisor_1 kl_0 rfl ?_
      refine f_lcmp (M := mX9_divisor (k + 1)) 3 dX9_divisor_2 rfl ?_
      refine e_if_neF (M := mX9_divisor (k + 1)) 10 dX9_divisor_3 rfl (fun z => z (lc_eq.mpr hw)) ?_
      refine f_lload_n (M := mX9_divisor (k + 1)) 7 dX9_divisor_6 rfl rfl ?_
      refine f_goto (M := mX9_divisor (k + 1)) 17 dX9_divisor_7 rfl ?_
      refine e_rl (M := mX9_divisor (k + 1)) dX9_divisor_17 rfl (x_kk rfl) (x_kk rfl) ?_
      exact r_l (if_pos hw).symm
    · show x_Ev X (mX9_divisor (k + 1)) 0 [some (.long v), none, some (.long w), none] [] ((I, L, R), 233, 0, 0) _
      have h2 : x_gst k w (v - v / w * w) := h.elim (fun z => absurd z hw) id
      refine f_lload_n (M := mX9_divisor (k + 1)) 1 dX9_divisor_0 rfl rfl ?_
      refine f_lconst (M := mX9_divisor (k + 1)) 2 dX9_divisor_1 kl_0 rfl ?_
      refine f_lcmp (M := mX9_divisor (k + 1)) 3 dX9_divisor_2 rfl ?_
      refine e_if_neT (M := mX9_divisor (k + 1)) 10 dX9_divisor_3 rfl (fun z => hw (lc_eq.mp z)) ?_
      refine f_lload_n (M := mX9_divisor (k + 1)) 11 dX9_divisor_10 rfl rfl ?_
      refine f_lload_n (M := mX9_divisor (k + 1)) 12 dX9_divisor_11 rfl rfl ?_
      refine f_lload_n (M := mX9_divisor (k + 1)) 13 dX9_divisor_12 rfl rfl ?_
      refine e_lrem (M := mX9_divisor (k + 1)) dX9_divisor_13 hw ?_
      refine e_cS (M := mX9_divisor (k + 1)) [_] 0 0 dX9_divisor_14 pa_div (cc_dv (by omega)) div_B rfl rfl rfl rfl (x_kk rfl) (x_kk rfl) rfl (ih _ _ (by omega) h2) rfl ?_
      refine e_rl (M := mX9_divisor (k + 1)) dX9_divisor_17 rfl (x_kk rfl) (x_kk rfl) ?_
      exact r_l (if_neg hw).symm
theorem c_X9_part {v w : Int64} (h : x_gst 100 v w) (hg : ¬ x_gcd 100 v w = 0) {d : Int32} : x_Cv X mX9_part [.long v, .long w, .int d] (I, L, R) 233 (.inl (some (.long ((if d = 0 then v else w) / x_gcd 100 v w))), (I, L, R), 233) := by
  show x_Ev X mX9_part 0 [some (.long v), none, some (.long w), none, some (.int d)] [] ((I, L, R), 233, 0, 0) _
  refine f_iload (M := mX9_part) 2 dX9_part_0 rfl rfl ?_
  refine e_if_eq (M := mX9_part) (t := 9) dX9_part_2 rfl (fun h1 => ?_) (fun h1 => ?_)
  · refine f_lload_n (M := mX9_part) 10 dX9_part_9 rfl rfl ?_
    refine f_lload_n (M := mX9_part) 11 dX9_part_10 rfl rfl ?_
    refine f_lload_n (M := mX9_part) 12 dX9_part_11 rfl rfl ?_
    refine e_cS (M := mX9_part) [_, _] 0 0 dX9_part_12 pa_9147 cc_part rfl rfl rfl rfl rfl (x_kk rfl) (x_kk rfl) rfl (c_X9_divisor 100 _ _ (by omega) h) rfl ?_
    refine e_ldiv (M := mX9_part) dX9_part_15 hg ?_
    refine e_rl (M := mX9_part) dX9_part_16 rfl (x_kk rfl) (x_kk rfl) ?_
    exact r_l (by rw [if_pos h1])
  · refine f_lload_n (M := mX9_part) 6 dX9_part_5 rfl rfl ?_
    refine f_goto (M := mX9_part) 10 dX9_part_6 rfl ?_
    refine f_lload_n (M := mX9_part) 11 dX9_part_10 rfl rfl ?_
    refine f_lload_n (M := mX9_part) 12 dX9_part_11 rfl rfl ?_
    refine e_cS (M := mX9_part) [_, _] 0 0 dX9_part_12 pa_9147 cc_part rfl rfl rfl rfl rfl (x_kk rfl) (x_kk rfl) rfl (c_X9_divisor 100 _ _ (by omega) h) rfl ?_
    refine e_ldiv (M := mX9_part) dX9_part_15 hg ?_
    refine e_rl (M := mX9_part) dX9_part_16 rfl (x_kk rfl) (x_kk rfl) ?_
    exact r_l (by rw [if_neg h1])
theorem l_X8_commonDivisor {a b : Int64} : ∀ d k, k + d = 100 → ∀ (v w : Int64) (s : Option Value), x_Ev X mX8_commonDivisor 9 [some (.long a), none, some (.long b), none, some (.long v), none, some (.long w), none, some (.int (Int32.ofNat k)), s, none] [] ((I, L, R), 233, 0, 0) (.inl (some (.long (x_gcd d v w))), (I, L, R), 233) := by
  intro d
  induction d with
  | zero =>
    intro k hd v w s
    obtain rfl : 100 = k := by omega
    refine f_iload (M := mX8_commonDivisor) 11 dX8_commonDivisor_9 rfl rfl ?_
    refine f_bipush (M := mX8_commonDivisor) 13 dX8_commonDivisor_11 kb_100 rfl ?_
    refine e_icmp_geT (M := mX8_commonDivisor) 44 dX8_commonDivisor_13 rfl (by decide) ?_
    refine f_lload (M := mX8_commonDivisor) 46 dX8_commonDivisor_44 rfl rfl ?_
    refine e_rl (M := mX8_commonDivisor) dX8_commonDivisor_46 rfl (x_kk rfl) (x_kk rfl) ?_
    rfl
  | succ d ih =>
    intro k hd v w s
    by_cases hw : w = 0
    · refine f_iload (M := mX8_commonDivisor) 11 dX8_commonDivisor_9 rfl rfl ?_
      refine f_bipush (M := mX8_commonDivisor) 13 dX8_commonDivisor_11 kb_100 rfl ?_
      refine e_icmp_geF (M := mX8_commonDivisor) 44 dX8_commonDivisor_13 rfl (by rw [kn_100, n_le (by omega) (by omega)]; omega) ?_
      refine f_lload (M := mX8_commonDivisor) 18 dX8_commonDivisor_16 rfl rfl ?_
      refine f_lconst (M := mX8_commonDivisor) 19 dX8_commonDivisor_18 kl_0 rfl ?_
      refine f_lcmp (M := mX8_commonDivisor) 20 dX8_commonDivisor_19 rfl ?_
      refine e_if_eqT (M := mX8_commonDivisor) 44 dX8_commonDivisor_20 rfl (lc_eq.mpr hw) ?_
      refine f_lload (M := mX8_commonDivisor) 46 dX8_commonDivisor_44 rfl rfl ?_
      refine e_rl (M := mX8_commonDivisor) dX8_commonDivisor_46 rfl (x_kk rfl) (x_kk rfl) ?_
      exact r_l (if_pos hw).symm
    · refine f_iload (M := mX8_commonDivisor) 11 dX8_commonDivisor_9 rfl rfl ?_
      refine f_bipush (M := mX8_commonDivisor) 13 dX8_commonDivisor_11 kb_100 rfl ?_
      refine e_icmp_geF (M := mX8_commonDivisor) 44 dX8_commonDivisor_13 rfl (by rw [kn_100, n_le (by omega) (by omega)]; omega) ?_
      refine f_lload (M := mX8_commonDivisor) 18 dX8_commonDivisor_16 rfl rfl ?_
      refine f_lconst (M := mX8_commonDivisor) 19 dX8_commonDivisor_18 kl_0 rfl ?_
      refine f_lcmp (M := mX8_commonDivisor) 20 dX8_commonDivisor_19 rfl ?_
      refine e_if_eqF (M := mX8_commonDivisor) 44 dX8_commonDivisor_20 rfl (fun z => hw (lc_eq.mp z)) ?_
      refine f_lload (M := mX8_commonDivisor) 25 dX8_commonDivisor_23 rfl rfl ?_
      refine f_lload (M := mX8_commonDivisor) 27 dX8_commonDivisor_25 rfl rfl ?_
      refine e_lrem (M := mX8_commonDivisor) dX8_commonDivisor_27 hw ?_
      refine f_lstore (M := mX8_commonDivisor) (ls' := [_, _, _, _, _, _, _, _, _, _, _]) 30 dX8_commonDivisor_28 rfl rfl rfl ?_
      refine f_lload (M := mX8_commonDivisor) 32 dX8_commonDivisor_30 rfl rfl ?_
      refine f_lstore (M := mX8_commonDivisor) (ls' := [_, _, _, _, _, _, _, _, _, _, _]) 34 dX8_commonDivisor_32 rfl rfl rfl ?_
      refine f_lload (M := mX8_commonDivisor) 36 dX8_commonDivisor_34 rfl rfl ?_
      refine f_lstore (M := mX8_commonDivisor) (ls' := [_, _, _, _, _, _, _, _, _, _, _]) 38 dX8_commonDivisor_36 rfl rfl rfl ?_
      refine f_iinc (M := mX8_commonDivisor) (ls' := [_, _, _, _, _, _, _, _, _, _, _]) 41 dX8_commonDivisor_38 ki_1 rfl rfl rfl rfl ?_
      refine f_goto (M := mX8_commonDivisor) 9 dX8_commonDivisor_41 rfl ?_
      rw [n_inc (s := k), show x_gcd (d + 1) v w = _ from if_neg hw]; exact ih (k + 1) (by omega) _ _ _
theorem c_X8_commonDivisor {a b : Int64} : x_Cv X mX8_commonDivisor [.long a, .long b] (I, L, R) 233 (.inl (some (.long (x_gcd 100 a b))), (I, L, R), 233) := by
  show x_Ev X mX8_commonDivisor 0 [some (.long a), none, some (.long b), none, none, none, none, none, none, none, none] [] ((I, L, R), 233, 0, 0) _
  refine f_lload_n (M := mX8_commonDivisor) 1 dX8_commonDivisor_0 rfl rfl ?_
  refine f_lstore (M := mX8_commonDivisor) (ls' := [_, _, _, _, _, _, _, _, _, _, _]) 3 dX8_commonDivisor_1 rfl rfl rfl ?_
  refine f_lload_n (M := mX8_commonDivisor) 4 dX8_commonDivisor_3 rfl rfl ?_
  refine f_lstore (M := mX8_commonDivisor) (ls' := [_, _, _, _, _, _, _, _, _, _, _]) 6 dX8_commonDivisor_4 rfl rfl rfl ?_
  refine f_iconst (M := mX8_commonDivisor) 7 dX8_commonDivisor_6 ki_0 rfl ?_
  refine f_istore (M := mX8_commonDivisor) (ls' := [_, _, _, _, _, _, _, _, _, _, _]) 9 dX8_commonDivisor_7 rfl rfl rfl ?_
  exact l_X8_commonDivisor 100 0 rfl _ _ _
theorem c_X8_lowestTerms {v w : Int64} (hg : ¬ x_gcd 100 v w = 0) {d : Int32} : x_Cv X mX8_lowestTerms [.long v, .long w, .int d] (I, L, R) 233 (.inl (some (.long ((if d = 0 then v else w) / x_gcd 100 v w))), (I, L, R), 233) := by
  show x_Ev X mX8_lowestTerms 0 [some (.long v), none, some (.long w), none, some (.int d), none, none] [] ((I, L, R), 233, 0, 0) _
  refine f_lload_n (M := mX8_lowestTerms) 1 dX8_lowestTerms_0 rfl rfl ?_
  refine f_lload_n (M := mX8_lowestTerms) 2 dX8_lowestTerms_1 rfl rfl ?_
  refine e_cS (M := mX8_lowestTerms) [_] 0 0 dX8_lowestTerms_2 pa_8357 cc_8357 rfl rfl rfl rfl rfl (x_kk rfl) (x_kk rfl) rfl (c_X8_commonDivisor) rfl ?_
  refine f_lstore (M := mX8_lowestTerms) (ls' := [_, _, _, _, _, _, _]) 7 dX8_lowestTerms_5 rfl rfl rfl ?_
  refine f_lload (M := mX8_lowestTerms) 9 dX8_lowestTerms_7 rfl rfl ?_
  refine f_lconst (M := mX8_lowestTerms) 10 dX8_lowestTerms_9 kl_0 rfl ?_
  refine f_lcmp (M := mX8_lowestTerms) 11 dX8_lowestTerms_10 rfl ?_
  refine e_if_neT (M := mX8_lowestTerms) 25 dX8_lowestTerms_11 rfl (fun z => hg (lc_eq.mp z)) ?_
  refine f_iload (M := mX8_lowestTerms) 27 dX8_lowestTerms_25 rfl rfl ?_
  refine e_if_eq (M := mX8_lowestTerms) (t := 34) dX8_lowestTerms_27 rfl (fun h1 => ?_) (fun h1 => ?_)
  · refine f_lload_n (M := mX8_lowestTerms) 35 dX8_lowestTerms_34 rfl rfl ?_
    refine f_lload (M := mX8_lowestTerms) 37 dX8_lowestTerms_35 rfl rfl ?_
    refine e_ldiv (M := mX8_lowestTerms) dX8_lowestTerms_37 hg ?_
    refine e_rl (M := mX8_lowestTerms) dX8_lowestTerms_38 rfl (x_kk rfl) (x_kk rfl) ?_
    exact r_l (by rw [if_pos h1])
  · refine f_lload_n (M := mX8_lowestTerms) 31 dX8_lowestTerms_30 rfl rfl ?_
    refine f_goto (M := mX8_lowestTerms) 35 dX8_lowestTerms_31 rfl ?_
    refine f_lload (M := mX8_lowestTerms) 37 dX8_lowestTerms_35 rfl rfl ?_
    refine e_ldiv (M := mX8_lowestTerms) dX8_lowestTerms_37 hg ?_
    refine e_rl (M := mX8_lowestTerms) dX8_lowestTerms_38 rfl (x_kk rfl) (x_kk rfl) ?_
    exact r_l (by rw [if_neg h1])
end

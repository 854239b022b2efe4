/-! ===== the model: problems, winners (laid by wip/whole/src/m3.py) ===== -/
section
variable {X : x_X} {I : Nat → Nat → Int32} {L : Nat → Nat → Int64} {R : Nat → Nat → Option Nat}
def x_any (f : Nat → Bool) : Nat → Bool
  | 0 => false
  | n + 1 => x_any f n || f n
theorem x_any_f {f : Nat → Bool} {k : Nat} (h : x_any f k = false) (g : f k = false) : x_any f (k + 1) = false := by
  show (x_any f k || f k) = false
  rw [h, g]; rfl
theorem x_any_t {f : Nat → Bool} {k : Nat} (g : f k = true) : ∀ {n : Nat}, k < n → x_any f n = true
  | 0, h => absurd h (Nat.not_lt_zero _)
  | n + 1, h => by
    show (x_any f n || f n) = true
    by_cases e : k = n
    · rw [← e, g, Bool.or_true]
    · rw [x_any_t g (by omega : k < n), Bool.true_or]
def sp_low (a : Nat → Int32) (q s : Nat) : Bool := decide (a (224 + 8 * q + s) < a (20 + s))
def sp_prob (a : Nat → Int32) (q n : Nat) : Int32 := if ¬ 0 < a (224 + 8 * q + 7) then 1 else if x_any (sp_low a q) n = true then 2 else if (a (224 + 8 * q + 6)).toInt64 * 100 < sp_val a q (-1) 100 n * (a 3).toInt64 then 3 else if 6 ≤ a 0 ∧ Int32.ofNat q = a 11 then 4 else 0
theorem k100 : (Int8.ofInt 100).toInt32 = 100 := by decide
theorem l_X9_problemOf (hR : x_wf R) {Ns : Nat} (hNs : Ns ≤ 6) (hn : I 226 8 = Int32.ofNat Ns) {q : Nat} (hq : q < 8) {r : x_O × x_Mem × Nat} (h2 : x_any (sp_low (I 226) q) Ns = true → (.inl (some (.int (2))), (I, L, R), 233) = r) (h3 : x_any (sp_low (I 226) q) Ns = false → x_Ev X mX9_problemOf 49 [some (.ref 225), some (.int (Int32.ofNat q)), some (.int (Int32.ofNat Ns))] [] ((I, L, R), 233, 0, 0) r) : ∀ d k, k + d = Ns → x_any (sp_low (I 226) q) k = false → x_Ev X mX9_problemOf 12 [some (.ref 225), some (.int (Int32.ofNat q)), some (.int (Int32.ofNat k))] [] ((I, L, R), 233, 0, 0) r := by
  intro d
  induction d with
  | zero =>
    intro k hd he
    obtain rfl : Ns = k := by omega
    refine f_iload_n (M := mX9_problemOf) 13 dX9_problemOf_12 rfl rfl ?_
    refine f_aload_n (M := mX9_problemOf) 14 dX9_problemOf_13 rfl rfl ?_
    refine e_getR (M := mX9_problemOf) dX9_problemOf_14 fl_9007 (x_kk rfl) (x_kk rfl) rfl (wf_9_0 hR) ?_
    refine f_bipush (M := mX9_problemOf) 19 dX9_problemOf_17 kb_8 rfl ?_
    refine e_ild (M := mX9_problemOf) (w := 606) (j := 8) dX9_problemOf_19 (x_kk rfl) rfl kn_8 (by omega) (by omega) ?_
    refine e_icmp_geT (M := mX9_problemOf) 49 dX9_problemOf_20 rfl (by rw [hn]; exact Int32.le_refl _) ?_
    exact h3 he
  | succ d ih =>
    intro k hd he
    refine f_iload_n (M := mX9_problemOf) 13 dX9_problemOf_12 rfl rfl ?_
    refine f_aload_n (M := mX9_problemOf) 14 dX9_problemOf_13 rfl rfl ?_
    refine e_getR (M := mX9_problemOf) dX9_problemOf_14 fl_9007 (x_kk rfl) (x_kk rfl) rfl (wf_9_0 hR) ?_
    refine f_bipush (M := mX9_problemOf) 19 dX9_problemOf_17 kb_8 rfl ?_
    refine e_ild (M := mX9_problemOf) (w := 606) (j := 8) dX9_problemOf_19 (x_kk rfl) rfl kn_8 (by omega) (by omega) ?_
    refine e_icmp_geF (M := mX9_problemOf) 49 dX9_problemOf_20 rfl (by rw [hn, n_le (by omega) (by omega)]; omega) ?_
    refine f_aload_n (M := mX9_problemOf) 24 dX9_problemOf_23 rfl rfl ?_
    refine f_iload_n (M := mX9_problemOf) 25 dX9_problemOf_24 rfl rfl ?_
    refine f_iload_n (M := mX9_problemOf) 26 dX9_problemOf_25 rfl rfl ?_
    refine e_cV (M := mX9_problemOf) [_] 0 0 dX9_problemOf_26 pa_9182 pb_9182 cc_9182 rfl rfl rfl rfl rfl (x_kk rfl) (x_kk rfl) rfl (c_X9_ofBid hR hq (by omega)) rfl ?_
    refine f_aload_n (M := mX9_problemOf) 30 dX9_problemOf_29 rfl rfl ?_
    refine e_getR (M := mX9_problemOf) dX9_problemOf_30 fl_9007 (x_kk rfl) (x_kk rfl) rfl (wf_9_0 hR) ?_
    refine f_bipush (M := mX9_problemOf) 35 dX9_problemOf_33 kb_20 rfl ?_
    refine f_iload_n (M := mX9_problemOf) 36 dX9_problemOf_35 rfl rfl ?_
    refine f_iadd (M := mX9_problemOf) 37 dX9_problemOf_36 rfl ?_
    refine e_ild (M := mX9_problemOf) (w := 606) (j := (20) + (k)) dX9_problemOf_37 (x_kk rfl) rfl (ix_add kn_20 rfl) (by omega) (by omega) ?_
    refine e_icmp_ge (M := mX9_problemOf) (t := 43) dX9_problemOf_38 rfl (fun h1 => ?_) (fun h1 => ?_)
    · refine f_iinc (M := mX9_problemOf) (ls' := [_, _, _]) 46 dX9_problemOf_43 ki_1 rfl rfl rfl rfl ?_
      refine f_goto (M := mX9_problemOf) 12 dX9_problemOf_46 rfl ?_
      rw [n_inc]; exact ih (k + 1) (by omega) (x_any_f he (decide_eq_false (i_nlt.mpr h1)))
    · refine f_iconst (M := mX9_problemOf) 42 dX9_problemOf_41 ki_2 rfl ?_
      refine e_ri (M := mX9_problemOf) dX9_problemOf_42 rfl (x_kk rfl) (x_kk rfl) ?_
      exact h2 (x_any_t (decide_eq_true (i_nle.mp h1)) (by omega))
theorem c_X9_problemOf (hR : x_wf R) {Ns : Nat} (hNs : Ns ≤ 6) (hn : I 226 8 = Int32.ofNat Ns) {q : Nat} (hq : q < 8) : x_Cv X mX9_problemOf [.ref 225, .int (Int32.ofNat q)] (I, L, R) 233 (.inl (some (.int (sp_prob (I 226) q Ns))), (I, L, R), 233) := by
  show x_Ev X mX9_problemOf 0 [some (.ref 225), some (.int (Int32.ofNat q)), none] [] ((I, L, R), 233, 0, 0) _
  refine f_aload_n (M := mX9_problemOf) 1 dX9_problemOf_0 rfl rfl ?_
  refine f_iload_n (M := mX9_problemOf) 2 dX9_problemOf_1 rfl rfl ?_
  refine e_cV (M := mX9_problemOf) [_] 0 0 dX9_problemOf_2 pa_9193 pb_9193 cc_9193 rfl rfl rfl rfl rfl (x_kk rfl) (x_kk rfl) rfl (c_X9_isSealed hR hq) rfl ?_
  refine e_if_ne (M := mX9_problemOf) (t := 10) dX9_problemOf_5 rfl (fun h1 => ?_) (fun h1 => ?_)
  · refine f_iconst (M := mX9_problemOf) 11 dX9_problemOf_10 ki_0 rfl ?_
    refine f_istore_n (M := mX9_problemOf) (ls' := [_, _, _]) 12 dX9_problemOf_11 rfl rfl rfl ?_
    refine l_X9_problemOf hR hNs hn hq (fun h2 => r_i (by unfold sp_prob; rw [if_neg (fun z => z (Decidable.not_not.mp (fun z2 => h1 (x_bE.mpr z2)))), if_pos h2])) (fun h2 => ?_) Ns 0 (by omega) rfl
    have hs : ¬ ¬ 0 < I 226 (224 + 8 * q + 7) := (fun z => z (Decidable.not_not.mp (fun z2 => h1 (x_bE.mpr z2))))
    have hl : ¬ x_any (sp_low (I 226) q) Ns = true := (fun z => by rw [h2] at z; cases z)
    refine f_aload_n (M := mX9_problemOf) 50 dX9_problemOf_49 rfl rfl ?_
    refine f_iload_n (M := mX9_problemOf) 51 dX9_problemOf_50 rfl rfl ?_
    refine f_bipush (M := mX9_problemOf) 53 dX9_problemOf_51 kb_6 rfl ?_
    refine e_cV (M := mX9_problemOf) [_] 0 0 dX9_problemOf_53 pa_9182 pb_9182 cc_9182 rfl rfl rfl rfl rfl (x_kk rfl) (x_kk rfl) rfl (c_X9_ofBid (j := 6) hR hq (by omega)) rfl ?_
    refine f_i2l (M := mX9_problemOf) 57 dX9_problemOf_56 rfl ?_
    refine f_ldc2 (M := mX9_problemOf) 60 dX9_problemOf_57 (x_kk rfl) csl_9205 rfl ?_
    refine f_lmul (M := mX9_problemOf) 61 dX9_problemOf_60 rfl ?_
    refine f_aload_n (M := mX9_problemOf) 62 dX9_problemOf_61 rfl rfl ?_
    refine f_iload_n (M := mX9_problemOf) 63 dX9_problemOf_62 rfl rfl ?_
    refine f_iconst (M := mX9_problemOf) 64 dX9_problemOf_63 ki_m1 rfl ?_
    refine f_bipush (M := mX9_problemOf) 66 dX9_problemOf_64 kb_100 rfl ?_
    refine e_cV (M := mX9_problemOf) [_, _] 0 0 dX9_problemOf_66 pa_9207 pb_9207 cc_9207 rfl rfl rfl rfl rfl (x_kk rfl) (x_kk rfl) rfl (c_X9_valueOf (σ := -1) (h := 100) hR hNs hn hq) rfl ?_
    refine f_aload_n (M := mX9_problemOf) 70 dX9_problemOf_69 rfl rfl ?_
    refine e_getR (M := mX9_problemOf) dX9_problemOf_70 fl_9007 (x_kk rfl) (x_kk rfl) rfl (wf_9_0 hR) ?_
    refine f_iconst (M := mX9_problemOf) 74 dX9_problemOf_73 ki_3 rfl ?_
    refine e_ild (M := mX9_problemOf) (w := 606) (j := 3) dX9_problemOf_74 (x_kk rfl) rfl kn_3 (by omega) (by omega) ?_
    refine f_i2l (M := mX9_problemOf) 76 dX9_problemOf_75 rfl ?_
    refine f_lmul (M := mX9_problemOf) 77 dX9_problemOf_76 rfl ?_
    refine f_lcmp (M := mX9_problemOf) 78 dX9_problemOf_77 rfl ?_
    refine e_if_ge (M := mX9_problemOf) (t := 83) dX9_problemOf_78 rfl (fun h3 => ?_) (fun h3 => ?_)
    · refine f_aload_n (M := mX9_problemOf) 84 dX9_problemOf_83 rfl rfl ?_
      refine e_cV (M := mX9_problemOf) [_] 0 0 dX9_problemOf_84 pa_9170 pb_9170 cc_9170 rfl rfl rfl rfl rfl (x_kk rfl) (x_kk rfl) rfl (c_X9_isSecond hR) rfl ?_
      refine e_if_eq (M := mX9_problemOf) (t := 105) dX9_problemOf_87 rfl (fun h4 => ?_) (fun h4 => ?_)
      · refine f_iconst (M := mX9_problemOf) 106 dX9_problemOf_105 ki_0 rfl ?_
        refine e_ri (M := mX9_problemOf) dX9_problemOf_106 rfl (x_kk rfl) (x_kk rfl) ?_
        exact r_i (by unfold sp_prob; rw [if_neg hs, if_neg hl, if_neg (l_nlt.mpr (lc_ge.mp h3)), if_neg (fun z => x_bE.mp h4 z.1)])
      · refine f_iload_n (M := mX9_problemOf) 91 dX9_problemOf_90 rfl rfl ?_
        refine f_aload_n (M := mX9_problemOf) 92 dX9_problemOf_91 rfl rfl ?_
        refine e_getR (M := mX9_problemOf) dX9_problemOf_92 fl_9007 (x_kk rfl) (x_kk rfl) rfl (wf_9_0 hR) ?_
        refine f_bipush (M := mX9_problemOf) 97 dX9_problemOf_95 kb_11 rfl ?_
        refine e_ild (M := mX9_problemOf) (w := 606) (j := 11) dX9_problemOf_97 (x_kk rfl) rfl kn_11 (by omega) (by omega) ?_
        refine e_icmp_ne (M := mX9_problemOf) (t := 105) dX9_problemOf_98 rfl (fun h5 => ?_) (fun h5 => ?_)
        · refine f_iconst (M := mX9_problemOf) 106 dX9_problemOf_105 ki_0 rfl ?_
          refine e_ri (M := mX9_problemOf) dX9_problemOf_106 rfl (x_kk rfl) (x_kk rfl) ?_
          exact r_i (by unfold sp_prob; rw [if_neg hs, if_neg hl, if_neg (l_nlt.mpr (lc_ge.mp h3)), if_neg (fun z => h5 z.2)])
        · refine f_iconst (M := mX9_problemOf) 102 dX9_problemOf_101 ki_4 rfl ?_
          refine f_goto (M := mX9_problemOf) 106 dX9_problemOf_102 rfl ?_
          refine e_ri (M := mX9_problemOf) dX9_problemOf_106 rfl (x_kk rfl) (x_kk rfl) ?_
          exact r_i (by unfold sp_prob; rw [if_neg hs, if_neg hl, if_neg (l_nlt.mpr (lc_ge.mp h3)), if_pos ⟨Decidable.not_not.mp (fun z => h4 (x_bE.mpr z)), Decidable.not_not.mp h5⟩])
    · refine f_iconst (M := mX9_problemOf) 82 dX9_problemOf_81 ki_3 rfl ?_
      refine e_ri (M := mX9_problemOf) dX9_problemOf_82 rfl (x_kk rfl) (x_kk rfl) ?_
      exact r_i (by unfold sp_prob; rw [if_neg hs, if_neg hl, if_pos (l_nle.mp (fun z => h3 (lc_ge.mpr z)))])
  · refine f_iconst (M := mX9_problemOf) 9 dX9_problemOf_8 ki_1 rfl ?_
    refine e_ri (M := mX9_problemOf) dX9_problemOf_9 rfl (x_kk rfl) (x_kk rfl) ?_
    exact r_i (by unfold sp_prob; rw [if_pos (x_bE.mp (Decidable.not_not.mp h1))])
abbrev sp_bef (a : Nat → Int32) (k j : Nat) (σ h : Int32) (n : Nat) : Prop := sp_val a j σ h n < sp_val a k σ h n ∨ (sp_val a k σ h n = sp_val a j σ h n ∧ a (224 + 8 * k + 7) < a (224 + 8 * j + 7))
theorem c_X9_isBefore (hR : x_wf R) {Ns : Nat} (hNs : Ns ≤ 6) (hn : I 226 8 = Int32.ofNat Ns) {q j : Nat} (hq : q < 8) (hj : j < 8) {σ h : Int32} : x_Cv X mX9_isBefore [.ref 225, .int (Int32.ofNat q), .int (Int32.ofNat j), .int σ, .int h] (I, L, R) 233 (.inl (some (.int (x_b (sp_bef (I 226) q j σ h Ns)))), (I, L, R), 233) := by
  show x_Ev X mX9_isBefore 0 [some (.ref 225), some (.int (Int32.ofNat q)), some (.int (Int32.ofNat j)), some (.int σ), some (.int h), none, none, none, none] [] ((I, L, R), 233, 0, 0) _
  refine f_aload_n (M := mX9_isBefore) 1 dX9_isBefore_0 rfl rfl ?_
  refine f_iload_n (M := mX9_isBefore) 2 dX9_isBefore_1 rfl rfl ?_
  refine f_iload_n (M := mX9_isBefore) 3 dX9_isBefore_2 rfl rfl ?_
  refine f_iload (M := mX9_isBefore) 5 dX9_isBefore_3 rfl rfl ?_
  refine e_cV (M := mX9_isBefore) [_] 0 0 dX9_isBefore_5 pa_9207 pb_9207 cc_9207 rfl rfl rfl rfl rfl (x_kk rfl) (x_kk rfl) rfl (c_X9_valueOf hR hNs hn hq) rfl ?_
  refine f_lstore (M := mX9_isBefore) (ls' := [_, _, _, _, _, _, _, _, _]) 10 dX9_isBefore_8 rfl rfl rfl ?_
  refine f_aload_n (M := mX9_isBefore) 11 dX9_isBefore_10 rfl rfl ?_
  refine f_iload_n (M := mX9_isBefore) 12 dX9_isBefore_11 rfl rfl ?_
  refine f_iload_n (M := mX9_isBefore) 13 dX9_isBefore_12 rfl rfl ?_
  refine f_iload (M := mX9_isBefore) 15 dX9_isBefore_13 rfl rfl ?_
  refine e_cV (M := mX9_isBefore) [_] 0 0 dX9_isBefore_15 pa_9207 pb_9207 cc_9207 rfl rfl rfl rfl rfl (x_kk rfl) (x_kk rfl) rfl (c_X9_valueOf hR hNs hn hj) rfl ?_
  refine f_lstore (M := mX9_isBefore) (ls' := [_, _, _, _, _, _, _, _, _]) 20 dX9_isBefore_18 rfl rfl rfl ?_
  refine f_lload (M := mX9_isBefore) 22 dX9_isBefore_20 rfl rfl ?_
  refine f_lload (M := mX9_isBefore) 24 dX9_isBefore_22 rfl rfl ?_
  refine f_lcmp (M := mX9_isBefore) 25 dX9_isBefore_24 rfl ?_
  refine e_if_gt (M := mX9_isBefore) (t := 53) dX9_isBefore_25 rfl (fun h1 => ?_) (fun h1 => ?_)
  · refine f_iconst (M := mX9_isBefore) 54 dX9_isBefore_53 ki_1 rfl ?_
    refine f_goto (M := mX9_isBefore) 58 dX9_isBefore_54 rfl ?_
    refine e_rb (M := mX9_isBefore) dX9_isBefore_58 rfl (x_kk rfl) (x_kk rfl) (by decide) ?_
    exact r_b1 (Or.inl (lc_gt.mp h1))
  · refine f_lload (M := mX9_isBefore) 30 dX9_isBefore_28 rfl rfl ?_
    refine f_lload (M := mX9_isBefore) 32 dX9_isBefore_30 rfl rfl ?_
    refine f_lcmp (M := mX9_isBefore) 33 dX9_isBefore_32 rfl ?_
    refine e_if_ne (M := mX9_isBefore) (t := 57) dX9_isBefore_33 rfl (fun h2 => ?_) (fun h2 => ?_)
    · refine f_iconst (M := mX9_isBefore) 58 dX9_isBefore_57 ki_0 rfl ?_
      refine e_rb (M := mX9_isBefore) dX9_isBefore_58 rfl (x_kk rfl) (x_kk rfl) (by decide) ?_
      exact r_b0 (fun z => z.elim (fun y => h1 (lc_gt.mpr y)) (fun y => h2 (lc_eq.mpr y.1)))
    · refine f_aload_n (M := mX9_isBefore) 37 dX9_isBefore_36 rfl rfl ?_
      refine f_iload_n (M := mX9_isBefore) 38 dX9_isBefore_37 rfl rfl ?_
      refine f_bipush (M := mX9_isBefore) 40 dX9_isBefore_38 kb_7 rfl ?_
      refine e_cV (M := mX9_isBefore) [_] 0 0 dX9_isBefore_40 pa_9182 pb_9182 cc_9182 rfl rfl rfl rfl rfl (x_kk rfl) (x_kk rfl) rfl (c_X9_ofBid (j := 7) hR hq (by omega)) rfl ?_
      refine f_aload_n (M := mX9_isBefore) 44 dX9_isBefore_43 rfl rfl ?_
      refine f_iload_n (M := mX9_isBefore) 45 dX9_isBefore_44 rfl rfl ?_
      refine f_bipush (M := mX9_isBefore) 47 dX9_isBefore_45 kb_7 rfl ?_
      refine e_cV (M := mX9_isBefore) [_, _] 0 0 dX9_isBefore_47 pa_9182 pb_9182 cc_9182 rfl rfl rfl rfl rfl (x_kk rfl) (x_kk rfl) rfl (c_X9_ofBid (j := 7) hR hj (by omega)) rfl ?_
      refine e_icmp_ge (M := mX9_isBefore) (t := 57) dX9_isBefore_50 rfl (fun h3 => ?_) (fun h3 => ?_)
      · refine f_iconst (M := mX9_isBefore) 58 dX9_isBefore_57 ki_0 rfl ?_
        refine e_rb (M := mX9_isBefore) dX9_isBefore_58 rfl (x_kk rfl) (x_kk rfl) (by decide) ?_
        exact r_b0 (fun z => z.elim (fun y => h1 (lc_gt.mpr y)) (fun y => absurd y.2 (i_nlt.mpr h3)))
      · refine f_iconst (M := mX9_isBefore) 54 dX9_isBefore_53 ki_1 rfl ?_
        refine f_goto (M := mX9_isBefore) 58 dX9_isBefore_54 rfl ?_
        refine e_rb (M := mX9_isBefore) dX9_isBefore_58 rfl (x_kk rfl) (x_kk rfl) (by decide) ?_
        exact r_b1 (Or.inr ⟨lc_eq.mp (Decidable.not_not.mp h2), i_nle.mp h3⟩)
def x_on : Option Nat → Int32
  | none => -1
  | some j => Int32.ofNat j
/-- the first of the bids under n that keep f -/
def sp_fst (f : Nat → Prop) [DecidablePred f] (g : Nat → Nat → Prop) [DecidableRel g] : Nat → Option Nat
  | 0 => none
  | n + 1 => match sp_fst f g n with
    | none => if f n then some n else none
    | some j => if f n ∧ g n j then some n else some j
theorem sp_fst_lt {f : Nat → Prop} [DecidablePred f] {g : Nat → Nat → Prop} [DecidableRel g] : ∀ {n j : Nat}, sp_fst f g n = some j → j < n
  | 0, j, h => by cases h
  | n + 1, j, h => by
    unfold sp_fst at h
    cases hw : sp_fst f g n with
    | none =>
      rw [hw] at h
      dsimp only at h
      by_cases hf : f n
      · rw [if_pos hf] at h; cases h; omega
      · rw [if_neg hf] at h; cases h
    | some i =>
      rw [hw] at h
      dsimp only at h
      have hi := sp_fst_lt hw
      by_cases hf : f n ∧ g n i
      · rw [if_pos hf] at h; cases h; omega
      · rw [if_neg hf] at h; cases h; omega
theorem sp_fst_n {f : Nat → Prop} [DecidablePred f] {g : Nat → Nat → Prop} [DecidableRel g] {n : Nat} (hf : ¬ f n) : sp_fst f g (n + 1) = sp_fst f g n := by
  rw [sp_fst]
  cases hw : sp_fst f g n with
  | none => dsimp only; rw [if_neg hf]
  | some i => dsimp only; rw [if_neg (fun z => hf z.1)]
theorem sp_fst_0 {f : Nat → Prop} [DecidablePred f] {g : Nat → Nat → Prop} [DecidableRel g] {n : Nat} (hf : f n) (hw : sp_fst f g n = none) : sp_fst f g (n + 1) = some n := by
  rw [sp_fst, hw]; dsimp only; rw [if_pos hf]
theorem sp_fst_1 {f : Nat → Prop} [DecidablePred f] {g : Nat → Nat → Prop} [DecidableRel g] {n i : Nat} (hf : f n) (hw : sp_fst f g n = some i) (hg : g n i) : sp_fst f g (n + 1) = some n := by
  rw [sp_fst, hw]; dsimp only; rw [if_pos ⟨hf, hg⟩]
theorem sp_fst_2 {f : Nat → Prop} [DecidablePred f] {g : Nat → Nat → Prop} [DecidableRel g] {n i : Nat} (hw : sp_fst f g n = some i) (hg : ¬ g n i) : sp_fst f g (n + 1) = sp_fst f g n := by
  rw [sp_fst, hw]; dsimp only; rw [if_neg (fun z => hg z.2)]
def sp_win (a : Nat → Int32) (σ h : Int32) (n : Nat) : Nat → Option Nat := sp_fst (fun k => sp_prob a k n = 0) (fun k j => sp_bef a k j σ h n)
theorem x_on1 {w : Option Nat} (h : ∀ j, w = some j → j < 1000000000) : x_on w = -1 ↔ w = none := by
  cases w with
  | none => exact ⟨fun _ => rfl, fun _ => rfl⟩
  | some j => exact ⟨fun z => absurd z (n_ne1 (h j rfl)), fun z => by cases z⟩
theorem l_X9_winnerBy (hR : x_wf R) {Ns : Nat} (hNs : Ns ≤ 6) (hn : I 226 8 = Int32.ofNat Ns) {σ h : Int32} : ∀ d k, k + d = 8 → x_Ev X mX9_winnerBy 5 [some (.ref 225), some (.int σ), some (.int h), some (.int (x_on (sp_win (I 226) σ h Ns k))), some (.int (Int32.ofNat k))] [] ((I, L, R), 233, 0, 0) (.inl (some (.int (x_on (sp_win (I 226) σ h Ns 8)))), (I, L, R), 233) := by
  intro d
  induction d with
  | zero =>
    intro k hd
    obtain rfl : 8 = k := by omega
    refine f_iload (M := mX9_winnerBy) 7 dX9_winnerBy_5 rfl rfl ?_
    refine f_bipush (M := mX9_winnerBy) 9 dX9_winnerBy_7 kb_8 rfl ?_
    refine e_icmp_geT (M := mX9_winnerBy) 47 dX9_winnerBy_9 rfl (by decide) ?_
    refine f_iload_n (M := mX9_winnerBy) 48 dX9_winnerBy_47 rfl rfl ?_
    refine e_ri (M := mX9_winnerBy) dX9_winnerBy_48 rfl (x_kk rfl) (x_kk rfl) ?_
    rfl
  | succ d ih =>
    intro k hd
    have hlt : ∀ j, sp_win (I 226) σ h Ns k = some j → j < 1000000000 := fun j z => Nat.lt_trans (sp_fst_lt z) (by omega)
    cases hw : sp_win (I 226) σ h Ns k with
    | none =>
      refine f_iload (M := mX9_winnerBy) 7 dX9_winnerBy_5 rfl rfl ?_
      refine f_bipush (M := mX9_winnerBy) 9 dX9_winnerBy_7 kb_8 rfl ?_
      refine e_icmp_geF (M := mX9_winnerBy) 47 dX9_winnerBy_9 rfl (by rw [kn_8, n_le (by omega) (by omega)]; omega) ?_
      refine f_aload_n (M := mX9_winnerBy) 13 dX9_winnerBy_12 rfl rfl ?_
      refine f_iload (M := mX9_winnerBy) 15 dX9_winnerBy_13 rfl rfl ?_
      refine e_cV (M := mX9_winnerBy) [_] 0 0 dX9_winnerBy_15 pa_9202 pb_9202 cc_9202 rfl rfl rfl rfl rfl (x_kk rfl) (x_kk rfl) rfl (c_X9_problemOf hR hNs hn (by omega)) rfl ?_
      refine e_if_ne (M := mX9_winnerBy) (t := 41) dX9_winnerBy_18 rfl (fun h1 => ?_) (fun h1 => ?_)
      · refine f_iinc (M := mX9_winnerBy) (ls' := [_, _, _, _, _]) 44 dX9_winnerBy_41 ki_1 rfl rfl rfl rfl ?_
        refine f_goto (M := mX9_winnerBy) 5 dX9_winnerBy_44 rfl ?_
        rw [n_inc]; have ih1 := ih (k + 1) (by omega); rw [show sp_win (I 226) σ h Ns (k + 1) = _ from (sp_fst_n h1).trans hw] at ih1; exact ih1
      · refine f_iload_n (M := mX9_winnerBy) 22 dX9_winnerBy_21 rfl rfl ?_
        refine f_iconst (M := mX9_winnerBy) 23 dX9_winnerBy_22 ki_m1 rfl ?_
        refine e_icmp_eqT (M := mX9_winnerBy) 38 dX9_winnerBy_23 rfl rfl ?_
        refine f_iload (M := mX9_winnerBy) 40 dX9_winnerBy_38 rfl rfl ?_
        refine f_istore_n (M := mX9_winnerBy) (ls' := [_, _, _, _, _]) 41 dX9_winnerBy_40 rfl rfl rfl ?_
        refine f_iinc (M := mX9_winnerBy) (ls' := [_, _, _, _, _]) 44 dX9_winnerBy_41 ki_1 rfl rfl rfl rfl ?_
        refine f_goto (M := mX9_winnerBy) 5 dX9_winnerBy_44 rfl ?_
        rw [n_inc]; have ih1 := ih (k + 1) (by omega); rw [show sp_win (I 226) σ h Ns (k + 1) = _ from sp_fst_0 (Decidable.not_not.mp h1) hw] at ih1; exact ih1
    | some i =>
      have hi : i < 8 := Nat.lt_trans (sp_fst_lt hw) (by omega)
      refine f_iload (M := mX9_winnerBy) 7 dX9_winnerBy_5 rfl rfl ?_
      refine f_bipush (M := mX9_winnerBy) 9 dX9_winnerBy_7 kb_8 rfl ?_
      refine e_icmp_geF (M := mX9_winnerBy) 47 dX9_winnerBy_9 rfl (by rw [kn_8, n_le (by omega) (by omega)]; omega) ?_
      refine f_aload_n (M := mX9_winnerBy) 13 dX9_winnerBy_12 rfl rfl ?_
      refine f_iload (M := mX9_winnerBy) 15 dX9_winnerBy_13 rfl rfl ?_
      refine e_cV (M := mX9_winnerBy) [_] 0 0 dX9_winnerBy_15 pa_9202 pb_9202 cc_9202 rfl rfl rfl rfl rfl (x_kk rfl) (x_kk rfl) rfl (c_X9_problemOf hR hNs hn (by omega)) rfl ?_
      refine e_if_ne (M := mX9_winnerBy) (t := 41) dX9_winnerBy_18 rfl (fun h1 => ?_) (fun h1 => ?_)
      · refine f_iinc (M := mX9_winnerBy) (ls' := [_, _, _, _, _]) 44 dX9_winnerBy_41 ki_1 rfl rfl rfl rfl ?_
        refine f_goto (M := mX9_winnerBy) 5 dX9_winnerBy_44 rfl ?_
        rw [n_inc]; have ih1 := ih (k + 1) (by omega); rw [show sp_win (I 226) σ h Ns (k + 1) = _ from (sp_fst_n h1).trans hw] at ih1; exact ih1
      · refine f_iload_n (M := mX9_winnerBy) 22 dX9_winnerBy_21 rfl rfl ?_
        refine f_iconst (M := mX9_winnerBy) 23 dX9_winnerBy_22 ki_m1 rfl ?_
        refine e_icmp_eqF (M := mX9_winnerBy) 38 dX9_winnerBy_23 rfl (n_ne1 (by omega)) ?_
        refine f_aload_n (M := mX9_winnerBy) 27 dX9_winnerBy_26 rfl rfl ?_
        refine f_iload (M := mX9_winnerBy) 29 dX9_winnerBy_27 rfl rfl ?_
        refine f_iload_n (M := mX9_winnerBy) 30 dX9_winnerBy_29 rfl rfl ?_
        refine f_iload_n (M := mX9_winnerBy) 31 dX9_winnerBy_30 rfl rfl ?_
        refine f_iload_n (M := mX9_winnerBy) 32 dX9_winnerBy_31 rfl rfl ?_
        refine e_cV (M := mX9_winnerBy) [_] 0 0 dX9_winnerBy_32 pa_9211 pb_9211 cc_9211 rfl rfl rfl rfl rfl (x_kk rfl) (x_kk rfl) rfl (c_X9_isBefore hR hNs hn (by omega) hi) rfl ?_
        refine e_if_eq (M := mX9_winnerBy) (t := 41) dX9_winnerBy_35 rfl (fun h2 => ?_) (fun h2 => ?_)
        · refine f_iinc (M := mX9_winnerBy) (ls' := [_, _, _, _, _]) 44 dX9_winnerBy_41 ki_1 rfl rfl rfl rfl ?_
          refine f_goto (M := mX9_winnerBy) 5 dX9_winnerBy_44 rfl ?_
          rw [n_inc]; have ih1 := ih (k + 1) (by omega); rw [show sp_win (I 226) σ h Ns (k + 1) = _ from (sp_fst_2 hw (x_bE.mp h2)).trans hw] at ih1; exact ih1
        · refine f_iload (M := mX9_winnerBy) 40 dX9_winnerBy_38 rfl rfl ?_
          refine f_istore_n (M := mX9_winnerBy) (ls' := [_, _, _, _, _]) 41 dX9_winnerBy_40 rfl rfl rfl ?_
          refine f_iinc (M := mX9_winnerBy) (ls' := [_, _, _, _, _]) 44 dX9_winnerBy_41 ki_1 rfl rfl rfl rfl ?_
          refine f_goto (M := mX9_winnerBy) 5 dX9_winnerBy_44 rfl ?_
          rw [n_inc]; have ih1 := ih (k + 1) (by omega); rw [show sp_win (I 226) σ h Ns (k + 1) = _ from sp_fst_1 (Decidable.not_not.mp h1) hw (Decidable.not_not.mp (fun z => h2 (x_bE.mpr z)))] at ih1; exact ih1
theorem c_X9_winnerBy (hR : x_wf R) {Ns : Nat} (hNs : Ns ≤ 6) (hn : I 226 8 = Int32.ofNat Ns) {σ h : Int32} : x_Cv X mX9_winnerBy [.ref 225, .int σ, .int h] (I, L, R) 233 (.inl (some (.int (x_on (sp_win (I 226) σ h Ns 8)))), (I, L, R), 233) := by
  show x_Ev X mX9_winnerBy 0 [some (.ref 225), some (.int σ), some (.int h), none, none] [] ((I, L, R), 233, 0, 0) _
  refine f_iconst (M := mX9_winnerBy) 1 dX9_winnerBy_0 ki_m1 rfl ?_
  refine f_istore_n (M := mX9_winnerBy) (ls' := [_, _, _, _, _]) 2 dX9_winnerBy_1 rfl rfl rfl ?_
  refine f_iconst (M := mX9_winnerBy) 3 dX9_winnerBy_2 ki_0 rfl ?_
  refine f_istore (M := mX9_winnerBy) (ls' := [_, _, _, _, _]) 5 dX9_winnerBy_3 rfl rfl rfl ?_
  exact l_X9_winnerBy hR hNs hn 8 0 rfl
end

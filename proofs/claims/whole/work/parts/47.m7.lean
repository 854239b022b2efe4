/-! ===== the model: its kept states (laid by wip/whole/src/m7.py) ===== -/
section
variable {X : x_X} {I : Nat → Nat → Int32} {L : Nat → Nat → Int64} {R : Nat → Nat → Option Nat}
/-- f under k, else g -/
def x_mix {α : Type} (f g : Nat → α) (k j : Nat) : α := if j < k then f j else g j
theorem mix_up {α : Type} {f g : Nat → α} {k : Nat} {v : α} (hv : v = f k) : va_up (x_mix f g k) k v = x_mix f g (k + 1) := by
  funext j
  unfold va_up x_mix
  by_cases h : j = k
  · rw [if_pos h, if_pos (by omega), hv, h]
  · rw [if_neg h]
    by_cases h2 : j < k
    · rw [if_pos h2, if_pos (by omega)]
    · rw [if_neg h2, if_neg (by omega)]
theorem mix_0 {α : Type} {f g : Nat → α} : x_mix f g 0 = g := by
  funext j
  unfold x_mix
  rw [if_neg (by omega)]
theorem up_up {α : Type} {f : Nat → Nat → α} {q : Nat} {a b : Nat → α} : va_up (va_up f q a) q b = va_up f q b := by
  funext i
  unfold va_up
  by_cases h : i = q
  · rw [if_pos h, if_pos h]
  · rw [if_neg h, if_neg h, if_neg h]
theorem up_s {α : Type} {f : Nat → Nat → α} {q : Nat} {a : Nat → α} : va_up f q a q = a := by
  unfold va_up
  rw [if_pos rfl]
theorem up_self {α : Type} {f : Nat → Nat → α} {q : Nat} : va_up f q (f q) = f := by
  funext i
  unfold va_up
  by_cases h : i = q
  · rw [if_pos h, h]
  · rw [if_neg h]
theorem mix_ge {α : Type} {f g : Nat → α} {k j : Nat} (h : k ≤ j) : x_mix f g k j = g j := by
  unfold x_mix
  rw [if_neg (by omega)]
/-- the rows of the kept states, moved by one -/
def x_sh (I : Nat → Nat → Int32) (k : Nat) : Nat → Nat → Int32 := va_up I 228 (x_mix (fun j => I 228 (j + 606)) (I 228) k)
def x_shl (L : Nat → Nat → Int64) (k : Nat) : Nat → Nat → Int64 := va_up L 230 (x_mix (fun j => L 230 (j + 37)) (L 230) k)
theorem x_sh_s {k : Nat} : va_up (x_sh I k) 228 (va_up ((x_sh I k) 228) k ((x_sh I k) 228 (k + 606))) = x_sh I (k + 1) := by
  unfold x_sh
  rw [up_s, up_up]
  exact congrArg (va_up I 228) (mix_up (mix_ge (Nat.le_add_right k 606)))
theorem x_shl_s {k : Nat} : va_up (x_shl L k) 230 (va_up ((x_shl L k) 230) k ((x_shl L k) 230 (k + 37))) = x_shl L (k + 1) := by
  unfold x_shl
  rw [up_s, up_up]
  exact congrArg (va_up L 230) (mix_up (mix_ge (Nat.le_add_right k 37)))
/-- the present state laid behind n kept ones -/
def x_kp (I : Nat → Nat → Int32) (n k : Nat) : Nat → Nat → Int32 := va_up I 228 (fun j => if 606 * n ≤ j ∧ j < 606 * n + k then I 226 (j - 606 * n) else I 228 j)
def x_kpl (L : Nat → Nat → Int64) (n k : Nat) : Nat → Nat → Int64 := va_up L 230 (fun j => if 37 * n ≤ j ∧ j < 37 * n + k then L 229 (j - 37 * n) else L 230 j)
theorem x_kp_s {n k : Nat} : va_up (x_kp I n k) 228 (va_up ((x_kp I n k) 228) (606 * n + k) (I 226 k)) = x_kp I n (k + 1) := by
  unfold x_kp
  rw [up_s, up_up]
  congr 1
  funext j
  unfold va_up
  by_cases h : j = 606 * n + k
  · rw [if_pos h, if_pos (by omega)]
    congr 1
    omega
  · rw [if_neg h]
    dsimp only
    by_cases h2 : 606 * n ≤ j ∧ j < 606 * n + k
    · rw [if_pos h2, if_pos (by omega)]
    · rw [if_neg h2, if_neg (by omega)]
theorem x_kpl_s {n k : Nat} : va_up (x_kpl L n k) 230 (va_up ((x_kpl L n k) 230) (37 * n + k) (L 229 k)) = x_kpl L n (k + 1) := by
  unfold x_kpl
  rw [up_s, up_up]
  congr 1
  funext j
  unfold va_up
  by_cases h : j = 37 * n + k
  · rw [if_pos h, if_pos (by omega)]
    congr 1
    omega
  · rw [if_neg h]
    dsimp only
    by_cases h2 : 37 * n ≤ j ∧ j < 37 * n + k
    · rw [if_pos h2, if_pos (by omega)]
    · rw [if_neg h2, if_neg (by omega)]
theorem x_kp_0 {n : Nat} : x_kp I n 0 = I := by
  unfold x_kp
  rw [show (fun j => if 606 * n ≤ j ∧ j < 606 * n + 0 then I 226 (j - 606 * n) else I 228 j) = I 228 from funext fun j => if_neg (by omega)]
  exact up_self
theorem x_kpl_0 {n : Nat} : x_kpl L n 0 = L := by
  unfold x_kpl
  rw [show (fun j => if 37 * n ≤ j ∧ j < 37 * n + 0 then L 229 (j - 37 * n) else L 230 j) = L 230 from funext fun j => if_neg (by omega)]
  exact up_self
theorem l_keeps1 (hR : x_wf R) {r : x_O × x_Mem × Nat} (kk : x_Ev X mX9_keeps 40 [some (.ref 225), some (.int (Int32.ofNat 4242))] [] ((x_sh I 4242, L, R), 233, 0, 0) r) : ∀ d k, k + d = 4242 → x_Ev X mX9_keeps 11 [some (.ref 225), some (.int (Int32.ofNat k))] [] ((x_sh I k, L, R), 233, 0, 0) r := by
  intro d
  induction d with
  | zero =>
    intro k hd
    obtain rfl : 4242 = k := hd.symm
    refine f_iload_n (M := mX9_keeps) 12 dX9_keeps_11 rfl rfl ?_
    refine f_sipush (M := mX9_keeps) 15 dX9_keeps_12 ks_4242 rfl ?_
    refine e_icmp_geT (M := mX9_keeps) 40 dX9_keeps_15 rfl (by decide) ?_
    exact kk
  | succ d ih =>
    intro k hd
    refine f_iload_n (M := mX9_keeps) 12 dX9_keeps_11 rfl rfl ?_
    refine f_sipush (M := mX9_keeps) 15 dX9_keeps_12 ks_4242 rfl ?_
    refine e_icmp_geF (M := mX9_keeps) 40 dX9_keeps_15 rfl (by rw [kn_4242, n_le (by omega) (by omega)]; omega) ?_
    refine f_aload_n (M := mX9_keeps) 19 dX9_keeps_18 rfl rfl ?_
    refine e_getR (M := mX9_keeps) dX9_keeps_19 fl_9016 (x_kk rfl) (x_kk rfl) rfl (wf_9_2 hR) ?_
    refine f_iload_n (M := mX9_keeps) 23 dX9_keeps_22 rfl rfl ?_
    refine f_aload_n (M := mX9_keeps) 24 dX9_keeps_23 rfl rfl ?_
    refine e_getR (M := mX9_keeps) dX9_keeps_24 fl_9016 (x_kk rfl) (x_kk rfl) rfl (wf_9_2 hR) ?_
    refine f_iload_n (M := mX9_keeps) 28 dX9_keeps_27 rfl rfl ?_
    refine f_sipush (M := mX9_keeps) 31 dX9_keeps_28 ks_606 rfl ?_
    refine f_iadd (M := mX9_keeps) 32 dX9_keeps_31 rfl ?_
    refine e_ild (M := mX9_keeps) (w := 4848) (j := (k) + (606)) dX9_keeps_32 (x_kk rfl) rfl (ix_add rfl kn_606) (by omega) (by omega) ?_
    refine e_ist (M := mX9_keeps) (w := 4848) (j := k) dX9_keeps_33 (x_kk rfl) rfl rfl (by omega) (by omega) ?_
    refine f_iinc (M := mX9_keeps) (ls' := [_, _]) 37 dX9_keeps_34 ki_1 rfl rfl rfl rfl ?_
    refine f_goto (M := mX9_keeps) 11 dX9_keeps_37 rfl ?_
    rw [n_inc (s := k), x_sh_s]; exact ih (k + 1) (by omega)
theorem l_keeps2 (hR : x_wf R) {r : x_O × x_Mem × Nat} (kk : x_Ev X mX9_keeps 70 [some (.ref 225), some (.int (Int32.ofNat 259))] [] ((I, x_shl L 259, R), 233, 0, 0) r) : ∀ d k, k + d = 259 → x_Ev X mX9_keeps 42 [some (.ref 225), some (.int (Int32.ofNat k))] [] ((I, x_shl L k, R), 233, 0, 0) r := by
  intro d
  induction d with
  | zero =>
    intro k hd
    obtain rfl : 259 = k := hd.symm
    refine f_iload_n (M := mX9_keeps) 43 dX9_keeps_42 rfl rfl ?_
    refine f_sipush (M := mX9_keeps) 46 dX9_keeps_43 ks_259 rfl ?_
    refine e_icmp_geT (M := mX9_keeps) 70 dX9_keeps_46 rfl (by decide) ?_
    exact kk
  | succ d ih =>
    intro k hd
    refine f_iload_n (M := mX9_keeps) 43 dX9_keeps_42 rfl rfl ?_
    refine f_sipush (M := mX9_keeps) 46 dX9_keeps_43 ks_259 rfl ?_
    refine e_icmp_geF (M := mX9_keeps) 70 dX9_keeps_46 rfl (by rw [kn_259, n_le (by omega) (by omega)]; omega) ?_
    refine f_aload_n (M := mX9_keeps) 50 dX9_keeps_49 rfl rfl ?_
    refine e_getR (M := mX9_keeps) dX9_keeps_50 fl_9023 (x_kk rfl) (x_kk rfl) rfl (wf_9_4 hR) ?_
    refine f_iload_n (M := mX9_keeps) 54 dX9_keeps_53 rfl rfl ?_
    refine f_aload_n (M := mX9_keeps) 55 dX9_keeps_54 rfl rfl ?_
    refine e_getR (M := mX9_keeps) dX9_keeps_55 fl_9023 (x_kk rfl) (x_kk rfl) rfl (wf_9_4 hR) ?_
    refine f_iload_n (M := mX9_keeps) 59 dX9_keeps_58 rfl rfl ?_
    refine f_bipush (M := mX9_keeps) 61 dX9_keeps_59 kb_37 rfl ?_
    refine f_iadd (M := mX9_keeps) 62 dX9_keeps_61 rfl ?_
    refine e_lld (M := mX9_keeps) (w := 296) (j := (k) + (37)) dX9_keeps_62 (x_kk rfl) rfl (ix_add rfl kn_37) (by omega) (by omega) ?_
    refine e_lst (M := mX9_keeps) (w := 296) (j := k) dX9_keeps_63 (x_kk rfl) rfl rfl (by omega) (by omega) ?_
    refine f_iinc (M := mX9_keeps) (ls' := [_, _]) 67 dX9_keeps_64 ki_1 rfl rfl rfl rfl ?_
    refine f_goto (M := mX9_keeps) 42 dX9_keeps_67 rfl ?_
    rw [n_inc (s := k), x_shl_s]; exact ih (k + 1) (by omega)
theorem l_keeps3 (hR : x_wf R) {n : Nat} (hn8 : n < 8) (hn : I 225 5 = Int32.ofNat n) {r : x_O × x_Mem × Nat} (kk : x_Ev X mX9_keeps 116 [some (.ref 225), some (.int (Int32.ofNat 606))] [] ((x_kp I n 606, L, R), 233, 0, 0) r) : ∀ d k, k + d = 606 → x_Ev X mX9_keeps 82 [some (.ref 225), some (.int (Int32.ofNat k))] [] ((x_kp I n k, L, R), 233, 0, 0) r := by
  intro d
  induction d with
  | zero =>
    intro k hd
    obtain rfl : 606 = k := hd.symm
    refine f_iload_n (M := mX9_keeps) 83 dX9_keeps_82 rfl rfl ?_
    refine f_sipush (M := mX9_keeps) 86 dX9_keeps_83 ks_606 rfl ?_
    refine e_icmp_geT (M := mX9_keeps) 116 dX9_keeps_86 rfl (by decide) ?_
    exact kk
  | succ d ih =>
    intro k hd
    refine f_iload_n (M := mX9_keeps) 83 dX9_keeps_82 rfl rfl ?_
    refine f_sipush (M := mX9_keeps) 86 dX9_keeps_83 ks_606 rfl ?_
    refine e_icmp_geF (M := mX9_keeps) 116 dX9_keeps_86 rfl (by rw [kn_606, n_le (by omega) (by omega)]; omega) ?_
    refine f_aload_n (M := mX9_keeps) 90 dX9_keeps_89 rfl rfl ?_
    refine e_getR (M := mX9_keeps) dX9_keeps_90 fl_9016 (x_kk rfl) (x_kk rfl) rfl (wf_9_2 hR) ?_
    refine f_sipush (M := mX9_keeps) 96 dX9_keeps_93 ks_606 rfl ?_
    refine f_aload_n (M := mX9_keeps) 97 dX9_keeps_96 rfl rfl ?_
    refine e_getI (M := mX9_keeps) dX9_keeps_97 fl_9036 (x_kk rfl) (x_kk rfl) rfl ?_
    refine f_imul (M := mX9_keeps) 101 dX9_keeps_100 rfl ?_
    refine f_iload_n (M := mX9_keeps) 102 dX9_keeps_101 rfl rfl ?_
    refine f_iadd (M := mX9_keeps) 103 dX9_keeps_102 rfl ?_
    refine f_aload_n (M := mX9_keeps) 104 dX9_keeps_103 rfl rfl ?_
    refine e_getR (M := mX9_keeps) dX9_keeps_104 fl_9007 (x_kk rfl) (x_kk rfl) rfl (wf_9_0 hR) ?_
    refine f_iload_n (M := mX9_keeps) 108 dX9_keeps_107 rfl rfl ?_
    refine e_ild (M := mX9_keeps) (w := 606) (j := k) dX9_keeps_108 (x_kk rfl) rfl rfl (by omega) (by omega) ?_
    refine e_ist (M := mX9_keeps) (w := 4848) (j := ((606) * (n)) + (k)) dX9_keeps_109 (x_kk rfl) rfl (ix_add (ix_mul kn_606 hn) rfl) (by omega) (by omega) ?_
    refine f_iinc (M := mX9_keeps) (ls' := [_, _]) 113 dX9_keeps_110 ki_1 rfl rfl rfl rfl ?_
    refine f_goto (M := mX9_keeps) 82 dX9_keeps_113 rfl ?_
    rw [n_inc (s := k)]; rw [show x_kp I n k 226 k = I 226 k from rfl, x_kp_s]; exact ih (k + 1) (by omega)
theorem l_keeps4 (hR : x_wf R) {n : Nat} (hn8 : n < 8) (hn : I 225 5 = Int32.ofNat n) {r : x_O × x_Mem × Nat} (kk : x_Ev X mX9_keeps 150 [some (.ref 225), some (.int (Int32.ofNat 37))] [] ((I, x_kpl L n 37, R), 233, 0, 0) r) : ∀ d k, k + d = 37 → x_Ev X mX9_keeps 118 [some (.ref 225), some (.int (Int32.ofNat k))] [] ((I, x_kpl L n k, R), 233, 0, 0) r := by
  intro d
  induction d with
  | zero =>
    intro k hd
    obtain rfl : 37 = k := hd.symm
    refine f_iload_n (M := mX9_keeps) 119 dX9_keeps_118 rfl rfl ?_
    refine f_bipush (M := mX9_keeps) 121 dX9_keeps_119 kb_37 rfl ?_
    refine e_icmp_geT (M := mX9_keeps) 150 dX9_keeps_121 rfl (by decide) ?_
    exact kk
  | succ d ih =>
    intro k hd
    refine f_iload_n (M := mX9_keeps) 119 dX9_keeps_118 rfl rfl ?_
    refine f_bipush (M := mX9_keeps) 121 dX9_keeps_119 kb_37 rfl ?_
    refine e_icmp_geF (M := mX9_keeps) 150 dX9_keeps_121 rfl (by rw [kn_37, n_le (by omega) (by omega)]; omega) ?_
    refine f_aload_n (M := mX9_keeps) 125 dX9_keeps_124 rfl rfl ?_
    refine e_getR (M := mX9_keeps) dX9_keeps_125 fl_9023 (x_kk rfl) (x_kk rfl) rfl (wf_9_4 hR) ?_
    refine f_bipush (M := mX9_keeps) 130 dX9_keeps_128 kb_37 rfl ?_
    refine f_aload_n (M := mX9_keeps) 131 dX9_keeps_130 rfl rfl ?_
    refine e_getI (M := mX9_keeps) dX9_keeps_131 fl_9036 (x_kk rfl) (x_kk rfl) rfl ?_
    refine f_imul (M := mX9_keeps) 135 dX9_keeps_134 rfl ?_
    refine f_iload_n (M := mX9_keeps) 136 dX9_keeps_135 rfl rfl ?_
    refine f_iadd (M := mX9_keeps) 137 dX9_keeps_136 rfl ?_
    refine f_aload_n (M := mX9_keeps) 138 dX9_keeps_137 rfl rfl ?_
    refine e_getR (M := mX9_keeps) dX9_keeps_138 fl_9019 (x_kk rfl) (x_kk rfl) rfl (wf_9_3 hR) ?_
    refine f_iload_n (M := mX9_keeps) 142 dX9_keeps_141 rfl rfl ?_
    refine e_lld (M := mX9_keeps) (w := 37) (j := k) dX9_keeps_142 (x_kk rfl) rfl rfl (by omega) (by omega) ?_
    refine e_lst (M := mX9_keeps) (w := 296) (j := ((37) * (n)) + (k)) dX9_keeps_143 (x_kk rfl) rfl (ix_add (ix_mul kn_37 hn) rfl) (by omega) (by omega) ?_
    refine f_iinc (M := mX9_keeps) (ls' := [_, _]) 147 dX9_keeps_144 ki_1 rfl rfl rfl rfl ?_
    refine f_goto (M := mX9_keeps) 118 dX9_keeps_147 rfl ?_
    rw [n_inc (s := k)]; rw [show x_kpl L n k 229 k = L 229 k from rfl, x_kpl_s]; exact ih (k + 1) (by omega)
def x_km (I : Nat → Nat → Int32) (x : Int32) : Nat → Nat → Int32 := va_up I 225 (va_up (I 225) 5 x)
theorem c_X9_keeps (hR : x_wf R) {n : Nat} (hn8 : n < 8) (hn : I 225 5 = Int32.ofNat n) : x_Cv X mX9_keeps [.ref 225] (I, L, R) 233 (.inl none, (x_km (x_kp I n 606) (Int32.ofNat n + 1), x_kpl L n 37, R), 233) := by
  show x_Ev X mX9_keeps 0 [some (.ref 225), none] [] ((I, L, R), 233, 0, 0) _
  refine f_aload_n (M := mX9_keeps) 1 dX9_keeps_0 rfl rfl ?_
  refine e_getI (M := mX9_keeps) dX9_keeps_1 fl_9036 (x_kk rfl) (x_kk rfl) rfl ?_
  refine f_bipush (M := mX9_keeps) 6 dX9_keeps_4 kb_8 rfl ?_
  refine e_icmp_neT (M := mX9_keeps) 80 dX9_keeps_6 rfl (by rw [hn, kn_8, n_eq (by omega) (by omega)]; omega) ?_
  refine f_iconst (M := mX9_keeps) 81 dX9_keeps_80 ki_0 rfl ?_
  refine f_istore_n (M := mX9_keeps) (ls' := [_, _]) 82 dX9_keeps_81 rfl rfl rfl ?_
  show x_Ev X mX9_keeps 82 [some (.ref 225), some (.int (Int32.ofNat 0))] [] ((I, L, R), 233, 0, 0) _; rw [show ((I, L, R) : x_Mem) = (x_kp I n 0, L, R) from by rw [x_kp_0]]; refine l_keeps3 hR hn8 hn ?_ 606 0 rfl
  refine f_iconst (M := mX9_keeps) 117 dX9_keeps_116 ki_0 rfl ?_
  refine f_istore_n (M := mX9_keeps) (ls' := [_, _]) 118 dX9_keeps_117 rfl rfl rfl ?_
  show x_Ev X mX9_keeps 118 [some (.ref 225), some (.int (Int32.ofNat 0))] [] ((x_kp I n 606, L, R), 233, 0, 0) _; rw [show ((x_kp I n 606, L, R) : x_Mem) = (x_kp I n 606, x_kpl L n 0, R) from by rw [x_kpl_0]]; refine l_keeps4 (I := x_kp I n 606) hR hn8 hn ?_ 37 0 rfl
  refine f_aload_n (M := mX9_keeps) 151 dX9_keeps_150 rfl rfl ?_
  refine f_dup (M := mX9_keeps) 152 dX9_keeps_151 rfl rfl ?_
  refine e_getI (M := mX9_keeps) dX9_keeps_152 fl_9036 (x_kk rfl) (x_kk rfl) rfl ?_
  refine f_iconst (M := mX9_keeps) 156 dX9_keeps_155 ki_1 rfl ?_
  refine f_iadd (M := mX9_keeps) 157 dX9_keeps_156 rfl ?_
  refine e_putI (M := mX9_keeps) dX9_keeps_157 fl_9036 (x_kk rfl) (x_kk rfl) rfl (fun q9 => Bool.noConfusion q9) ?_
  refine e_rv (M := mX9_keeps) dX9_keeps_160 rfl (x_kk rfl) (x_kk rfl) ?_
  rw [← hn]; rfl
theorem x_sh_0 : x_sh I 0 = I := by
  unfold x_sh
  rw [mix_0]
  exact up_self
theorem x_shl_0 : x_shl L 0 = L := by
  unfold x_shl
  rw [mix_0]
  exact up_self
theorem c_X9_keeps_8 (hR : x_wf R) (hn : I 225 5 = 8) : x_Cv X mX9_keeps [.ref 225] (I, L, R) 233 (.inl none, (x_km (x_kp (x_km (x_sh I 4242) 7) 7 606) 8, x_kpl (x_shl L 259) 7 37, R), 233) := by
  show x_Ev X mX9_keeps 0 [some (.ref 225), none] [] ((I, L, R), 233, 0, 0) _
  refine f_aload_n (M := mX9_keeps) 1 dX9_keeps_0 rfl rfl ?_
  refine e_getI (M := mX9_keeps) dX9_keeps_1 fl_9036 (x_kk rfl) (x_kk rfl) rfl ?_
  refine f_bipush (M := mX9_keeps) 6 dX9_keeps_4 kb_8 rfl ?_
  refine e_icmp_neF (M := mX9_keeps) 80 dX9_keeps_6 rfl (fun z => z hn) ?_
  refine f_iconst (M := mX9_keeps) 10 dX9_keeps_9 ki_0 rfl ?_
  refine f_istore_n (M := mX9_keeps) (ls' := [_, _]) 11 dX9_keeps_10 rfl rfl rfl ?_
  show x_Ev X mX9_keeps 11 [some (.ref 225), some (.int (Int32.ofNat 0))] [] ((I, L, R), 233, 0, 0) _; rw [show ((I, L, R) : x_Mem) = (x_sh I 0, L, R) from by rw [x_sh_0]]; refine l_keeps1 hR ?_ 4242 0 rfl
  refine f_iconst (M := mX9_keeps) 41 dX9_keeps_40 ki_0 rfl ?_
  refine f_istore_n (M := mX9_keeps) (ls' := [_, _]) 42 dX9_keeps_41 rfl rfl rfl ?_
  show x_Ev X mX9_keeps 42 [some (.ref 225), some (.int (Int32.ofNat 0))] [] ((x_sh I 4242, L, R), 233, 0, 0) _; rw [show ((x_sh I 4242, L, R) : x_Mem) = (x_sh I 4242, x_shl L 0, R) from by rw [x_shl_0]]; refine l_keeps2 (I := x_sh I 4242) hR ?_ 259 0 rfl
  refine f_aload_n (M := mX9_keeps) 71 dX9_keeps_70 rfl rfl ?_
  refine f_dup (M := mX9_keeps) 72 dX9_keeps_71 rfl rfl ?_
  refine e_getI (M := mX9_keeps) dX9_keeps_72 fl_9036 (x_kk rfl) (x_kk rfl) rfl ?_
  refine f_iconst (M := mX9_keeps) 76 dX9_keeps_75 ki_1 rfl ?_
  refine f_isub (M := mX9_keeps) 77 dX9_keeps_76 rfl ?_
  refine e_putI (M := mX9_keeps) dX9_keeps_77 fl_9036 (x_kk rfl) (x_kk rfl) rfl (fun q9 => Bool.noConfusion q9) ?_
  rw [show va_up (x_sh I 4242) 225 (va_up (x_sh I 4242 225) 5 (x_sh I 4242 225 5 - 1)) = x_km (x_sh I 4242) 7 from by rw [show x_sh I 4242 225 5 - 1 = (7 : Int32) from by rw [show x_sh I 4242 225 5 = I 225 5 from rfl, hn]; decide]; rfl]
  refine f_iconst (M := mX9_keeps) 81 dX9_keeps_80 ki_0 rfl ?_
  refine f_istore_n (M := mX9_keeps) (ls' := [_, _]) 82 dX9_keeps_81 rfl rfl rfl ?_
  show x_Ev X mX9_keeps 82 [some (.ref 225), some (.int (Int32.ofNat 0))] [] ((x_km (x_sh I 4242) 7, x_shl L 259, R), 233, 0, 0) _; rw [show ((x_km (x_sh I 4242) 7, x_shl L 259, R) : x_Mem) = (x_kp (x_km (x_sh I 4242) 7) 7 0, x_shl L 259, R) from by rw [x_kp_0]]; refine l_keeps3 (I := x_km (x_sh I 4242) 7) (L := x_shl L 259) (n := 7) hR (by omega) kn_7 ?_ 606 0 rfl
  refine f_iconst (M := mX9_keeps) 117 dX9_keeps_116 ki_0 rfl ?_
  refine f_istore_n (M := mX9_keeps) (ls' := [_, _]) 118 dX9_keeps_117 rfl rfl rfl ?_
  show x_Ev X mX9_keeps 118 [some (.ref 225), some (.int (Int32.ofNat 0))] [] ((x_kp (x_km (x_sh I 4242) 7) 7 606, x_shl L 259, R), 233, 0, 0) _; rw [show ((x_kp (x_km (x_sh I 4242) 7) 7 606, x_shl L 259, R) : x_Mem) = (x_kp (x_km (x_sh I 4242) 7) 7 606, x_kpl (x_shl L 259) 7 0, R) from by rw [x_kpl_0]]; refine l_keeps4 (I := x_kp (x_km (x_sh I 4242) 7) 7 606) (L := x_shl L 259) (n := 7) hR (by omega) kn_7 ?_ 37 0 rfl
  refine f_aload_n (M := mX9_keeps) 151 dX9_keeps_150 rfl rfl ?_
  refine f_dup (M := mX9_keeps) 152 dX9_keeps_151 rfl rfl ?_
  refine e_getI (M := mX9_keeps) dX9_keeps_152 fl_9036 (x_kk rfl) (x_kk rfl) rfl ?_
  refine f_iconst (M := mX9_keeps) 156 dX9_keeps_155 ki_1 rfl ?_
  refine f_iadd (M := mX9_keeps) 157 dX9_keeps_156 rfl ?_
  refine e_putI (M := mX9_keeps) dX9_keeps_157 fl_9036 (x_kk rfl) (x_kk rfl) rfl (fun q9 => Bool.noConfusion q9) ?_
  refine e_rv (M := mX9_keeps) dX9_keeps_160 rfl (x_kk rfl) (x_kk rfl) ?_
  rfl
end

/-! ===== the model: undo (laid by wip/whole/src/m8.py) ===== -/
section
variable {X : x_X} {I : Nat → Nat → Int32} {L : Nat → Nat → Int64} {R : Nat → Nat → Option Nat}
def x_ud (I : Nat → Nat → Int32) (n k : Nat) : Nat → Nat → Int32 := va_up I 226 (x_mix (fun j => I 228 (606 * n + j)) (I 226) k)
def x_udl (L : Nat → Nat → Int64) (n k : Nat) : Nat → Nat → Int64 := va_up L 229 (x_mix (fun j => L 230 (37 * n + j)) (L 229) k)
theorem x_ud_s {n k : Nat} : va_up (x_ud I n k) 226 (va_up ((x_ud I n k) 226) k (I 228 (606 * n + k))) = x_ud I n (k + 1) := by
  unfold x_ud
  rw [up_s, up_up]
  exact congrArg (va_up I 226) (mix_up rfl)
theorem x_udl_s {n k : Nat} : va_up (x_udl L n k) 229 (va_up ((x_udl L n k) 229) k (L 230 (37 * n + k))) = x_udl L n (k + 1) := by
  unfold x_udl
  rw [up_s, up_up]
  exact congrArg (va_up L 229) (mix_up rfl)
theorem x_ud_0 {n : Nat} : x_ud I n 0 = I := by
  unfold x_ud
  rw [mix_0]
  exact up_self
theorem x_udl_0 {n : Nat} : x_udl L n 0 = L := by
  unfold x_udl
  rw [mix_0]
  exact up_self
theorem l_undo1 (hR : x_wf R) {n : Nat} (hn8 : n < 8) (hn : I 225 5 = Int32.ofNat n) {r : x_O × x_Mem × Nat} (kk : x_Ev X mX9_undo 71 [some (.ref 225), some (.int (Int32.ofNat 606))] [] ((x_ud I n 606, L, R), 233, 0, 0) r) : ∀ d k, k + d = 606 → x_Ev X mX9_undo 37 [some (.ref 225), some (.int (Int32.ofNat k))] [] ((x_ud I n k, L, R), 233, 0, 0) r := by
  intro d
  induction d with
  | zero =>
    intro k hd
    obtain rfl : 606 = k := hd.symm
    refine f_iload_n (M := mX9_undo) 38 dX9_undo_37 rfl rfl ?_
    refine f_sipush (M := mX9_undo) 41 dX9_undo_38 ks_606 rfl ?_
    refine e_icmp_geT (M := mX9_undo) 71 dX9_undo_41 rfl (by decide) ?_
    exact kk
  | succ d ih =>
    intro k hd
    refine f_iload_n (M := mX9_undo) 38 dX9_undo_37 rfl rfl ?_
    refine f_sipush (M := mX9_undo) 41 dX9_undo_38 ks_606 rfl ?_
    refine e_icmp_geF (M := mX9_undo) 71 dX9_undo_41 rfl (by rw [kn_606, n_le (by omega) (by omega)]; omega) ?_
    refine f_aload_n (M := mX9_undo) 45 dX9_undo_44 rfl rfl ?_
    refine e_getR (M := mX9_undo) dX9_undo_45 fl_9007 (x_kk rfl) (x_kk rfl) rfl (wf_9_0 hR) ?_
    refine f_iload_n (M := mX9_undo) 49 dX9_undo_48 rfl rfl ?_
    refine f_aload_n (M := mX9_undo) 50 dX9_undo_49 rfl rfl ?_
    refine e_getR (M := mX9_undo) dX9_undo_50 fl_9016 (x_kk rfl) (x_kk rfl) rfl (wf_9_2 hR) ?_
    refine f_sipush (M := mX9_undo) 56 dX9_undo_53 ks_606 rfl ?_
    refine f_aload_n (M := mX9_undo) 57 dX9_undo_56 rfl rfl ?_
    refine e_getI (M := mX9_undo) dX9_undo_57 fl_9036 (x_kk rfl) (x_kk rfl) rfl ?_
    refine f_imul (M := mX9_undo) 61 dX9_undo_60 rfl ?_
    refine f_iload_n (M := mX9_undo) 62 dX9_undo_61 rfl rfl ?_
    refine f_iadd (M := mX9_undo) 63 dX9_undo_62 rfl ?_
    refine e_ild (M := mX9_undo) (w := 4848) (j := ((606) * (n)) + (k)) dX9_undo_63 (x_kk rfl) rfl (ix_add (ix_mul kn_606 hn) rfl) (by omega) (by omega) ?_
    refine e_ist (M := mX9_undo) (w := 606) (j := k) dX9_undo_64 (x_kk rfl) rfl rfl (by omega) (by omega) ?_
    refine f_iinc (M := mX9_undo) (ls' := [_, _]) 68 dX9_undo_65 ki_1 rfl rfl rfl rfl ?_
    refine f_goto (M := mX9_undo) 37 dX9_undo_68 rfl ?_
    rw [n_inc (s := k)]; rw [show x_ud I n k 228 (606 * n + k) = I 228 (606 * n + k) from rfl, x_ud_s]; exact ih (k + 1) (by omega)
theorem l_undo2 (hR : x_wf R) {n : Nat} (hn8 : n < 8) (hn : I 225 5 = Int32.ofNat n) {r : x_O × x_Mem × Nat} (kk : x_Ev X mX9_undo 105 [some (.ref 225), some (.int (Int32.ofNat 37))] [] ((I, x_udl L n 37, R), 233, 0, 0) r) : ∀ d k, k + d = 37 → x_Ev X mX9_undo 73 [some (.ref 225), some (.int (Int32.ofNat k))] [] ((I, x_udl L n k, R), 233, 0, 0) r := by
  intro d
  induction d with
  | zero =>
    intro k hd
    obtain rfl : 37 = k := hd.symm
    refine f_iload_n (M := mX9_undo) 74 dX9_undo_73 rfl rfl ?_
    refine f_bipush (M := mX9_undo) 76 dX9_undo_74 kb_37 rfl ?_
    refine e_icmp_geT (M := mX9_undo) 105 dX9_undo_76 rfl (by decide) ?_
    exact kk
  | succ d ih =>
    intro k hd
    refine f_iload_n (M := mX9_undo) 74 dX9_undo_73 rfl rfl ?_
    refine f_bipush (M := mX9_undo) 76 dX9_undo_74 kb_37 rfl ?_
    refine e_icmp_geF (M := mX9_undo) 105 dX9_undo_76 rfl (by rw [kn_37, n_le (by omega) (by omega)]; omega) ?_
    refine f_aload_n (M := mX9_undo) 80 dX9_undo_79 rfl rfl ?_
    refine e_getR (M := mX9_undo) dX9_undo_80 fl_9019 (x_kk rfl) (x_kk rfl) rfl (wf_9_3 hR) ?_
    refine f_iload_n (M := mX9_undo) 84 dX9_undo_83 rfl rfl ?_
    refine f_aload_n (M := mX9_undo) 85 dX9_undo_84 rfl rfl ?_
    refine e_getR (M := mX9_undo) dX9_undo_85 fl_9023 (x_kk rfl) (x_kk rfl) rfl (wf_9_4 hR) ?_
    refine f_bipush (M := mX9_undo) 90 dX9_undo_88 kb_37 rfl ?_
    refine f_aload_n (M := mX9_undo) 91 dX9_undo_90 rfl rfl ?_
    refine e_getI (M := mX9_undo) dX9_undo_91 fl_9036 (x_kk rfl) (x_kk rfl) rfl ?_
    refine f_imul (M := mX9_undo) 95 dX9_undo_94 rfl ?_
    refine f_iload_n (M := mX9_undo) 96 dX9_undo_95 rfl rfl ?_
    refine f_iadd (M := mX9_undo) 97 dX9_undo_96 rfl ?_
    refine e_lld (M := mX9_undo) (w := 296) (j := ((37) * (n)) + (k)) dX9_undo_97 (x_kk rfl) rfl (ix_add (ix_mul kn_37 hn) rfl) (by omega) (by omega) ?_
    refine e_lst (M := mX9_undo) (w := 37) (j := k) dX9_undo_98 (x_kk rfl) rfl rfl (by omega) (by omega) ?_
    refine f_iinc (M := mX9_undo) (ls' := [_, _]) 102 dX9_undo_99 ki_1 rfl rfl rfl rfl ?_
    refine f_goto (M := mX9_undo) 73 dX9_undo_102 rfl ?_
    rw [n_inc (s := k)]; rw [show x_udl L n k 230 (37 * n + k) = L 230 (37 * n + k) from rfl, x_udl_s]; exact ih (k + 1) (by omega)
theorem c_X9_undo_1 (hR : x_wf R) (hn : I 225 5 = 0) : x_Cv X mX9_undo [.ref 225] (I, L, R) 233 (.inl (some (.int (0))), (x_tw I 1, L, R), 233) := by
  show x_Ev X mX9_undo 0 [some (.ref 225), none] [] ((I, L, R), 233, 0, 0) _
  refine f_aload_n (M := mX9_undo) 1 dX9_undo_0 rfl rfl ?_
  refine f_aload_n (M := mX9_undo) 2 dX9_undo_1 rfl rfl ?_
  refine e_getI (M := mX9_undo) dX9_undo_2 fl_9036 (x_kk rfl) (x_kk rfl) rfl ?_
  refine e_if_neF (M := mX9_undo) 12 dX9_undo_5 rfl (fun z => z hn) ?_
  refine f_iconst (M := mX9_undo) 9 dX9_undo_8 ki_1 rfl ?_
  refine f_goto (M := mX9_undo) 13 dX9_undo_9 rfl ?_
  refine e_putI (M := mX9_undo) dX9_undo_13 fl_9033 (x_kk rfl) (x_kk rfl) rfl (fun q9 => Bool.noConfusion q9) ?_
  refine f_aload_n (M := mX9_undo) 17 dX9_undo_16 rfl rfl ?_
  refine e_getI (M := mX9_undo) dX9_undo_17 fl_9033 (x_kk rfl) (x_kk rfl) rfl ?_
  refine e_if_leF (M := mX9_undo) 25 dX9_undo_20 rfl (show ¬ (1 : Int32) ≤ 0 by decide) ?_
  refine f_iconst (M := mX9_undo) 24 dX9_undo_23 ki_0 rfl ?_
  refine e_ri (M := mX9_undo) dX9_undo_24 rfl (x_kk rfl) (x_kk rfl) ?_
  rfl
theorem c_X9_undo_0 (hR : x_wf R) {n : Nat} (hn8 : n < 8) (hn : I 225 5 = Int32.ofNat (n + 1)) : x_Cv X mX9_undo [.ref 225] (I, L, R) 233 (.inl (some (.int (Int32.ofNat n))), (x_ud (x_km (x_tw I 0) (Int32.ofNat n)) n 606, x_udl L n 37, R), 233) := by
  show x_Ev X mX9_undo 0 [some (.ref 225), none] [] ((I, L, R), 233, 0, 0) _
  refine f_aload_n (M := mX9_undo) 1 dX9_undo_0 rfl rfl ?_
  refine f_aload_n (M := mX9_undo) 2 dX9_undo_1 rfl rfl ?_
  refine e_getI (M := mX9_undo) dX9_undo_2 fl_9036 (x_kk rfl) (x_kk rfl) rfl ?_
  refine e_if_neT (M := mX9_undo) 12 dX9_undo_5 rfl (by rw [hn, kn_0, n_eq (by omega) (by omega)]; omega) ?_
  refine f_iconst (M := mX9_undo) 13 dX9_undo_12 ki_0 rfl ?_
  refine e_putI (M := mX9_undo) dX9_undo_13 fl_9033 (x_kk rfl) (x_kk rfl) rfl (fun q9 => Bool.noConfusion q9) ?_
  refine f_aload_n (M := mX9_undo) 17 dX9_undo_16 rfl rfl ?_
  refine e_getI (M := mX9_undo) dX9_undo_17 fl_9033 (x_kk rfl) (x_kk rfl) rfl ?_
  refine e_if_leT (M := mX9_undo) 25 dX9_undo_20 rfl (show (0 : Int32) ≤ 0 by decide) ?_
  refine f_aload_n (M := mX9_undo) 26 dX9_undo_25 rfl rfl ?_
  refine f_dup (M := mX9_undo) 27 dX9_undo_26 rfl rfl ?_
  refine e_getI (M := mX9_undo) dX9_undo_27 fl_9036 (x_kk rfl) (x_kk rfl) rfl ?_
  refine f_iconst (M := mX9_undo) 31 dX9_undo_30 ki_1 rfl ?_
  refine f_isub (M := mX9_undo) 32 dX9_undo_31 rfl ?_
  refine e_putI (M := mX9_undo) dX9_undo_32 fl_9036 (x_kk rfl) (x_kk rfl) rfl (fun q9 => Bool.noConfusion q9) ?_
  rw [show va_up (va_up I 225 (va_up (I 225) 6 0)) 225 (va_up ((va_up I 225 (va_up (I 225) 6 0)) 225) 5 ((va_up I 225 (va_up (I 225) 6 0)) 225 5 - 1)) = x_km (x_tw I 0) (Int32.ofNat n) from by rw [show (va_up I 225 (va_up (I 225) 6 0)) 225 5 - 1 = Int32.ofNat n from by rw [show (va_up I 225 (va_up (I 225) 6 0)) 225 5 = I 225 5 from rfl, ix_sub hn kn_1 (by omega), Nat.add_sub_cancel]]; rfl]
  refine f_iconst (M := mX9_undo) 36 dX9_undo_35 ki_0 rfl ?_
  refine f_istore_n (M := mX9_undo) (ls' := [_, _]) 37 dX9_undo_36 rfl rfl rfl ?_
  show x_Ev X mX9_undo 37 [some (.ref 225), some (.int (Int32.ofNat 0))] [] (((x_km (x_tw I 0) (Int32.ofNat n)), L, R), 233, 0, 0) _; rw [show (((x_km (x_tw I 0) (Int32.ofNat n)), L, R) : x_Mem) = (x_ud (x_km (x_tw I 0) (Int32.ofNat n)) n 0, L, R) from by rw [x_ud_0]]; refine l_undo1 (I := (x_km (x_tw I 0) (Int32.ofNat n))) hR hn8 rfl ?_ 606 0 rfl
  refine f_iconst (M := mX9_undo) 72 dX9_undo_71 ki_0 rfl ?_
  refine f_istore_n (M := mX9_undo) (ls' := [_, _]) 73 dX9_undo_72 rfl rfl rfl ?_
  show x_Ev X mX9_undo 73 [some (.ref 225), some (.int (Int32.ofNat 0))] [] ((x_ud (x_km (x_tw I 0) (Int32.ofNat n)) n 606, L, R), 233, 0, 0) _; rw [show ((x_ud (x_km (x_tw I 0) (Int32.ofNat n)) n 606, L, R) : x_Mem) = (x_ud (x_km (x_tw I 0) (Int32.ofNat n)) n 606, x_udl L n 0, R) from by rw [x_udl_0]]; refine l_undo2 (I := x_ud (x_km (x_tw I 0) (Int32.ofNat n)) n 606) hR hn8 rfl ?_ 37 0 rfl
  refine f_aload_n (M := mX9_undo) 106 dX9_undo_105 rfl rfl ?_
  refine e_getI (M := mX9_undo) dX9_undo_106 fl_9036 (x_kk rfl) (x_kk rfl) rfl ?_
  refine e_ri (M := mX9_undo) dX9_undo_109 rfl (x_kk rfl) (x_kk rfl) ?_
  rfl
end

/-! ===== the model's reader, second: the next token (laid by wip/whole/src/rd10.py) ===== -/
section
variable {X : x_X} {I : Nat → Nat → Int32} {L : Nat → Nat → Int64} {R : Nat → Nat → Option Nat} {N : Nat}
section
variable (g : Nat → Int32) (n : Nat)
def y_kw (s : Nat) : Int32 := if y_wd g n 1010 s then 0 else if y_wd g n 1011 s then 1 else if y_wd g n 1012 s then 2 else 3
def y_kd (s : Nat) : Int32 := if s < n then (if y_rg g n 97 122 s then y_kw g n s else if y_rg g n 48 57 s then 4 else if y_rg g n 59 59 s then 5 else 7) else 6
def y_bh (s : Nat) : Nat := if s < n then (if y_rg g n 97 122 s then y_fw g n 97 122 s else if y_rg g n 48 57 s then y_en g n s else s + 1) else s
end
section
variable {g f : Nat → Int32} {n s : Nat}
theorem txt_l : ∀ w, 1010 ≤ w → w ≤ 1012 → ∀ i, i < (x_txt w).length → 97 ≤ (x_txt w).getD i 0 ∧ (x_txt w).getD i 0 ≤ 122 := by
  intro r h1 h2
  have hr : r = 1010 ∨ r = 1011 ∨ r = 1012 := by omega
  rcases hr with rfl | rfl | rfl <;> decide +kernel
theorem m9_e {w b l : Nat} (hf : ∀ j, j < n → f j = g j) (hs : s ≤ n) (w1 : 1010 ≤ w) (w2 : w ≤ 1012) (hl : (x_txt w).length = l) (hK : ∀ i, i < l → y_K (b + i) = (x_txt w).getD i 0) : y_m9 f s (y_fw g n 97 122 s) b l ↔ y_wd g n w s := by
  subst hl
  have en : y_fw g n 97 122 s ≤ n := fw_le hs
  constructor
  · intro h
    obtain ⟨h1, h2⟩ := h
    refine ⟨fun i hi => ?_, ?_⟩
    · have hn : s + i < n := by omega
      refine ⟨hn, ?_⟩
      rw [← hf _ hn, h2 i hi, hK i hi]
    · rw [← h1]; exact fw_st hs
  · intro h
    obtain ⟨h1, h2⟩ := h
    have e : y_fw g n 97 122 s = s + (x_txt w).length := fw_eq (by omega) (fun q q1 q2 => by
      have k := h1 (q - s) (by omega)
      rw [show s + (q - s) = q by omega] at k
      have t := txt_l w w1 w2 (q - s) (by omega)
      exact ⟨k.1, by rw [k.2]; exact t.1, by rw [k.2]; exact t.2⟩) h2
    refine ⟨e, fun i hi => ?_⟩
    rw [hf _ (h1 i hi).1, (h1 i hi).2, hK i hi]
theorem kw_e (hf : ∀ j, j < n → f j = g j) (hs : s ≤ n) : (if y_m9 f s (y_fw g n 97 122 s) 1 4 then (0 : Int32) else if y_m9 f s (y_fw g n 97 122 s) 6 7 then 1 else if y_m9 f s (y_fw g n 97 122 s) 14 4 then 2 else 3) = y_kw g n s := by
  have e0 := m9_e (w := 1010) (b := 1) (l := 4) hf hs (by decide) (by decide) rfl (by decide)
  have e1 := m9_e (w := 1011) (b := 6) (l := 7) hf hs (by decide) (by decide) rfl (by decide)
  have e2 := m9_e (w := 1012) (b := 14) (l := 4) hf hs (by decide) (by decide) rfl (by decide)
  unfold y_kw
  by_cases c0 : y_wd g n 1010 s
  · rw [if_pos c0, if_pos (e0.mpr c0)]
  · rw [if_neg c0, if_neg (fun z => c0 (e0.mp z))]
    by_cases c1 : y_wd g n 1011 s
    · rw [if_pos c1, if_pos (e1.mpr c1)]
    · rw [if_neg c1, if_neg (fun z => c1 (e1.mp z))]
      by_cases c2 : y_wd g n 1012 s
      · rw [if_pos c2, if_pos (e2.mpr c2)]
      · rw [if_neg c2, if_neg (fun z => c2 (e2.mp z))]
theorem nl_e {v d : Nat} {x : Int32} (hx : x.toInt = 48 + (d : Int)) (hd : d ≤ 9) (hv : v < 10000000) : (10 : Int64) * (Int32.ofNat v).toInt64 + x.toInt64 - 48 = (Int32.ofNat (10 * v + d)).toInt64 := by
  have e0 : (Int32.ofNat v).toInt64.toInt = (v : Int) := by rw [T_w, t_n (by omega)]
  have ex : x.toInt64.toInt = 48 + (d : Int) := by rw [T_w, hx]
  have k10 : (10 : Int64).toInt = 10 := by decide
  have k48 : (48 : Int64).toInt = 48 := by decide
  have e1 : ((10 : Int64) * (Int32.ofNat v).toInt64).toInt = 10 * (v : Int) := by rw [T_mul (by rw [e0, k10]; omega) (by rw [e0, k10]; omega), e0, k10]
  have e2 : ((10 : Int64) * (Int32.ofNat v).toInt64 + x.toInt64).toInt = 10 * (v : Int) + (48 + d) := by rw [T_add (by rw [e1, ex]; omega) (by rw [e1, ex]; omega), e1, ex]
  rw [T_eq, T_sub (by rw [e2, k48]; omega) (by rw [e2, k48]; omega), e2, k48, T_w, t_n (by omega)]
  omega
theorem mb_dg {q : Nat} (hf : ∀ j, j < n → f j = g j) (h : y_rg g n 48 57 q) : (y_mb f n q).toInt = 48 + (y_dg g q : Int) ∧ y_dg g q ≤ 9 := by
  obtain ⟨c, h1, h2⟩ := h
  rw [t_le, show (48 : Int32).toInt = 48 from by decide] at h1
  rw [t_le, show (57 : Int32).toInt = 57 from by decide] at h2
  unfold y_mb y_dg
  rw [if_pos c, hf q c]
  omega
theorem up2_self {f : Nat → Nat → Int32} {q j : Nat} {v : Int32} (h : f q j = v) : va_up f q (va_up (f q) j v) = f := by
  funext p
  unfold va_up
  by_cases e : p = q
  · rw [if_pos e, e]
    funext i
    by_cases z : i = j
    · rw [if_pos z, z]; exact h.symm
    · rw [if_neg z]
  · rw [if_neg e]
end
theorem l_A9 (hR : x_wf R) {n s : Nat} {g : Nat → Int32} (hn : n ≤ 800) (h9 : I 225 9 = Int32.ofNat n) (hb : ∀ j, j < n → I 231 j = g j) {r : x_O × x_Mem × Nat} (kk : x_Ev X mX9_next 34 [some (.ref 225)] [] (((va_up I 225 (va_up (I 225) 10 (Int32.ofNat s))), L, R), 233, 0, 0) r) : ∀ d k, k + d = n → y_fw g n 32 32 k = s → x_Ev X mX9_next 8 [some (.ref 225)] [] (((va_up I 225 (va_up (I 225) 10 (Int32.ofNat k))), L, R), 233, 0, 0) r := by
  intro d
  induction d with
  | zero =>
    intro k hd he
    obtain rfl : n = k := by omega
    refine f_aload_n (M := mX9_next) 9 dX9_next_8 rfl rfl ?_
    refine f_aload_n (M := mX9_next) 10 dX9_next_9 rfl rfl ?_
    refine e_getI (M := mX9_next) dX9_next_10 fl_9057 (x_kk rfl) (x_kk rfl) rfl ?_
    rw [x_up_self, x_up_self]
    refine e_cV (M := mX9_next) [_] 0 0 dX9_next_13 pa_9063 pb_9063 cc_9063 rfl rfl rfl rfl rfl (x_kk rfl) (x_kk rfl) rfl (c_X9_see (I := (va_up I 225 (va_up (I 225) 10 (Int32.ofNat n)))) (j := n) hR hn h9 (by omega)) rfl ?_
    refine f_bipush (M := mX9_next) 18 dX9_next_16 kb_32 rfl ?_
    refine e_icmp_neT (M := mX9_next) 34 dX9_next_18 rfl (fun z => by have := ((mb_eq (v := 32) (f := I 231) (n := n) hb (by decide)).mp z).1; omega) ?_
    rw [fw_0 (fun z => by have := z.1; omega)] at he; subst he; exact kk
  | succ d ih =>
    intro k hd he
    refine f_aload_n (M := mX9_next) 9 dX9_next_8 rfl rfl ?_
    refine f_aload_n (M := mX9_next) 10 dX9_next_9 rfl rfl ?_
    refine e_getI (M := mX9_next) dX9_next_10 fl_9057 (x_kk rfl) (x_kk rfl) rfl ?_
    rw [x_up_self, x_up_self]
    refine e_cV (M := mX9_next) [_] 0 0 dX9_next_13 pa_9063 pb_9063 cc_9063 rfl rfl rfl rfl rfl (x_kk rfl) (x_kk rfl) rfl (c_X9_see (I := (va_up I 225 (va_up (I 225) 10 (Int32.ofNat k)))) (j := k) hR hn h9 (by omega)) rfl ?_
    refine f_bipush (M := mX9_next) 18 dX9_next_16 kb_32 rfl ?_
    refine e_icmp_ne (M := mX9_next) (t := 34) dX9_next_18 rfl (fun h1 => ?_) (fun h1 => ?_)
    · rw [fw_0 (fun z => h1 ((mb_eq (v := 32) (f := I 231) (n := n) hb (by decide)).mpr (rg_eq.mp z)))] at he; subst he; exact kk
    · refine f_aload_n (M := mX9_next) 22 dX9_next_21 rfl rfl ?_
      refine f_dup (M := mX9_next) 23 dX9_next_22 rfl rfl ?_
      refine e_getI (M := mX9_next) dX9_next_23 fl_9057 (x_kk rfl) (x_kk rfl) rfl ?_
      refine f_iconst (M := mX9_next) 27 dX9_next_26 ki_1 rfl ?_
      refine f_iadd (M := mX9_next) 28 dX9_next_27 rfl ?_
      refine e_putI (M := mX9_next) dX9_next_28 fl_9057 (x_kk rfl) (x_kk rfl) rfl (fun q9 => Bool.noConfusion q9) ?_
      refine f_goto (M := mX9_next) 8 dX9_next_31 rfl ?_
      have hg := rg_eq.mpr ((mb_eq (v := 32) (f := I 231) (n := n) hb (by decide)).mp (x_dn h1)); rw [up_up, x_up_self, x_up_self, va_uu, n_inc (s := k)]; exact ih (k + 1) (by omega) (by rw [← fw_s hg]; exact he)
theorem l_B9 (hR : x_wf R) {n s : Nat} {g : Nat → Int32} (hn : n ≤ 800) (h9 : I 225 9 = Int32.ofNat n) (hb : ∀ j, j < n → I 231 j = g j) {r : x_O × x_Mem × Nat} (kk : x_Ev X mX9_next 117 [some (.ref 225)] [] (((va_up I 225 (va_up (I 225) 11 (Int32.ofNat s))), L, R), 233, 0, 0) r) : ∀ d k, k + d = n → y_fw g n 97 122 k = s → x_Ev X mX9_next 83 [some (.ref 225)] [] (((va_up I 225 (va_up (I 225) 11 (Int32.ofNat k))), L, R), 233, 0, 0) r := by
  intro d
  induction d with
  | zero =>
    intro k hd he
    obtain rfl : n = k := by omega
    refine f_aload_n (M := mX9_next) 84 dX9_next_83 rfl rfl ?_
    refine f_aload_n (M := mX9_next) 85 dX9_next_84 rfl rfl ?_
    refine e_getI (M := mX9_next) dX9_next_85 fl_9060 (x_kk rfl) (x_kk rfl) rfl ?_
    rw [x_up_self, x_up_self]
    refine e_cV (M := mX9_next) [_] 0 0 dX9_next_88 pa_9063 pb_9063 cc_9063 rfl rfl rfl rfl rfl (x_kk rfl) (x_kk rfl) rfl (c_X9_see (I := (va_up I 225 (va_up (I 225) 11 (Int32.ofNat n)))) (j := n) hR hn h9 (by omega)) rfl ?_
    refine f_i2l (M := mX9_next) 92 dX9_next_91 rfl ?_
    refine f_ldc2 (M := mX9_next) 95 dX9_next_92 (x_kk rfl) csl_9070 rfl ?_
    refine f_ldc2 (M := mX9_next) 98 dX9_next_95 (x_kk rfl) csl_9072 rfl ?_
    refine e_cS (M := mX9_next) [_] 0 0 dX9_next_98 pa_9074 cc_9074 rfl rfl rfl rfl rfl (x_kk rfl) (x_kk rfl) rfl (c_let9) rfl ?_
    refine e_if_eqT (M := mX9_next) 117 dX9_next_101 rfl (x_b0 (fun z => by have := ((mb_in (lo := 97) (hi := 122) (f := I 231) (n := n) hb (by decide)).mp z).1; omega)) ?_
    rw [fw_0 (fun z => by have := z.1; omega)] at he; subst he; exact kk
  | succ d ih =>
    intro k hd he
    refine f_aload_n (M := mX9_next) 84 dX9_next_83 rfl rfl ?_
    refine f_aload_n (M := mX9_next) 85 dX9_next_84 rfl rfl ?_
    refine e_getI (M := mX9_next) dX9_next_85 fl_9060 (x_kk rfl) (x_kk rfl) rfl ?_
    rw [x_up_self, x_up_self]
    refine e_cV (M := mX9_next) [_] 0 0 dX9_next_88 pa_9063 pb_9063 cc_9063 rfl rfl rfl rfl rfl (x_kk rfl) (x_kk rfl) rfl (c_X9_see (I := (va_up I 225 (va_up (I 225) 11 (Int32.ofNat k)))) (j := k) hR hn h9 (by omega)) rfl ?_
    refine f_i2l (M := mX9_next) 92 dX9_next_91 rfl ?_
    refine f_ldc2 (M := mX9_next) 95 dX9_next_92 (x_kk rfl) csl_9070 rfl ?_
    refine f_ldc2 (M := mX9_next) 98 dX9_next_95 (x_kk rfl) csl_9072 rfl ?_
    refine e_cS (M := mX9_next) [_] 0 0 dX9_next_98 pa_9074 cc_9074 rfl rfl rfl rfl rfl (x_kk rfl) (x_kk rfl) rfl (c_let9) rfl ?_
    refine e_if_eq (M := mX9_next) (t := 117) dX9_next_101 rfl (fun h1 => ?_) (fun h1 => ?_)
    · rw [fw_0 (fun z => x_bF h1 ((mb_in (lo := 97) (hi := 122) (f := I 231) (n := n) hb (by decide)).mpr z))] at he; subst he; exact kk
    · refine f_aload_n (M := mX9_next) 105 dX9_next_104 rfl rfl ?_
      refine f_dup (M := mX9_next) 106 dX9_next_105 rfl rfl ?_
      refine e_getI (M := mX9_next) dX9_next_106 fl_9060 (x_kk rfl) (x_kk rfl) rfl ?_
      refine f_iconst (M := mX9_next) 110 dX9_next_109 ki_1 rfl ?_
      refine f_iadd (M := mX9_next) 111 dX9_next_110 rfl ?_
      refine e_putI (M := mX9_next) dX9_next_111 fl_9060 (x_kk rfl) (x_kk rfl) rfl (fun q9 => Bool.noConfusion q9) ?_
      refine f_goto (M := mX9_next) 83 dX9_next_114 rfl ?_
      have hg := (mb_in (lo := 97) (hi := 122) (f := I 231) (n := n) hb (by decide)).mp (x_bT h1); rw [up_up, x_up_self, x_up_self, va_uu, n_inc (s := k)]; exact ih (k + 1) (by omega) (by rw [← fw_s hg]; exact he)
theorem l_C9 (hR : x_wf R) {n s b m : Nat} {g : Nat → Int32} (hn : n ≤ 800) (h9 : I 225 9 = Int32.ofNat n) (hb : ∀ j, j < n → I 231 j = g j) {r : x_O × x_Mem × Nat} (hdg : ∀ q, q < n → y_dg g q ≤ 300) (hsb : s + b = n) (kk : x_Ev X mX9_next 225 [some (.ref 225)] [] (((va_up I 225 (va_up (I 225) 11 (Int32.ofNat (s + m)))), (va_up L 225 (va_up (L 225) 16 (Int32.ofNat (y_nv g s (m))).toInt64)), R), 233, 0, 0) r) : ∀ d k, k + d = b → y_fw g n 48 57 (s + k) = s + m → x_Ev X mX9_next 154 [some (.ref 225)] [] (((va_up I 225 (va_up (I 225) 11 (Int32.ofNat (s + k)))), (va_up L 225 (va_up (L 225) 16 (Int32.ofNat (y_nv g s (k))).toInt64)), R), 233, 0, 0) r := by
  intro d
  induction d with
  | zero =>
    intro k hd he
    obtain rfl : b = k := by omega
    refine f_aload_n (M := mX9_next) 155 dX9_next_154 rfl rfl ?_
    refine f_aload_n (M := mX9_next) 156 dX9_next_155 rfl rfl ?_
    refine e_getI (M := mX9_next) dX9_next_156 fl_9060 (x_kk rfl) (x_kk rfl) rfl ?_
    rw [x_up_self, x_up_self]
    refine e_cV (M := mX9_next) [_] 0 0 dX9_next_159 pa_9063 pb_9063 cc_9063 rfl rfl rfl rfl rfl (x_kk rfl) (x_kk rfl) rfl (c_X9_see (I := (va_up I 225 (va_up (I 225) 11 (Int32.ofNat (s + b))))) (j := s + b) hR hn h9 (by omega)) rfl ?_
    refine f_i2l (M := mX9_next) 163 dX9_next_162 rfl ?_
    refine f_ldc2 (M := mX9_next) 166 dX9_next_163 (x_kk rfl) csl_9081 rfl ?_
    refine f_ldc2 (M := mX9_next) 169 dX9_next_166 (x_kk rfl) csl_9083 rfl ?_
    refine e_cS (M := mX9_next) [_] 0 0 dX9_next_169 pa_9074 cc_9074 rfl rfl rfl rfl rfl (x_kk rfl) (x_kk rfl) rfl (c_dig9) rfl ?_
    refine e_if_eqT (M := mX9_next) 225 dX9_next_172 rfl (x_b0 (fun z => by have := ((mb_in (lo := 48) (hi := 57) (f := I 231) (n := n) hb (by decide)).mp z).1; omega)) ?_
    rw [fw_0 (fun z => by have := z.1; omega)] at he; obtain rfl : m = b := (by omega); exact kk
  | succ d ih =>
    intro k hd he
    refine f_aload_n (M := mX9_next) 155 dX9_next_154 rfl rfl ?_
    refine f_aload_n (M := mX9_next) 156 dX9_next_155 rfl rfl ?_
    refine e_getI (M := mX9_next) dX9_next_156 fl_9060 (x_kk rfl) (x_kk rfl) rfl ?_
    rw [x_up_self, x_up_self]
    refine e_cV (M := mX9_next) [_] 0 0 dX9_next_159 pa_9063 pb_9063 cc_9063 rfl rfl rfl rfl rfl (x_kk rfl) (x_kk rfl) rfl (c_X9_see (I := (va_up I 225 (va_up (I 225) 11 (Int32.ofNat (s + k))))) (j := s + k) hR hn h9 (by omega)) rfl ?_
    refine f_i2l (M := mX9_next) 163 dX9_next_162 rfl ?_
    refine f_ldc2 (M := mX9_next) 166 dX9_next_163 (x_kk rfl) csl_9081 rfl ?_
    refine f_ldc2 (M := mX9_next) 169 dX9_next_166 (x_kk rfl) csl_9083 rfl ?_
    refine e_cS (M := mX9_next) [_] 0 0 dX9_next_169 pa_9074 cc_9074 rfl rfl rfl rfl rfl (x_kk rfl) (x_kk rfl) rfl (c_dig9) rfl ?_
    refine e_if_eq (M := mX9_next) (t := 225) dX9_next_172 rfl (fun h1 => ?_) (fun h1 => ?_)
    · rw [fw_0 (fun z => x_bF h1 ((mb_in (lo := 48) (hi := 57) (f := I 231) (n := n) hb (by decide)).mpr z))] at he; obtain rfl : m = k := (by omega); exact kk
    · refine f_aload_n (M := mX9_next) 176 dX9_next_175 rfl rfl ?_
      refine e_getL (M := mX9_next) dX9_next_176 fl_9085 (x_kk rfl) (x_kk rfl) rfl ?_
      refine f_ldc2 (M := mX9_next) 182 dX9_next_179 (x_kk rfl) csl_9089 rfl ?_
      refine f_lcmp (M := mX9_next) 183 dX9_next_182 rfl ?_
      refine e_if_ge (M := mX9_next) (t := 212) dX9_next_183 rfl (fun h2 => ?_) (fun h2 => ?_)
      · refine f_aload_n (M := mX9_next) 213 dX9_next_212 rfl rfl ?_
        refine f_dup (M := mX9_next) 214 dX9_next_213 rfl rfl ?_
        refine e_getI (M := mX9_next) dX9_next_214 fl_9060 (x_kk rfl) (x_kk rfl) rfl ?_
        refine f_iconst (M := mX9_next) 218 dX9_next_217 ki_1 rfl ?_
        refine f_iadd (M := mX9_next) 219 dX9_next_218 rfl ?_
        refine e_putI (M := mX9_next) dX9_next_219 fl_9060 (x_kk rfl) (x_kk rfl) rfl (fun q9 => Bool.noConfusion q9) ?_
        refine f_goto (M := mX9_next) 154 dX9_next_222 rfl ?_
        have hg := (mb_in (lo := 48) (hi := 57) (f := I 231) (n := n) hb (by decide)).mp (x_bT h1)
        have vb := nv_b (s := s) hdg k (by omega)
        rw [lc_ge, x_up_self, x_up_self, T_le, T_w, t_n (by omega), show (10000000 : Int64).toInt = 10000000 from by decide] at h2
        have ev : y_nv g s (k + 1) = y_nv g s k := if_neg (by omega)
        have ih1 := ih (k + 1) (by omega) (by rw [show s + (k + 1) = s + k + 1 from rfl, ← fw_s hg]; exact he)
        rw [ev] at ih1
        rw [up_up, x_up_self, x_up_self, va_uu, n_inc (s := s + k)]
        exact ih1
      · refine f_aload_n (M := mX9_next) 187 dX9_next_186 rfl rfl ?_
        refine f_ldc2 (M := mX9_next) 190 dX9_next_187 (x_kk rfl) csl_9091 rfl ?_
        refine f_aload_n (M := mX9_next) 191 dX9_next_190 rfl rfl ?_
        refine e_getL (M := mX9_next) dX9_next_191 fl_9085 (x_kk rfl) (x_kk rfl) rfl ?_
        refine f_lmul (M := mX9_next) 195 dX9_next_194 rfl ?_
        refine f_aload_n (M := mX9_next) 196 dX9_next_195 rfl rfl ?_
        refine f_aload_n (M := mX9_next) 197 dX9_next_196 rfl rfl ?_
        refine e_getI (M := mX9_next) dX9_next_197 fl_9060 (x_kk rfl) (x_kk rfl) rfl ?_
        rw [x_up_self, x_up_self]
        refine e_cV (M := mX9_next) [_, _, _] 0 0 dX9_next_200 pa_9063 pb_9063 cc_9063 rfl rfl rfl rfl rfl (x_kk rfl) (x_kk rfl) rfl (c_X9_see (I := (va_up I 225 (va_up (I 225) 11 (Int32.ofNat (s + k))))) (j := s + k) hR hn h9 (by omega)) rfl ?_
        refine f_i2l (M := mX9_next) 204 dX9_next_203 rfl ?_
        refine f_ladd (M := mX9_next) 205 dX9_next_204 rfl ?_
        refine f_ldc2 (M := mX9_next) 208 dX9_next_205 (x_kk rfl) csl_9081 rfl ?_
        refine f_lsub (M := mX9_next) 209 dX9_next_208 rfl ?_
        refine e_putL (M := mX9_next) dX9_next_209 fl_9085 (x_kk rfl) (x_kk rfl) rfl (fun q9 => Bool.noConfusion q9) ?_
        refine f_aload_n (M := mX9_next) 213 dX9_next_212 rfl rfl ?_
        refine f_dup (M := mX9_next) 214 dX9_next_213 rfl rfl ?_
        refine e_getI (M := mX9_next) dX9_next_214 fl_9060 (x_kk rfl) (x_kk rfl) rfl ?_
        refine f_iconst (M := mX9_next) 218 dX9_next_217 ki_1 rfl ?_
        refine f_iadd (M := mX9_next) 219 dX9_next_218 rfl ?_
        refine e_putI (M := mX9_next) dX9_next_219 fl_9060 (x_kk rfl) (x_kk rfl) rfl (fun q9 => Bool.noConfusion q9) ?_
        refine f_goto (M := mX9_next) 154 dX9_next_222 rfl ?_
        have hg := (mb_in (lo := 48) (hi := 57) (f := I 231) (n := n) hb (by decide)).mp (x_bT h1)
        have vb := nv_b (s := s) hdg k (by omega)
        have cd := mb_dg hb hg
        rw [lc_ge, x_up_self, x_up_self, T_le, T_w, t_n (by omega), show (10000000 : Int64).toInt = 10000000 from by decide] at h2
        have ev : y_nv g s (k + 1) = 10 * y_nv g s k + y_dg g (s + k) := if_pos (by omega)
        have ih1 := ih (k + 1) (by omega) (by rw [show s + (k + 1) = s + k + 1 from rfl, ← fw_s hg]; exact he)
        rw [ev, ← nl_e cd.1 cd.2 (by omega)] at ih1
        simp only [up_up, x_up_self, va_uu, n_inc, x_up_ne _ _ (show (231 : Nat) ≠ 225 by decide)]
        exact ih1
theorem m_next (hR : x_wf R) {n p s : Nat} {g : Nat → Int32} (hn : n ≤ 800) (h9 : I 225 9 = Int32.ofNat n) (hb : ∀ j, j < n → I 231 j = g j) (hdg : ∀ q, q < n → y_dg g q ≤ 300) (hp : p ≤ n) (h11 : I 225 11 = Int32.ofNat p) (hs : y_sk g n p = s) : ∃ I' L', x_Cv X mX9_next [.ref 225] (I, L, R) 233 (.inl none, (I', L', R), 233) ∧ (∀ q, ¬ q = 225 → I' q = I q ∧ L' q = L q) ∧ (∀ j, ¬ j = 10 → ¬ j = 11 → ¬ j = 12 → I' 225 j = I 225 j) ∧ I' 225 10 = Int32.ofNat s ∧ I' 225 11 = Int32.ofNat (y_bh g n s) ∧ I' 225 12 = y_kd g n s ∧ (y_rg g n 48 57 s → L' 225 16 = (Int32.ofNat (y_vl g n s)).toInt64) := by
  have hsn : s ≤ n := by rw [← hs]; exact fw_le hp
  obtain ⟨J, hJ⟩ : ∃ J, J = va_up I 225 (va_up (va_up (I 225) 10 (Int32.ofNat s)) 11 (Int32.ofNat s)) := ⟨_, rfl⟩
  have jf : ∀ q, ¬ q = 225 → J q = I q := fun q hq => by rw [hJ]; exact x_up_ne _ _ hq
  have j10 : J 225 10 = Int32.ofNat s := by rw [hJ, x_up_self, x_up_ne _ _ (by decide), x_up_self]
  have j11 : J 225 11 = Int32.ofNat s := by rw [hJ, x_up_self, x_up_self]
  have jj : ∀ j, ¬ j = 10 → ¬ j = 11 → J 225 j = I 225 j := fun j z1 z2 => by rw [hJ, x_up_self, x_up_ne _ _ z2, x_up_ne _ _ z1]
  have j9 : J 225 9 = Int32.ofNat n := by rw [jj 9 (by decide) (by decide)]; exact h9
  have jb : ∀ j, j < n → J 231 j = g j := fun j hj => by rw [jf 231 (by decide)]; exact hb j hj
  have lA : ∀ r, x_Ev X mX9_next 42 [some (.ref 225)] [] ((J, L, R), 233, 0, 0) r → x_Cv X mX9_next [.ref 225] (I, L, R) 233 r := by
    intro r hr
    show x_Ev X mX9_next 0 [some (.ref 225)] [] ((I, L, R), 233, 0, 0) _
    refine f_aload_n (M := mX9_next) 1 dX9_next_0 rfl rfl ?_
    refine f_aload_n (M := mX9_next) 2 dX9_next_1 rfl rfl ?_
    refine e_getI (M := mX9_next) dX9_next_2 fl_9060 (x_kk rfl) (x_kk rfl) rfl ?_
    refine e_putI (M := mX9_next) dX9_next_5 fl_9057 (x_kk rfl) (x_kk rfl) rfl (fun q9 => Bool.noConfusion q9) ?_
    rw [h11]; refine l_A9 (I := I) hR hn h9 hb ?_ (n - p) p (by omega) hs
    refine f_aload_n (M := mX9_next) 35 dX9_next_34 rfl rfl ?_
    refine f_aload_n (M := mX9_next) 36 dX9_next_35 rfl rfl ?_
    refine e_getI (M := mX9_next) dX9_next_36 fl_9057 (x_kk rfl) (x_kk rfl) rfl ?_
    refine e_putI (M := mX9_next) dX9_next_39 fl_9060 (x_kk rfl) (x_kk rfl) rfl (fun q9 => Bool.noConfusion q9) ?_
    simp only [up_up, x_up_self]; rw [← hJ]; exact hr
  by_cases c1 : s < n
  · by_cases c2 : y_rg g n 97 122 s
    · have e11 : ∀ r, x_Ev X mX9_next 117 [some (.ref 225)] [] ((va_up J 225 (va_up (J 225) 11 (Int32.ofNat (y_fw g n 97 122 s))), L, R), 233, 0, 0) r → x_Ev X mX9_next 83 [some (.ref 225)] [] ((J, L, R), 233, 0, 0) r := fun r kk => by
        have l := l_B9 (X := X) (I := J) (L := L) hR hn j9 jb kk (n - s) s (by omega) rfl
        rw [up2_self j11] at l
        exact l
      have en : y_fw g n 97 122 s ≤ n := fw_le hsn
      have eg : s ≤ y_fw g n 97 122 s := fw_ge hsn
      obtain ⟨K, hK⟩ : ∃ K, K = va_up J 225 (va_up (J 225) 11 (Int32.ofNat (y_fw g n 97 122 s))) := ⟨_, rfl⟩
      rw [← hK] at e11
      have k10 : K 225 10 = Int32.ofNat s := by rw [hK, x_up_self, x_up_ne _ _ (by decide)]; exact j10
      have k11 : K 225 11 = Int32.ofNat (y_fw g n 97 122 s) := by rw [hK, x_up_self, x_up_self]
      have kf : ∀ q, ¬ q = 225 → K q = I q := fun q hq => by rw [hK, x_up_ne _ _ hq]; exact jf q hq
      have wk := c_wordAt (X := X) (I := K) (L := L) hR k10 k11 (by omega) eg
      rw [kw_e (f := K 231) (fun j hj => by rw [kf 231 (by decide)]; exact hb j hj) hsn] at wk
      refine ⟨va_up K 225 (va_up (K 225) 12 (y_kw g n s)), L, lA _ ?_, fun q hq => ⟨(x_up_ne _ _ hq).trans (kf q hq), rfl⟩, fun j z1 z2 z3 => ?_, ?_, ?_, ?_, fun z => ?_⟩
      · refine f_aload_n (M := mX9_next) 43 dX9_next_42 rfl rfl ?_
        refine e_getI (M := mX9_next) dX9_next_43 fl_9057 (x_kk rfl) (x_kk rfl) rfl ?_
        refine f_aload_n (M := mX9_next) 47 dX9_next_46 rfl rfl ?_
        refine e_getI (M := mX9_next) dX9_next_47 fl_9042 (x_kk rfl) (x_kk rfl) rfl ?_
        refine e_icmp_ltT (M := mX9_next) 62 dX9_next_50 rfl (by rw [j10, j9, n_lt (by omega) (by omega)]; exact c1) ?_
        refine f_aload_n (M := mX9_next) 63 dX9_next_62 rfl rfl ?_
        refine f_aload_n (M := mX9_next) 64 dX9_next_63 rfl rfl ?_
        refine e_getI (M := mX9_next) dX9_next_64 fl_9057 (x_kk rfl) (x_kk rfl) rfl ?_
        rw [j10]
        refine e_cV (M := mX9_next) [_] 0 0 dX9_next_67 pa_9063 pb_9063 cc_9063 rfl rfl rfl rfl rfl (x_kk rfl) (x_kk rfl) rfl (c_X9_see (I := J) (j := s) hR hn j9 (by omega)) rfl ?_
        refine f_i2l (M := mX9_next) 71 dX9_next_70 rfl ?_
        refine f_ldc2 (M := mX9_next) 74 dX9_next_71 (x_kk rfl) csl_9070 rfl ?_
        refine f_ldc2 (M := mX9_next) 77 dX9_next_74 (x_kk rfl) csl_9072 rfl ?_
        refine e_cS (M := mX9_next) [_] 0 0 dX9_next_77 pa_9074 cc_9074 rfl rfl rfl rfl rfl (x_kk rfl) (x_kk rfl) rfl (c_let9) rfl ?_
        refine e_if_eqF (M := mX9_next) 128 dX9_next_80 rfl (x_bn ((mb_in (lo := 97) (hi := 122) (f := J 231) (n := n) jb (by decide)).mpr c2)) ?_
        refine e11 _ ?_
        refine f_aload_n (M := mX9_next) 118 dX9_next_117 rfl rfl ?_
        refine f_aload_n (M := mX9_next) 119 dX9_next_118 rfl rfl ?_
        refine e_cV (M := mX9_next) [_, _] 0 0 dX9_next_119 pa_9078 pb_9078 cc_9078 rfl rfl rfl rfl rfl (x_kk rfl) (x_kk rfl) rfl (wk) rfl ?_
        refine e_putI (M := mX9_next) dX9_next_122 fl_9067 (x_kk rfl) (x_kk rfl) rfl (fun q9 => Bool.noConfusion q9) ?_
        refine f_goto (M := mX9_next) 266 dX9_next_125 rfl ?_
        refine e_rv (M := mX9_next) dX9_next_266 rfl (x_kk rfl) (x_kk rfl) ?_
        rfl
      · rw [x_up_self, x_up_ne _ _ z3, hK, x_up_self, x_up_ne _ _ z2]; exact jj j z1 z2
      · rw [x_up_self, x_up_ne _ _ (by decide)]; exact k10
      · rw [x_up_self, x_up_ne _ _ (by decide), k11]; unfold y_bh; rw [if_pos c1, if_pos c2]
      · rw [x_up_self, x_up_self]; unfold y_kd; rw [if_pos c1, if_pos c2]
      · have z1 := z.2.2
        have z2 := c2.2.1
        exact absurd (Int32.le_trans z2 z1) (by decide)
    · by_cases c3 : y_rg g n 48 57 s
      · obtain ⟨m, hm⟩ : ∃ m, y_en g n s = s + m := ⟨y_en g n s - s, by have : s ≤ y_en g n s := fw_ge hsn; omega⟩
        have e11 : ∀ r, x_Ev X mX9_next 225 [some (.ref 225)] [] ((va_up J 225 (va_up (J 225) 11 (Int32.ofNat (s + m))), va_up L 225 (va_up (L 225) 16 (Int32.ofNat (y_nv g s m)).toInt64), R), 233, 0, 0) r → x_Ev X mX9_next 154 [some (.ref 225)] [] ((J, va_up L 225 (va_up (L 225) 16 0), R), 233, 0, 0) r := fun r kk => by
          have l := l_C9 (X := X) (I := J) (L := L) hR hn j9 jb hdg (show s + (n - s) = n by omega) kk (n - s) 0 (by omega) hm
          rw [show s + 0 = s from rfl, up2_self j11, show (Int32.ofNat (y_nv g s 0)).toInt64 = 0 from rfl] at l
          exact l
        have ev : y_vl g n s = y_nv g s m := by unfold y_vl; rw [hm, Nat.add_sub_cancel_left]
        refine ⟨va_up J 225 (va_up (va_up (J 225) 11 (Int32.ofNat (s + m))) 12 4), va_up L 225 (va_up (L 225) 16 (Int32.ofNat (y_nv g s m)).toInt64), lA _ ?_, fun q hq => ⟨(x_up_ne _ _ hq).trans (jf q hq), x_up_ne _ _ hq⟩, fun j z1 z2 z3 => ?_, ?_, ?_, ?_, fun z => ?_⟩
        · refine f_aload_n (M := mX9_next) 43 dX9_next_42 rfl rfl ?_
          refine e_getI (M := mX9_next) dX9_next_43 fl_9057 (x_kk rfl) (x_kk rfl) rfl ?_
          refine f_aload_n (M := mX9_next) 47 dX9_next_46 rfl rfl ?_
          refine e_getI (M := mX9_next) dX9_next_47 fl_9042 (x_kk rfl) (x_kk rfl) rfl ?_
          refine e_icmp_ltT (M := mX9_next) 62 dX9_next_50 rfl (by rw [j10, j9, n_lt (by omega) (by omega)]; exact c1) ?_
          refine f_aload_n (M := mX9_next) 63 dX9_next_62 rfl rfl ?_
          refine f_aload_n (M := mX9_next) 64 dX9_next_63 rfl rfl ?_
          refine e_getI (M := mX9_next) dX9_next_64 fl_9057 (x_kk rfl) (x_kk rfl) rfl ?_
          rw [j10]
          refine e_cV (M := mX9_next) [_] 0 0 dX9_next_67 pa_9063 pb_9063 cc_9063 rfl rfl rfl rfl rfl (x_kk rfl) (x_kk rfl) rfl (c_X9_see (I := J) (j := s) hR hn j9 (by omega)) rfl ?_
          refine f_i2l (M := mX9_next) 71 dX9_next_70 rfl ?_
          refine f_ldc2 (M := mX9_next) 74 dX9_next_71 (x_kk rfl) csl_9070 rfl ?_
          refine f_ldc2 (M := mX9_next) 77 dX9_next_74 (x_kk rfl) csl_9072 rfl ?_
          refine e_cS (M := mX9_next) [_] 0 0 dX9_next_77 pa_9074 cc_9074 rfl rfl rfl rfl rfl (x_kk rfl) (x_kk rfl) rfl (c_let9) rfl ?_
          refine e_if_eqT (M := mX9_next) 128 dX9_next_80 rfl (x_b0 (fun z => c2 ((mb_in (lo := 97) (hi := 122) (f := J 231) (n := n) jb (by decide)).mp z))) ?_
          refine f_aload_n (M := mX9_next) 129 dX9_next_128 rfl rfl ?_
          refine f_aload_n (M := mX9_next) 130 dX9_next_129 rfl rfl ?_
          refine e_getI (M := mX9_next) dX9_next_130 fl_9057 (x_kk rfl) (x_kk rfl) rfl ?_
          rw [j10]
          refine e_cV (M := mX9_next) [_] 0 0 dX9_next_133 pa_9063 pb_9063 cc_9063 rfl rfl rfl rfl rfl (x_kk rfl) (x_kk rfl) rfl (c_X9_see (I := J) (j := s) hR hn j9 (by omega)) rfl ?_
          refine f_i2l (M := mX9_next) 137 dX9_next_136 rfl ?_
          refine f_ldc2 (M := mX9_next) 140 dX9_next_137 (x_kk rfl) csl_9081 rfl ?_
          refine f_ldc2 (M := mX9_next) 143 dX9_next_140 (x_kk rfl) csl_9083 rfl ?_
          refine e_cS (M := mX9_next) [_] 0 0 dX9_next_143 pa_9074 cc_9074 rfl rfl rfl rfl rfl (x_kk rfl) (x_kk rfl) rfl (c_dig9) rfl ?_
          refine e_if_eqF (M := mX9_next) 233 dX9_next_146 rfl (x_bn ((mb_in (lo := 48) (hi := 57) (f := J 231) (n := n) jb (by decide)).mpr c3)) ?_
          refine f_aload_n (M := mX9_next) 150 dX9_next_149 rfl rfl ?_
          refine f_lconst (M := mX9_next) 151 dX9_next_150 kl_0 rfl ?_
          refine e_putL (M := mX9_next) dX9_next_151 fl_9085 (x_kk rfl) (x_kk rfl) rfl (fun q9 => Bool.noConfusion q9) ?_
          refine e11 _ ?_
          refine f_aload_n (M := mX9_next) 226 dX9_next_225 rfl rfl ?_
          refine f_iconst (M := mX9_next) 227 dX9_next_226 ki_4 rfl ?_
          refine e_putI (M := mX9_next) dX9_next_227 fl_9067 (x_kk rfl) (x_kk rfl) rfl (fun q9 => Bool.noConfusion q9) ?_
          refine f_goto (M := mX9_next) 266 dX9_next_230 rfl ?_
          refine e_rv (M := mX9_next) dX9_next_266 rfl (x_kk rfl) (x_kk rfl) ?_
          exact (by rw [up_up, x_up_self])
        · rw [x_up_self, x_up_ne _ _ z3, x_up_ne _ _ z2]; exact jj j z1 z2
        · rw [x_up_self, x_up_ne _ _ (by decide), x_up_ne _ _ (by decide)]; exact j10
        · rw [x_up_self, x_up_ne _ _ (by decide), x_up_self]; unfold y_bh; rw [if_pos c1, if_neg c2, if_pos c3, hm]
        · rw [x_up_self, x_up_self]; unfold y_kd; rw [if_pos c1, if_neg c2, if_pos c3]
        · rw [x_up_self, x_up_self, ev]
      · by_cases c4 : y_rg g n 59 59 s
        · refine ⟨va_up J 225 (va_up (va_up (J 225) 11 (Int32.ofNat (s + 1))) 12 5), L, lA _ ?_, fun q hq => ⟨(x_up_ne _ _ hq).trans (jf q hq), rfl⟩, fun j z1 z2 z3 => ?_, ?_, ?_, ?_, fun z => absurd z c3⟩
          · refine f_aload_n (M := mX9_next) 43 dX9_next_42 rfl rfl ?_
            refine e_getI (M := mX9_next) dX9_next_43 fl_9057 (x_kk rfl) (x_kk rfl) rfl ?_
            refine f_aload_n (M := mX9_next) 47 dX9_next_46 rfl rfl ?_
            refine e_getI (M := mX9_next) dX9_next_47 fl_9042 (x_kk rfl) (x_kk rfl) rfl ?_
            refine e_icmp_ltT (M := mX9_next) 62 dX9_next_50 rfl (by rw [j10, j9, n_lt (by omega) (by omega)]; exact c1) ?_
            refine f_aload_n (M := mX9_next) 63 dX9_next_62 rfl rfl ?_
            refine f_aload_n (M := mX9_next) 64 dX9_next_63 rfl rfl ?_
            refine e_getI (M := mX9_next) dX9_next_64 fl_9057 (x_kk rfl) (x_kk rfl) rfl ?_
            rw [j10]
            refine e_cV (M := mX9_next) [_] 0 0 dX9_next_67 pa_9063 pb_9063 cc_9063 rfl rfl rfl rfl rfl (x_kk rfl) (x_kk rfl) rfl (c_X9_see (I := J) (j := s) hR hn j9 (by omega)) rfl ?_
            refine f_i2l (M := mX9_next) 71 dX9_next_70 rfl ?_
            refine f_ldc2 (M := mX9_next) 74 dX9_next_71 (x_kk rfl) csl_9070 rfl ?_
            refine f_ldc2 (M := mX9_next) 77 dX9_next_74 (x_kk rfl) csl_9072 rfl ?_
            refine e_cS (M := mX9_next) [_] 0 0 dX9_next_77 pa_9074 cc_9074 rfl rfl rfl rfl rfl (x_kk rfl) (x_kk rfl) rfl (c_let9) rfl ?_
            refine e_if_eqT (M := mX9_next) 128 dX9_next_80 rfl (x_b0 (fun z => c2 ((mb_in (lo := 97) (hi := 122) (f := J 231) (n := n) jb (by decide)).mp z))) ?_
            refine f_aload_n (M := mX9_next) 129 dX9_next_128 rfl rfl ?_
            refine f_aload_n (M := mX9_next) 130 dX9_next_129 rfl rfl ?_
            refine e_getI (M := mX9_next) dX9_next_130 fl_9057 (x_kk rfl) (x_kk rfl) rfl ?_
            rw [j10]
            refine e_cV (M := mX9_next) [_] 0 0 dX9_next_133 pa_9063 pb_9063 cc_9063 rfl rfl rfl rfl rfl (x_kk rfl) (x_kk rfl) rfl (c_X9_see (I := J) (j := s) hR hn j9 (by omega)) rfl ?_
            refine f_i2l (M := mX9_next) 137 dX9_next_136 rfl ?_
            refine f_ldc2 (M := mX9_next) 140 dX9_next_137 (x_kk rfl) csl_9081 rfl ?_
            refine f_ldc2 (M := mX9_next) 143 dX9_next_140 (x_kk rfl) csl_9083 rfl ?_
            refine e_cS (M := mX9_next) [_] 0 0 dX9_next_143 pa_9074 cc_9074 rfl rfl rfl rfl rfl (x_kk rfl) (x_kk rfl) rfl (c_dig9) rfl ?_
            refine e_if_eqT (M := mX9_next) 233 dX9_next_146 rfl (x_b0 (fun z => c3 ((mb_in (lo := 48) (hi := 57) (f := J 231) (n := n) jb (by decide)).mp z))) ?_
            refine f_aload_n (M := mX9_next) 234 dX9_next_233 rfl rfl ?_
            refine f_dup (M := mX9_next) 235 dX9_next_234 rfl rfl ?_
            refine e_getI (M := mX9_next) dX9_next_235 fl_9060 (x_kk rfl) (x_kk rfl) rfl ?_
            refine f_iconst (M := mX9_next) 239 dX9_next_238 ki_1 rfl ?_
            refine f_iadd (M := mX9_next) 240 dX9_next_239 rfl ?_
            refine e_putI (M := mX9_next) dX9_next_240 fl_9060 (x_kk rfl) (x_kk rfl) rfl (fun q9 => Bool.noConfusion q9) ?_
            refine f_aload_n (M := mX9_next) 244 dX9_next_243 rfl rfl ?_
            refine f_aload_n (M := mX9_next) 245 dX9_next_244 rfl rfl ?_
            refine f_aload_n (M := mX9_next) 246 dX9_next_245 rfl rfl ?_
            refine e_getI (M := mX9_next) dX9_next_246 fl_9057 (x_kk rfl) (x_kk rfl) rfl ?_
            rw [x_up_self, x_up_ne _ _ (show (10 : Nat) ≠ 11 by decide), j10]
            refine e_cV (M := mX9_next) [_, _] 0 0 dX9_next_249 pa_9063 pb_9063 cc_9063 rfl rfl rfl rfl rfl (x_kk rfl) (x_kk rfl) rfl (c_X9_see (I := va_up J 225 (va_up (J 225) 11 (J 225 11 + 1))) (j := s) hR hn j9 (by omega)) rfl ?_
            refine f_bipush (M := mX9_next) 254 dX9_next_252 kb_59 rfl ?_
            refine e_icmp_neF (M := mX9_next) 261 dX9_next_254 rfl (fun z => z ((mb_eq (v := 59) (f := J 231) (n := n) jb (by decide)).mpr (rg_eq.mp c4))) ?_
            refine f_iconst (M := mX9_next) 258 dX9_next_257 ki_5 rfl ?_
            refine f_goto (M := mX9_next) 263 dX9_next_258 rfl ?_
            refine e_putI (M := mX9_next) dX9_next_263 fl_9067 (x_kk rfl) (x_kk rfl) rfl (fun q9 => Bool.noConfusion q9) ?_
            refine e_rv (M := mX9_next) dX9_next_266 rfl (x_kk rfl) (x_kk rfl) ?_
            exact (by rw [up_up, x_up_self, j11, n_inc])
          · rw [x_up_self, x_up_ne _ _ z3, x_up_ne _ _ z2]; exact jj j z1 z2
          · rw [x_up_self, x_up_ne _ _ (by decide), x_up_ne _ _ (by decide)]; exact j10
          · rw [x_up_self, x_up_ne _ _ (by decide), x_up_self]; unfold y_bh; rw [if_pos c1, if_neg c2, if_neg c3]
          · rw [x_up_self, x_up_self]; unfold y_kd; rw [if_pos c1, if_neg c2, if_neg c3, if_pos c4]
        · refine ⟨va_up J 225 (va_up (va_up (J 225) 11 (Int32.ofNat (s + 1))) 12 7), L, lA _ ?_, fun q hq => ⟨(x_up_ne _ _ hq).trans (jf q hq), rfl⟩, fun j z1 z2 z3 => ?_, ?_, ?_, ?_, fun z => absurd z c3⟩
          · refine f_aload_n (M := mX9_next) 43 dX9_next_42 rfl rfl ?_
            refine e_getI (M := mX9_next) dX9_next_43 fl_9057 (x_kk rfl) (x_kk rfl) rfl ?_
            refine f_aload_n (M := mX9_next) 47 dX9_next_46 rfl rfl ?_
            refine e_getI (M := mX9_next) dX9_next_47 fl_9042 (x_kk rfl) (x_kk rfl) rfl ?_
            refine e_icmp_ltT (M := mX9_next) 62 dX9_next_50 rfl (by rw [j10, j9, n_lt (by omega) (by omega)]; exact c1) ?_
            refine f_aload_n (M := mX9_next) 63 dX9_next_62 rfl rfl ?_
            refine f_aload_n (M := mX9_next) 64 dX9_next_63 rfl rfl ?_
            refine e_getI (M := mX9_next) dX9_next_64 fl_9057 (x_kk rfl) (x_kk rfl) rfl ?_
            rw [j10]
            refine e_cV (M := mX9_next) [_] 0 0 dX9_next_67 pa_9063 pb_9063 cc_9063 rfl rfl rfl rfl rfl (x_kk rfl) (x_kk rfl) rfl (c_X9_see (I := J) (j := s) hR hn j9 (by omega)) rfl ?_
            refine f_i2l (M := mX9_next) 71 dX9_next_70 rfl ?_
            refine f_ldc2 (M := mX9_next) 74 dX9_next_71 (x_kk rfl) csl_9070 rfl ?_
            refine f_ldc2 (M := mX9_next) 77 dX9_next_74 (x_kk rfl) csl_9072 rfl ?_
            refine e_cS (M := mX9_next) [_] 0 0 dX9_next_77 pa_9074 cc_9074 rfl rfl rfl rfl rfl (x_kk rfl) (x_kk rfl) rfl (c_let9) rfl ?_
            refine e_if_eqT (M := mX9_next) 128 dX9_next_80 rfl (x_b0 (fun z => c2 ((mb_in (lo := 97) (hi := 122) (f := J 231) (n := n) jb (by decide)).mp z))) ?_
            refine f_aload_n (M := mX9_next) 129 dX9_next_128 rfl rfl ?_
            refine f_aload_n (M := mX9_next) 130 dX9_next_129 rfl rfl ?_
            refine e_getI (M := mX9_next) dX9_next_130 fl_9057 (x_kk rfl) (x_kk rfl) rfl ?_
            rw [j10]
            refine e_cV (M := mX9_next) [_] 0 0 dX9_next_133 pa_9063 pb_9063 cc_9063 rfl rfl rfl rfl rfl (x_kk rfl) (x_kk rfl) rfl (c_X9_see (I := J) (j := s) hR hn j9 (by omega)) rfl ?_
            refine f_i2l (M := mX9_next) 137 dX9_next_136 rfl ?_
            refine f_ldc2 (M := mX9_next) 140 dX9_next_137 (x_kk rfl) csl_9081 rfl ?_
            refine f_ldc2 (M := mX9_next) 143 dX9_next_140 (x_kk rfl) csl_9083 rfl ?_
            refine e_cS (M := mX9_next) [_] 0 0 dX9_next_143 pa_9074 cc_9074 rfl rfl rfl rfl rfl (x_kk rfl) (x_kk rfl) rfl (c_dig9) rfl ?_
            refine e_if_eqT (M := mX9_next) 233 dX9_next_146 rfl (x_b0 (fun z => c3 ((mb_in (lo := 48) (hi := 57) (f := J 231) (n := n) jb (by decide)).mp z))) ?_
            refine f_aload_n (M := mX9_next) 234 dX9_next_233 rfl rfl ?_
            refine f_dup (M := mX9_next) 235 dX9_next_234 rfl rfl ?_
            refine e_getI (M := mX9_next) dX9_next_235 fl_9060 (x_kk rfl) (x_kk rfl) rfl ?_
            refine f_iconst (M := mX9_next) 239 dX9_next_238 ki_1 rfl ?_
            refine f_iadd (M := mX9_next) 240 dX9_next_239 rfl ?_
            refine e_putI (M := mX9_next) dX9_next_240 fl_9060 (x_kk rfl) (x_kk rfl) rfl (fun q9 => Bool.noConfusion q9) ?_
            refine f_aload_n (M := mX9_next) 244 dX9_next_243 rfl rfl ?_
            refine f_aload_n (M := mX9_next) 245 dX9_next_244 rfl rfl ?_
            refine f_aload_n (M := mX9_next) 246 dX9_next_245 rfl rfl ?_
            refine e_getI (M := mX9_next) dX9_next_246 fl_9057 (x_kk rfl) (x_kk rfl) rfl ?_
            rw [x_up_self, x_up_ne _ _ (show (10 : Nat) ≠ 11 by decide), j10]
            refine e_cV (M := mX9_next) [_, _] 0 0 dX9_next_249 pa_9063 pb_9063 cc_9063 rfl rfl rfl rfl rfl (x_kk rfl) (x_kk rfl) rfl (c_X9_see (I := va_up J 225 (va_up (J 225) 11 (J 225 11 + 1))) (j := s) hR hn j9 (by omega)) rfl ?_
            refine f_bipush (M := mX9_next) 254 dX9_next_252 kb_59 rfl ?_
            refine e_icmp_neT (M := mX9_next) 261 dX9_next_254 rfl (fun z => c4 (rg_eq.mpr ((mb_eq (v := 59) (f := J 231) (n := n) jb (by decide)).mp z))) ?_
            refine f_bipush (M := mX9_next) 263 dX9_next_261 kb_7 rfl ?_
            refine e_putI (M := mX9_next) dX9_next_263 fl_9067 (x_kk rfl) (x_kk rfl) rfl (fun q9 => Bool.noConfusion q9) ?_
            refine e_rv (M := mX9_next) dX9_next_266 rfl (x_kk rfl) (x_kk rfl) ?_
            exact (by rw [up_up, x_up_self, j11, n_inc])
          · rw [x_up_self, x_up_ne _ _ z3, x_up_ne _ _ z2]; exact jj j z1 z2
          · rw [x_up_self, x_up_ne _ _ (by decide), x_up_ne _ _ (by decide)]; exact j10
          · rw [x_up_self, x_up_ne _ _ (by decide), x_up_self]; unfold y_bh; rw [if_pos c1, if_neg c2, if_neg c3]
          · rw [x_up_self, x_up_self]; unfold y_kd; rw [if_pos c1, if_neg c2, if_neg c3, if_neg c4]
  · refine ⟨va_up J 225 (va_up (J 225) 12 6), L, lA _ ?_, fun q hq => ⟨(x_up_ne _ _ hq).trans (jf q hq), rfl⟩, fun j z1 z2 z3 => ?_, ?_, ?_, ?_, fun z => absurd z.1 c1⟩
    · refine f_aload_n (M := mX9_next) 43 dX9_next_42 rfl rfl ?_
      refine e_getI (M := mX9_next) dX9_next_43 fl_9057 (x_kk rfl) (x_kk rfl) rfl ?_
      refine f_aload_n (M := mX9_next) 47 dX9_next_46 rfl rfl ?_
      refine e_getI (M := mX9_next) dX9_next_47 fl_9042 (x_kk rfl) (x_kk rfl) rfl ?_
      refine e_icmp_ltF (M := mX9_next) 62 dX9_next_50 rfl (by rw [j10, j9, n_lt (by omega) (by omega)]; exact c1) ?_
      refine f_aload_n (M := mX9_next) 54 dX9_next_53 rfl rfl ?_
      refine f_bipush (M := mX9_next) 56 dX9_next_54 kb_6 rfl ?_
      refine e_putI (M := mX9_next) dX9_next_56 fl_9067 (x_kk rfl) (x_kk rfl) rfl (fun q9 => Bool.noConfusion q9) ?_
      refine f_goto (M := mX9_next) 266 dX9_next_59 rfl ?_
      refine e_rv (M := mX9_next) dX9_next_266 rfl (x_kk rfl) (x_kk rfl) ?_
      rfl
    · rw [x_up_self, x_up_ne _ _ z3]; exact jj j z1 z2
    · rw [x_up_self, x_up_ne _ _ (by decide)]; exact j10
    · rw [x_up_self, x_up_ne _ _ (by decide), j11]; unfold y_bh; rw [if_neg c1]
    · rw [x_up_self, x_up_self]; unfold y_kd; rw [if_neg c1]
end

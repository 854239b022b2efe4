/-! ===== the class's reader, second: tokens (laid by wip/whole/src/rd2.py) ===== -/
section
variable {X : x_X} {I : Nat → Nat → Int32} {L : Nat → Nat → Int64} {R : Nat → Nat → Option Nat} {N : Nat}
def y_Q (I : Nat → Nat → Int32) (n : Nat) (g : Nat → Int32) (p : Nat) : Prop := n ≤ 800 ∧ I 1 4 = Int32.ofNat n ∧ y_G (I 2) n g ∧ p ≤ n ∧ I 1 5 = Int32.ofNat p
theorem c_st (hR : x_wf R) {n p s : Nat} {g : Nat → Int32} (Q : y_Q I n g p) (hs : y_fw g n 32 32 p = s) : x_Cv X mX5_startOfToken [.ref 1] (I, L, R) 233 (.inl (some (.int (Int32.ofNat s))), (va_up I 1 (va_up (I 1) 5 (Int32.ofNat s)), L, R), 233) := by
  subst hs
  exact c_X5_startOfToken hR Q.1 Q.2.1 Q.2.2.1 Q.2.2.2.1 Q.2.2.2.2
theorem va4 {α : Type} {f : Nat → α} {p q : Nat} (h : p ≠ q) {a b c d : α} : va_up (va_up (va_up (va_up f p a) q b) p c) q d = va_up (va_up f p c) q d := by
  funext j
  unfold va_up
  by_cases e : j = q
  · simp only [if_pos e]
  · by_cases e2 : j = p
    · simp only [if_neg e, if_pos e2]
    · simp only [if_neg e, if_neg e2]
theorem txt_r : ∀ w, 1010 ≤ w → w ≤ 1013 → ∀ i, i < (x_txt w).length → 1 ≤ ((x_txt w).getD i 0).toInt ∧ ((x_txt w).getD i 0).toInt ≤ 127 := by
  intro r h1 h2
  have hr : r = 1010 ∨ r = 1011 ∨ r = 1012 ∨ r = 1013 := by omega
  rcases hr with rfl | rfl | rfl | rfl <;> decide +kernel
theorem c_semi_1 (hR : x_wf R) {n p s : Nat} {g : Nat → Int32} (Q : y_Q I n g p) (hs : y_fw g n 32 32 p = s) (h : y_rg g n 59 59 s) : x_Cv X mX5_readSemicolon [.ref 1] (I, L, R) 233 (.inl (some (.int (1))), (va_up I 1 (va_up (I 1) 5 (Int32.ofNat (s + 1))), L, R), 233) := by
  obtain ⟨hn, hE, G, hp, h5⟩ := id Q
  have hsn : s ≤ n := by rw [← hs]; exact fw_le hp
  show x_Ev X mX5_readSemicolon 0 [some (.ref 1), none] [] ((I, L, R), 233, 0, 0) _
  refine f_aload_n (M := mX5_readSemicolon) 1 dX5_readSemicolon_0 rfl rfl ?_
  refine e_cV (M := mX5_readSemicolon) [_] 0 0 dX5_readSemicolon_1 pa_5095 pb_5095 cc_5095 rfl rfl rfl rfl rfl (x_kk rfl) (x_kk rfl) rfl (c_st hR Q hs) rfl ?_
  refine f_istore_n (M := mX5_readSemicolon) (ls' := [_, _]) 5 dX5_readSemicolon_4 rfl rfl rfl ?_
  refine f_aload_n (M := mX5_readSemicolon) 6 dX5_readSemicolon_5 rfl rfl ?_
  refine f_iload_n (M := mX5_readSemicolon) 7 dX5_readSemicolon_6 rfl rfl ?_
  refine e_cV (M := mX5_readSemicolon) [_] 0 0 dX5_readSemicolon_7 pa_5127 pb_5127 cc_5127 rfl rfl rfl rfl rfl (x_kk rfl) (x_kk rfl) rfl (c_X5_byteAt (I := (va_up I 1 (va_up (I 1) 5 (Int32.ofNat s)))) (j := s) hR hn hE (by omega)) rfl ?_
  refine f_bipush (M := mX5_readSemicolon) 12 dX5_readSemicolon_10 kb_59 rfl ?_
  refine e_icmp_eqT (M := mX5_readSemicolon) 23 dX5_readSemicolon_12 rfl ((cb_eq (v := 59) (f := I 2) G (by decide) (by decide)).mpr (rg_eq.mp h)) ?_
  refine f_aload_n (M := mX5_readSemicolon) 24 dX5_readSemicolon_23 rfl rfl ?_
  refine f_iload_n (M := mX5_readSemicolon) 25 dX5_readSemicolon_24 rfl rfl ?_
  refine f_iconst (M := mX5_readSemicolon) 26 dX5_readSemicolon_25 ki_1 rfl ?_
  refine f_iadd (M := mX5_readSemicolon) 27 dX5_readSemicolon_26 rfl ?_
  refine e_putI (M := mX5_readSemicolon) dX5_readSemicolon_27 fl_5025 (x_kk rfl) (x_kk rfl) rfl (fun q9 => Bool.noConfusion q9) ?_
  refine f_iconst (M := mX5_readSemicolon) 31 dX5_readSemicolon_30 ki_1 rfl ?_
  refine e_rb (M := mX5_readSemicolon) dX5_readSemicolon_31 rfl (x_kk rfl) (x_kk rfl) (by decide) ?_
  exact (by rw [up_up, x_up_self, va_uu, n_inc])
theorem c_semi_0 (hR : x_wf R) {n p s : Nat} {g : Nat → Int32} (Q : y_Q I n g p) (hs : y_fw g n 32 32 p = s) (h : ¬ y_rg g n 59 59 s) : x_Cv X mX5_readSemicolon [.ref 1] (I, L, R) 233 (.inl (some (.int (0))), ((va_up I 1 (va_up (va_up (va_up (I 1) 5 (Int32.ofNat s)) 3 (-2)) 2 (Int32.ofNat s))), L, R), 233) := by
  obtain ⟨hn, hE, G, hp, h5⟩ := id Q
  have hsn : s ≤ n := by rw [← hs]; exact fw_le hp
  show x_Ev X mX5_readSemicolon 0 [some (.ref 1), none] [] ((I, L, R), 233, 0, 0) _
  refine f_aload_n (M := mX5_readSemicolon) 1 dX5_readSemicolon_0 rfl rfl ?_
  refine e_cV (M := mX5_readSemicolon) [_] 0 0 dX5_readSemicolon_1 pa_5095 pb_5095 cc_5095 rfl rfl rfl rfl rfl (x_kk rfl) (x_kk rfl) rfl (c_st hR Q hs) rfl ?_
  refine f_istore_n (M := mX5_readSemicolon) (ls' := [_, _]) 5 dX5_readSemicolon_4 rfl rfl rfl ?_
  refine f_aload_n (M := mX5_readSemicolon) 6 dX5_readSemicolon_5 rfl rfl ?_
  refine f_iload_n (M := mX5_readSemicolon) 7 dX5_readSemicolon_6 rfl rfl ?_
  refine e_cV (M := mX5_readSemicolon) [_] 0 0 dX5_readSemicolon_7 pa_5127 pb_5127 cc_5127 rfl rfl rfl rfl rfl (x_kk rfl) (x_kk rfl) rfl (c_X5_byteAt (I := (va_up I 1 (va_up (I 1) 5 (Int32.ofNat s)))) (j := s) hR hn hE (by omega)) rfl ?_
  refine f_bipush (M := mX5_readSemicolon) 12 dX5_readSemicolon_10 kb_59 rfl ?_
  refine e_icmp_eqF (M := mX5_readSemicolon) 23 dX5_readSemicolon_12 rfl (fun z => h (rg_eq.mpr ((cb_eq (v := 59) (f := I 2) G (by decide) (by decide)).mp z))) ?_
  refine f_aload_n (M := mX5_readSemicolon) 16 dX5_readSemicolon_15 rfl rfl ?_
  refine f_bipush (M := mX5_readSemicolon) 18 dX5_readSemicolon_16 kb_m2 rfl ?_
  refine f_iload_n (M := mX5_readSemicolon) 19 dX5_readSemicolon_18 rfl rfl ?_
  refine e_cV (M := mX5_readSemicolon) [_] 0 0 dX5_readSemicolon_19 pa_5070 pb_5070 cc_5070 rfl rfl rfl rfl rfl (x_kk rfl) (x_kk rfl) rfl (c_X5_fail) rfl ?_
  refine e_rb (M := mX5_readSemicolon) dX5_readSemicolon_22 rfl (x_kk rfl) (x_kk rfl) (by decide) ?_
  exact (by rw [up_up, x_up_self])
theorem c_end_1 (hR : x_wf R) {n p s : Nat} {g : Nat → Int32} (Q : y_Q I n g p) (hs : y_fw g n 32 32 p = s) (h : s = n) : x_Cv X mX5_readEnd [.ref 1] (I, L, R) 233 (.inl (some (.int (1))), ((va_up I 1 (va_up (I 1) 5 (Int32.ofNat s))), L, R), 233) := by
  obtain ⟨hn, hE, G, hp, h5⟩ := id Q
  have hsn : s ≤ n := by rw [← hs]; exact fw_le hp
  show x_Ev X mX5_readEnd 0 [some (.ref 1), none] [] ((I, L, R), 233, 0, 0) _
  refine f_aload_n (M := mX5_readEnd) 1 dX5_readEnd_0 rfl rfl ?_
  refine e_cV (M := mX5_readEnd) [_] 0 0 dX5_readEnd_1 pa_5095 pb_5095 cc_5095 rfl rfl rfl rfl rfl (x_kk rfl) (x_kk rfl) rfl (c_st hR Q hs) rfl ?_
  refine f_istore_n (M := mX5_readEnd) (ls' := [_, _]) 5 dX5_readEnd_4 rfl rfl rfl ?_
  refine f_iload_n (M := mX5_readEnd) 6 dX5_readEnd_5 rfl rfl ?_
  refine f_aload_n (M := mX5_readEnd) 7 dX5_readEnd_6 rfl rfl ?_
  refine e_getI (M := mX5_readEnd) dX5_readEnd_7 fl_5022 (x_kk rfl) (x_kk rfl) rfl ?_
  refine e_icmp_eqT (M := mX5_readEnd) 23 dX5_readEnd_10 rfl (by show Int32.ofNat s = I 1 4; rw [hE, h]) ?_
  refine f_iconst (M := mX5_readEnd) 24 dX5_readEnd_23 ki_1 rfl ?_
  refine f_goto (M := mX5_readEnd) 28 dX5_readEnd_24 rfl ?_
  refine e_rb (M := mX5_readEnd) dX5_readEnd_28 rfl (x_kk rfl) (x_kk rfl) (by decide) ?_
  rfl
theorem c_end_0 (hR : x_wf R) {n p s : Nat} {g : Nat → Int32} (Q : y_Q I n g p) (hs : y_fw g n 32 32 p = s) (h : ¬ s = n) : x_Cv X mX5_readEnd [.ref 1] (I, L, R) 233 (.inl (some (.int (0))), ((va_up I 1 (va_up (va_up (va_up (I 1) 5 (Int32.ofNat s)) 3 (-2)) 2 (Int32.ofNat s))), L, R), 233) := by
  obtain ⟨hn, hE, G, hp, h5⟩ := id Q
  have hsn : s ≤ n := by rw [← hs]; exact fw_le hp
  show x_Ev X mX5_readEnd 0 [some (.ref 1), none] [] ((I, L, R), 233, 0, 0) _
  refine f_aload_n (M := mX5_readEnd) 1 dX5_readEnd_0 rfl rfl ?_
  refine e_cV (M := mX5_readEnd) [_] 0 0 dX5_readEnd_1 pa_5095 pb_5095 cc_5095 rfl rfl rfl rfl rfl (x_kk rfl) (x_kk rfl) rfl (c_st hR Q hs) rfl ?_
  refine f_istore_n (M := mX5_readEnd) (ls' := [_, _]) 5 dX5_readEnd_4 rfl rfl rfl ?_
  refine f_iload_n (M := mX5_readEnd) 6 dX5_readEnd_5 rfl rfl ?_
  refine f_aload_n (M := mX5_readEnd) 7 dX5_readEnd_6 rfl rfl ?_
  refine e_getI (M := mX5_readEnd) dX5_readEnd_7 fl_5022 (x_kk rfl) (x_kk rfl) rfl ?_
  refine e_icmp_eqF (M := mX5_readEnd) 23 dX5_readEnd_10 rfl (by show ¬ Int32.ofNat s = I 1 4; rw [hE, n_eq (by omega) (by omega)]; exact h) ?_
  refine f_aload_n (M := mX5_readEnd) 14 dX5_readEnd_13 rfl rfl ?_
  refine f_bipush (M := mX5_readEnd) 16 dX5_readEnd_14 kb_m2 rfl ?_
  refine f_iload_n (M := mX5_readEnd) 17 dX5_readEnd_16 rfl rfl ?_
  refine e_cV (M := mX5_readEnd) [_] 0 0 dX5_readEnd_17 pa_5070 pb_5070 cc_5070 rfl rfl rfl rfl rfl (x_kk rfl) (x_kk rfl) rfl (c_X5_fail) rfl ?_
  refine e_if_eqT (M := mX5_readEnd) 27 dX5_readEnd_20 rfl (show (0 : Int32) = 0 by decide) ?_
  refine f_iconst (M := mX5_readEnd) 28 dX5_readEnd_27 ki_0 rfl ?_
  refine e_rb (M := mX5_readEnd) dX5_readEnd_28 rfl (x_kk rfl) (x_kk rfl) (by decide) ?_
  exact (by rw [up_up, x_up_self])
theorem l_word_1 (hR : x_wf R) {n s : Nat} {g : Nat → Int32} (hn : n ≤ 800) (hE : I 1 4 = Int32.ofNat n) (G : y_G (I 2) n g) (hsn : s ≤ n) {w : Nat} (w1 : 1010 ≤ w) (w2 : w ≤ 1013) {l : Nat} (hl : (x_txt w).length = l) (l20 : l < 20) (hw : y_wd g n w s) : ∀ d k, k + d = l → x_Ev X mX5_readWord 7 [some (.ref 1), some (.ref w), some (.int (Int32.ofNat s)), some (.int (Int32.ofNat k))] [] ((I, L, R), 233, 0, 0) (.inl (some (.int (1))), (va_up I 1 (va_up (I 1) 5 (Int32.ofNat (s + l))), L, R), 233) := by
  intro d
  induction d with
  | zero =>
    intro k hd
    obtain rfl : l = k := by omega
    refine f_iload_n (M := mX5_readWord) 8 dX5_readWord_7 rfl rfl ?_
    refine f_aload_n (M := mX5_readWord) 9 dX5_readWord_8 rfl rfl ?_
    refine e_sln (M := mX5_readWord) dX5_readWord_9 sl_5122 (x_kk rfl) w1 w2 (x_kk rfl) (x_kk rfl) (x_kk rfl) ?_
    refine e_icmp_geT (M := mX5_readWord) 38 dX5_readWord_12 rfl (by rw [hl]; exact Int32.le_refl _) ?_
    refine f_iload_n (M := mX5_readWord) 39 dX5_readWord_38 rfl rfl ?_
    refine f_aload_n (M := mX5_readWord) 40 dX5_readWord_39 rfl rfl ?_
    refine e_sln (M := mX5_readWord) dX5_readWord_40 sl_5122 (x_kk rfl) w1 w2 (x_kk rfl) (x_kk rfl) (x_kk rfl) ?_
    rw [hl]
    refine f_iadd (M := mX5_readWord) 44 dX5_readWord_43 rfl ?_
    rw [show Int32.ofNat s + Int32.ofNat l = Int32.ofNat (s + l) from ix_add rfl rfl]
    refine f_istore_n (M := mX5_readWord) (ls' := [_, _, _, _]) 45 dX5_readWord_44 rfl rfl rfl ?_
    refine f_aload_n (M := mX5_readWord) 46 dX5_readWord_45 rfl rfl ?_
    refine f_aload_n (M := mX5_readWord) 47 dX5_readWord_46 rfl rfl ?_
    refine f_iload_n (M := mX5_readWord) 48 dX5_readWord_47 rfl rfl ?_
    refine e_cV (M := mX5_readWord) [_, _] 0 0 dX5_readWord_48 pa_5127 pb_5127 cc_5127 rfl rfl rfl rfl rfl (x_kk rfl) (x_kk rfl) rfl (c_X5_byteAt (I := I) (j := s + l) hR hn hE (by omega)) rfl ?_
    refine e_cV (M := mX5_readWord) [_] 0 0 dX5_readWord_51 pa_5135 pb_5135 cc_5135 rfl rfl rfl rfl rfl (x_kk rfl) (x_kk rfl) rfl (c_X5_isLetter) rfl ?_
    refine e_if_eqT (M := mX5_readWord) 59 dX5_readWord_54 rfl (x_b0 (fun z => hw.2 (by rw [hl]; exact (cb_in (lo := 97) (hi := 122) (f := I 2) (j := s + l) G (by decide) (by decide)).mp z))) ?_
    refine f_aload_n (M := mX5_readWord) 60 dX5_readWord_59 rfl rfl ?_
    refine f_iload_n (M := mX5_readWord) 61 dX5_readWord_60 rfl rfl ?_
    refine e_putI (M := mX5_readWord) dX5_readWord_61 fl_5025 (x_kk rfl) (x_kk rfl) rfl (fun q9 => Bool.noConfusion q9) ?_
    refine f_iconst (M := mX5_readWord) 65 dX5_readWord_64 ki_1 rfl ?_
    refine e_rb (M := mX5_readWord) dX5_readWord_65 rfl (x_kk rfl) (x_kk rfl) (by decide) ?_
    rfl
  | succ d ih =>
    intro k hd
    refine f_iload_n (M := mX5_readWord) 8 dX5_readWord_7 rfl rfl ?_
    refine f_aload_n (M := mX5_readWord) 9 dX5_readWord_8 rfl rfl ?_
    refine e_sln (M := mX5_readWord) dX5_readWord_9 sl_5122 (x_kk rfl) w1 w2 (x_kk rfl) (x_kk rfl) (x_kk rfl) ?_
    refine e_icmp_geF (M := mX5_readWord) 38 dX5_readWord_12 rfl (by rw [hl, n_le (by omega) (by omega)]; omega) ?_
    refine f_aload_n (M := mX5_readWord) 16 dX5_readWord_15 rfl rfl ?_
    refine f_iload_n (M := mX5_readWord) 17 dX5_readWord_16 rfl rfl ?_
    refine f_iload_n (M := mX5_readWord) 18 dX5_readWord_17 rfl rfl ?_
    refine f_iadd (M := mX5_readWord) 19 dX5_readWord_18 rfl ?_
    rw [show Int32.ofNat s + Int32.ofNat k = Int32.ofNat (s + k) from ix_add rfl rfl]
    refine e_cV (M := mX5_readWord) [_] 0 0 dX5_readWord_19 pa_5127 pb_5127 cc_5127 rfl rfl rfl rfl rfl (x_kk rfl) (x_kk rfl) rfl (c_X5_byteAt (I := I) (j := s + k) hR hn hE (by omega)) rfl ?_
    refine f_aload_n (M := mX5_readWord) 23 dX5_readWord_22 rfl rfl ?_
    refine f_iload_n (M := mX5_readWord) 24 dX5_readWord_23 rfl rfl ?_
    refine e_sch (M := mX5_readWord) (j := k) dX5_readWord_24 sn_5131 sc_5131 (x_kk rfl) w1 w2 (x_kk rfl) (x_kk rfl) rfl (by omega) rfl (x_kk rfl) ?_
    refine e_icmp_eqT (M := mX5_readWord) 32 dX5_readWord_27 rfl ((cb_eq (f := I 2) (j := s + k) G (txt_r w w1 w2 k (by omega)).1 (txt_r w w1 w2 k (by omega)).2).mpr (hw.1 k (by omega))) ?_
    refine f_iinc (M := mX5_readWord) (ls' := [_, _, _, _]) 35 dX5_readWord_32 ki_1 rfl rfl rfl rfl ?_
    refine f_goto (M := mX5_readWord) 7 dX5_readWord_35 rfl ?_
    rw [n_inc (s := k)]; exact ih (k + 1) (by omega)
theorem l_word_0 (hR : x_wf R) {n s : Nat} {g : Nat → Int32} (hn : n ≤ 800) (hE : I 1 4 = Int32.ofNat n) (G : y_G (I 2) n g) (hsn : s ≤ n) {w : Nat} (w1 : 1010 ≤ w) (w2 : w ≤ 1013) {l : Nat} (hl : (x_txt w).length = l) (l20 : l < 20) (hw : ¬ y_wd g n w s) : ∀ d k, k + d = l → (∀ i, i < k → s + i < n ∧ g (s + i) = (x_txt w).getD i 0) → x_Ev X mX5_readWord 7 [some (.ref 1), some (.ref w), some (.int (Int32.ofNat s)), some (.int (Int32.ofNat k))] [] ((I, L, R), 233, 0, 0) (.inl (some (.int (0))), (I, L, R), 233) := by
  intro d
  induction d with
  | zero =>
    intro k hd he
    obtain rfl : l = k := by omega
    refine f_iload_n (M := mX5_readWord) 8 dX5_readWord_7 rfl rfl ?_
    refine f_aload_n (M := mX5_readWord) 9 dX5_readWord_8 rfl rfl ?_
    refine e_sln (M := mX5_readWord) dX5_readWord_9 sl_5122 (x_kk rfl) w1 w2 (x_kk rfl) (x_kk rfl) (x_kk rfl) ?_
    refine e_icmp_geT (M := mX5_readWord) 38 dX5_readWord_12 rfl (by rw [hl]; exact Int32.le_refl _) ?_
    refine f_iload_n (M := mX5_readWord) 39 dX5_readWord_38 rfl rfl ?_
    refine f_aload_n (M := mX5_readWord) 40 dX5_readWord_39 rfl rfl ?_
    refine e_sln (M := mX5_readWord) dX5_readWord_40 sl_5122 (x_kk rfl) w1 w2 (x_kk rfl) (x_kk rfl) (x_kk rfl) ?_
    rw [hl]
    refine f_iadd (M := mX5_readWord) 44 dX5_readWord_43 rfl ?_
    rw [show Int32.ofNat s + Int32.ofNat l = Int32.ofNat (s + l) from ix_add rfl rfl]
    refine f_istore_n (M := mX5_readWord) (ls' := [_, _, _, _]) 45 dX5_readWord_44 rfl rfl rfl ?_
    refine f_aload_n (M := mX5_readWord) 46 dX5_readWord_45 rfl rfl ?_
    refine f_aload_n (M := mX5_readWord) 47 dX5_readWord_46 rfl rfl ?_
    refine f_iload_n (M := mX5_readWord) 48 dX5_readWord_47 rfl rfl ?_
    refine e_cV (M := mX5_readWord) [_, _] 0 0 dX5_readWord_48 pa_5127 pb_5127 cc_5127 rfl rfl rfl rfl rfl (x_kk rfl) (x_kk rfl) rfl (c_X5_byteAt (I := I) (j := s + l) hR hn hE (by omega)) rfl ?_
    refine e_cV (M := mX5_readWord) [_] 0 0 dX5_readWord_51 pa_5135 pb_5135 cc_5135 rfl rfl rfl rfl rfl (x_kk rfl) (x_kk rfl) rfl (c_X5_isLetter) rfl ?_
    refine e_if_eqF (M := mX5_readWord) 59 dX5_readWord_54 rfl (x_bn ((cb_in (lo := 97) (hi := 122) (f := I 2) (j := s + l) G (by decide) (by decide)).mpr (Decidable.byContradiction (fun z => hw ⟨fun i hi => he i (by omega), by rw [hl]; exact z⟩)))) ?_
    refine f_iconst (M := mX5_readWord) 58 dX5_readWord_57 ki_0 rfl ?_
    refine e_rb (M := mX5_readWord) dX5_readWord_58 rfl (x_kk rfl) (x_kk rfl) (by decide) ?_
    rfl
  | succ d ih =>
    intro k hd he
    refine f_iload_n (M := mX5_readWord) 8 dX5_readWord_7 rfl rfl ?_
    refine f_aload_n (M := mX5_readWord) 9 dX5_readWord_8 rfl rfl ?_
    refine e_sln (M := mX5_readWord) dX5_readWord_9 sl_5122 (x_kk rfl) w1 w2 (x_kk rfl) (x_kk rfl) (x_kk rfl) ?_
    refine e_icmp_geF (M := mX5_readWord) 38 dX5_readWord_12 rfl (by rw [hl, n_le (by omega) (by omega)]; omega) ?_
    refine f_aload_n (M := mX5_readWord) 16 dX5_readWord_15 rfl rfl ?_
    refine f_iload_n (M := mX5_readWord) 17 dX5_readWord_16 rfl rfl ?_
    refine f_iload_n (M := mX5_readWord) 18 dX5_readWord_17 rfl rfl ?_
    refine f_iadd (M := mX5_readWord) 19 dX5_readWord_18 rfl ?_
    rw [show Int32.ofNat s + Int32.ofNat k = Int32.ofNat (s + k) from ix_add rfl rfl]
    refine e_cV (M := mX5_readWord) [_] 0 0 dX5_readWord_19 pa_5127 pb_5127 cc_5127 rfl rfl rfl rfl rfl (x_kk rfl) (x_kk rfl) rfl (c_X5_byteAt (I := I) (j := s + k) hR hn hE (by omega)) rfl ?_
    refine f_aload_n (M := mX5_readWord) 23 dX5_readWord_22 rfl rfl ?_
    refine f_iload_n (M := mX5_readWord) 24 dX5_readWord_23 rfl rfl ?_
    refine e_sch (M := mX5_readWord) (j := k) dX5_readWord_24 sn_5131 sc_5131 (x_kk rfl) w1 w2 (x_kk rfl) (x_kk rfl) rfl (by omega) rfl (x_kk rfl) ?_
    refine e_icmp_eq (M := mX5_readWord) (t := 32) dX5_readWord_27 rfl (fun h1 => ?_) (fun h1 => ?_)
    · refine f_iinc (M := mX5_readWord) (ls' := [_, _, _, _]) 35 dX5_readWord_32 ki_1 rfl rfl rfl rfl ?_
      refine f_goto (M := mX5_readWord) 7 dX5_readWord_35 rfl ?_
      rw [n_inc (s := k)]; exact ih (k + 1) (by omega) (fun i hi => (Nat.lt_succ_iff_lt_or_eq.mp hi).elim (fun z => he i z) (fun z => by rw [z]; exact (cb_eq (f := I 2) (j := s + k) G (txt_r w w1 w2 k (by omega)).1 (txt_r w w1 w2 k (by omega)).2).mp h1))
    · refine f_iconst (M := mX5_readWord) 31 dX5_readWord_30 ki_0 rfl ?_
      refine e_rb (M := mX5_readWord) dX5_readWord_31 rfl (x_kk rfl) (x_kk rfl) (by decide) ?_
      rfl
theorem c_word_1 (hR : x_wf R) {n p s : Nat} {g : Nat → Int32} (Q : y_Q I n g p) (hs : y_fw g n 32 32 p = s) {w : Nat} (w1 : 1010 ≤ w) (w2 : w ≤ 1013) (h : y_wd g n w s) : x_Cv X mX5_readWord [.ref 1, .ref w] (I, L, R) 233 (.inl (some (.int (1))), (va_up I 1 (va_up (I 1) 5 (Int32.ofNat (s + (x_txt w).length))), L, R), 233) := by
  obtain ⟨hn, hE, G, hp, h5⟩ := id Q
  have hsn : s ≤ n := by rw [← hs]; exact fw_le hp
  show x_Ev X mX5_readWord 0 [some (.ref 1), some (.ref w), none, none] [] ((I, L, R), 233, 0, 0) _
  refine f_aload_n (M := mX5_readWord) 1 dX5_readWord_0 rfl rfl ?_
  refine e_cV (M := mX5_readWord) [_] 0 0 dX5_readWord_1 pa_5095 pb_5095 cc_5095 rfl rfl rfl rfl rfl (x_kk rfl) (x_kk rfl) rfl (c_st hR Q hs) rfl ?_
  refine f_istore_n (M := mX5_readWord) (ls' := [_, _, _, _]) 5 dX5_readWord_4 rfl rfl rfl ?_
  refine f_iconst (M := mX5_readWord) 6 dX5_readWord_5 ki_0 rfl ?_
  refine f_istore_n (M := mX5_readWord) (ls' := [_, _, _, _]) 7 dX5_readWord_6 rfl rfl rfl ?_
  have e := l_word_1 (X := X) (I := (va_up I 1 (va_up (I 1) 5 (Int32.ofNat s)))) (L := L) hR hn hE G hsn w1 w2 rfl (x_txt_len w w1 w2) h (x_txt w).length 0 (by omega); rw [up_up, x_up_self, va_uu] at e; exact e
theorem c_word_0 (hR : x_wf R) {n p s : Nat} {g : Nat → Int32} (Q : y_Q I n g p) (hs : y_fw g n 32 32 p = s) {w : Nat} (w1 : 1010 ≤ w) (w2 : w ≤ 1013) (h : ¬ y_wd g n w s) : x_Cv X mX5_readWord [.ref 1, .ref w] (I, L, R) 233 (.inl (some (.int (0))), ((va_up I 1 (va_up (I 1) 5 (Int32.ofNat s))), L, R), 233) := by
  obtain ⟨hn, hE, G, hp, h5⟩ := id Q
  have hsn : s ≤ n := by rw [← hs]; exact fw_le hp
  show x_Ev X mX5_readWord 0 [some (.ref 1), some (.ref w), none, none] [] ((I, L, R), 233, 0, 0) _
  refine f_aload_n (M := mX5_readWord) 1 dX5_readWord_0 rfl rfl ?_
  refine e_cV (M := mX5_readWord) [_] 0 0 dX5_readWord_1 pa_5095 pb_5095 cc_5095 rfl rfl rfl rfl rfl (x_kk rfl) (x_kk rfl) rfl (c_st hR Q hs) rfl ?_
  refine f_istore_n (M := mX5_readWord) (ls' := [_, _, _, _]) 5 dX5_readWord_4 rfl rfl rfl ?_
  refine f_iconst (M := mX5_readWord) 6 dX5_readWord_5 ki_0 rfl ?_
  refine f_istore_n (M := mX5_readWord) (ls' := [_, _, _, _]) 7 dX5_readWord_6 rfl rfl rfl ?_
  exact l_word_0 (X := X) (I := (va_up I 1 (va_up (I 1) 5 (Int32.ofNat s)))) (L := L) hR hn hE G hsn w1 w2 rfl (x_txt_len w w1 w2) h (x_txt w).length 0 (by omega) (fun i hi => absurd hi (Nat.not_lt_zero _))
section
variable {g : Nat → Int32} {n : Nat}
theorem nx_e {v d : Nat} {x : Int32} (hx : x.toInt = 48 + (d : Int)) (hd : d ≤ 9) (hv : v ≤ 100000400) : (if (10000000 : Int32) < Int32.ofNat (min v 10000000) * 10 + x - 48 then 10000000 else Int32.ofNat (min v 10000000) * 10 + x - 48) = Int32.ofNat (min (if v < 10000000 then 10 * v + d else v) 10000000) := by
  have e0 : (Int32.ofNat (min v 10000000)).toInt = ((min v 10000000 : Nat) : Int) := t_n (by omega)
  have k10 : (10 : Int32).toInt = 10 := by decide
  have k48 : (48 : Int32).toInt = 48 := by decide
  have kM : (10000000 : Int32).toInt = 10000000 := by decide
  have e1 : (Int32.ofNat (min v 10000000) * 10).toInt = ((min v 10000000 : Nat) : Int) * 10 := by rw [t_mul (by rw [e0, k10]; omega) (by rw [e0, k10]; omega), e0, k10]
  have e2 : (Int32.ofNat (min v 10000000) * 10 + x).toInt = ((min v 10000000 : Nat) : Int) * 10 + (48 + d) := by rw [t_add (by rw [e1, hx]; omega) (by rw [e1, hx]; omega), e1, hx]
  have e3 : (Int32.ofNat (min v 10000000) * 10 + x - 48).toInt = ((min v 10000000 : Nat) : Int) * 10 + d := by rw [t_sub (by rw [e2, k48]; omega) (by rw [e2, k48]; omega), e2, k48]; omega
  have e4 : ∀ m : Nat, m < 1000000000 → (Int32.ofNat m).toInt = (m : Int) := fun m h => t_n h
  by_cases q : (10000000 : Int32) < Int32.ofNat (min v 10000000) * 10 + x - 48
  · rw [if_pos q]
    rw [t_lt, e3, kM] at q
    rw [t_eq, kM, e4 _ (by split <;> omega)]
    split <;> omega
  · rw [if_neg q]
    rw [t_lt, e3, kM] at q
    rw [t_eq, e3, e4 _ (by split <;> omega)]
    split <;> omega
theorem dg_b {f : Nat → Int32} (G : y_G f n g) : ∀ q, q < n → y_dg g q ≤ 300 := fun q hq => by
  have := (G q hq).2.2
  unfold y_dg
  omega
end
theorem l_num (hR : x_wf R) {n s b m : Nat} {g : Nat → Int32} (hn : n ≤ 800) (hE : I 1 4 = Int32.ofNat n) (G : y_G (I 2) n g) (hb : s + b = n) {lo hi : Int32} {r : x_O × x_Mem × Nat} {w4 : Option Value} (kk : ∀ w4, x_Ev X mX5_readNumber 101 [some (.ref 1), some (.int lo), some (.int hi), some (.int (Int32.ofNat s)), w4] [] (((va_up I 1 (va_up (va_up (I 1) 6 (Int32.ofNat (min (y_nv g s (m)) 10000000))) 5 (Int32.ofNat (s + m)))), L, R), 233, 0, 0) r) : ∀ d k, k + d = b → y_fw g n 48 57 (s + k) = s + m → x_Ev X mX5_readNumber 30 [some (.ref 1), some (.int lo), some (.int hi), some (.int (Int32.ofNat s)), w4] [] (((va_up I 1 (va_up (va_up (I 1) 6 (Int32.ofNat (min (y_nv g s (k)) 10000000))) 5 (Int32.ofNat (s + k)))), L, R), 233, 0, 0) r := by
  intro d
  induction d generalizing w4 with
  | zero =>
    intro k hd he
    obtain rfl : b = k := by omega
    refine f_aload_n (M := mX5_readNumber) 31 dX5_readNumber_30 rfl rfl ?_
    refine e_getI (M := mX5_readNumber) dX5_readNumber_31 fl_5025 (x_kk rfl) (x_kk rfl) rfl ?_
    refine f_aload_n (M := mX5_readNumber) 35 dX5_readNumber_34 rfl rfl ?_
    refine e_getI (M := mX5_readNumber) dX5_readNumber_35 fl_5022 (x_kk rfl) (x_kk rfl) rfl ?_
    refine e_icmp_geT (M := mX5_readNumber) 101 dX5_readNumber_38 rfl (by show I 1 4 ≤ Int32.ofNat (s + b); rw [hE, hb]; exact Int32.le_refl _) ?_
    rw [fw_0 (fun z => by have := z.1; omega)] at he; obtain rfl : m = b := by omega
    exact kk _
  | succ d ih =>
    intro k hd he
    refine f_aload_n (M := mX5_readNumber) 31 dX5_readNumber_30 rfl rfl ?_
    refine e_getI (M := mX5_readNumber) dX5_readNumber_31 fl_5025 (x_kk rfl) (x_kk rfl) rfl ?_
    refine f_aload_n (M := mX5_readNumber) 35 dX5_readNumber_34 rfl rfl ?_
    refine e_getI (M := mX5_readNumber) dX5_readNumber_35 fl_5022 (x_kk rfl) (x_kk rfl) rfl ?_
    refine e_icmp_geF (M := mX5_readNumber) 101 dX5_readNumber_38 rfl (by show ¬ I 1 4 ≤ Int32.ofNat (s + k); rw [hE, n_le (by omega) (by omega)]; omega) ?_
    refine f_aload_n (M := mX5_readNumber) 42 dX5_readNumber_41 rfl rfl ?_
    refine f_aload_n (M := mX5_readNumber) 43 dX5_readNumber_42 rfl rfl ?_
    refine f_aload_n (M := mX5_readNumber) 44 dX5_readNumber_43 rfl rfl ?_
    refine e_getI (M := mX5_readNumber) dX5_readNumber_44 fl_5025 (x_kk rfl) (x_kk rfl) rfl ?_
    rw [x_up_self, x_up_self]
    refine e_cV (M := mX5_readNumber) [_, _] 0 0 dX5_readNumber_47 pa_5127 pb_5127 cc_5127 rfl rfl rfl rfl rfl (x_kk rfl) (x_kk rfl) rfl (c_X5_byteAt (I := (va_up I 1 (va_up (va_up (I 1) 6 (Int32.ofNat (min (y_nv g s (k)) 10000000))) 5 (Int32.ofNat (s + k))))) (j := s + k) hR hn hE (by omega)) rfl ?_
    refine e_cV (M := mX5_readNumber) [_] 0 0 dX5_readNumber_50 pa_5139 pb_5139 cc_5139 rfl rfl rfl rfl rfl (x_kk rfl) (x_kk rfl) rfl (c_X5_isDigit) rfl ?_
    refine e_if_eq (M := mX5_readNumber) (t := 101) dX5_readNumber_53 rfl (fun h1 => ?_) (fun h1 => ?_)
    · rw [fw_0 (fun z => x_bF h1 ((cb_in (lo := 48) (hi := 57) (f := I 2) (j := s + k) G (by decide) (by decide)).mpr z))] at he; obtain rfl : m = k := by omega
      exact kk _
    · refine f_aload_n (M := mX5_readNumber) 57 dX5_readNumber_56 rfl rfl ?_
      refine e_getI (M := mX5_readNumber) dX5_readNumber_57 fl_5089 (x_kk rfl) (x_kk rfl) rfl ?_
      refine f_bipush (M := mX5_readNumber) 62 dX5_readNumber_60 kb_10 rfl ?_
      refine f_imul (M := mX5_readNumber) 63 dX5_readNumber_62 rfl ?_
      refine f_aload_n (M := mX5_readNumber) 64 dX5_readNumber_63 rfl rfl ?_
      refine f_aload_n (M := mX5_readNumber) 65 dX5_readNumber_64 rfl rfl ?_
      refine e_getI (M := mX5_readNumber) dX5_readNumber_65 fl_5025 (x_kk rfl) (x_kk rfl) rfl ?_
      rw [x_up_self, x_up_self]
      refine e_cV (M := mX5_readNumber) [_, _] 0 0 dX5_readNumber_68 pa_5127 pb_5127 cc_5127 rfl rfl rfl rfl rfl (x_kk rfl) (x_kk rfl) rfl (c_X5_byteAt (I := (va_up I 1 (va_up (va_up (I 1) 6 (Int32.ofNat (min (y_nv g s (k)) 10000000))) 5 (Int32.ofNat (s + k))))) (j := s + k) hR hn hE (by omega)) rfl ?_
      refine f_iadd (M := mX5_readNumber) 72 dX5_readNumber_71 rfl ?_
      refine f_bipush (M := mX5_readNumber) 74 dX5_readNumber_72 kb_48 rfl ?_
      refine f_isub (M := mX5_readNumber) 75 dX5_readNumber_74 rfl ?_
      refine f_istore (M := mX5_readNumber) (ls' := [_, _, _, _, _]) 77 dX5_readNumber_75 rfl rfl rfl ?_
      refine f_aload_n (M := mX5_readNumber) 78 dX5_readNumber_77 rfl rfl ?_
      refine f_iload (M := mX5_readNumber) 80 dX5_readNumber_78 rfl rfl ?_
      refine f_ldcI (M := mX5_readNumber) 82 dX5_readNumber_80 (x_kk rfl) cst_5142 rfl ?_
      refine e_cS (M := mX5_readNumber) [_, _] 0 0 dX5_readNumber_82 pa_5111 cc_5111 rfl rfl rfl rfl rfl (x_kk rfl) (x_kk rfl) rfl (c_J9_min_7cf53) rfl ?_
      refine e_putI (M := mX5_readNumber) dX5_readNumber_85 fl_5089 (x_kk rfl) (x_kk rfl) rfl (fun q9 => Bool.noConfusion q9) ?_
      refine f_aload_n (M := mX5_readNumber) 89 dX5_readNumber_88 rfl rfl ?_
      refine f_dup (M := mX5_readNumber) 90 dX5_readNumber_89 rfl rfl ?_
      refine e_getI (M := mX5_readNumber) dX5_readNumber_90 fl_5025 (x_kk rfl) (x_kk rfl) rfl ?_
      refine f_iconst (M := mX5_readNumber) 94 dX5_readNumber_93 ki_1 rfl ?_
      refine f_iadd (M := mX5_readNumber) 95 dX5_readNumber_94 rfl ?_
      refine e_putI (M := mX5_readNumber) dX5_readNumber_95 fl_5025 (x_kk rfl) (x_kk rfl) rfl (fun q9 => Bool.noConfusion q9) ?_
      refine f_goto (M := mX5_readNumber) 30 dX5_readNumber_98 rfl ?_
      have hg := (cb_in (lo := 48) (hi := 57) (f := I 2) (j := s + k) G (by decide) (by decide)).mp (x_bT h1)
      have cd := cb_dg G hg
      simp only [up_up, x_up_self, x_up_ne _ _ (show (2 : Nat) ≠ 1 by decide), x_up_ne _ _ (show (6 : Nat) ≠ 5 by decide), x_up_ne _ _ (show (5 : Nat) ≠ 6 by decide), va4 (show (6 : Nat) ≠ 5 by decide)]
      rw [nx_e cd.1 cd.2 (nv_b (dg_b G) k (by omega)), n_inc (s := s + k)]
      exact ih (w4 := _) (k + 1) (by omega) (by rw [show s + (k + 1) = s + k + 1 from rfl, ← fw_s hg]; exact he)
theorem va_sw {α : Type} {f : Nat → α} {p q : Nat} (h : p ≠ q) {a b : α} : va_up (va_up f p a) q b = va_up (va_up f q b) p a := by
  funext j
  unfold va_up
  by_cases e : j = q
  · rw [if_pos e, if_neg (by omega), if_pos e]
  · by_cases e2 : j = p
    · simp only [if_neg e, if_pos e2]
    · simp only [if_neg e, if_neg e2]
theorem c_num_0 (hR : x_wf R) {n p s : Nat} {g : Nat → Int32} (Q : y_Q I n g p) (hs : y_fw g n 32 32 p = s) {lo hi : Int32} (h : ¬ y_rg g n 48 57 s) : x_Cv X mX5_readNumber [.ref 1, .int lo, .int hi] (I, L, R) 233 (.inl (some (.int (0))), ((va_up I 1 (va_up (va_up (va_up (I 1) 5 (Int32.ofNat s)) 3 (-2)) 2 (Int32.ofNat s))), L, R), 233) := by
  obtain ⟨hn, hE, G, hp, h5⟩ := id Q
  have hsn : s ≤ n := by rw [← hs]; exact fw_le hp
  show x_Ev X mX5_readNumber 0 [some (.ref 1), some (.int lo), some (.int hi), none, none] [] ((I, L, R), 233, 0, 0) _
  refine f_aload_n (M := mX5_readNumber) 1 dX5_readNumber_0 rfl rfl ?_
  refine e_cV (M := mX5_readNumber) [_] 0 0 dX5_readNumber_1 pa_5095 pb_5095 cc_5095 rfl rfl rfl rfl rfl (x_kk rfl) (x_kk rfl) rfl (c_st hR Q hs) rfl ?_
  refine f_istore_n (M := mX5_readNumber) (ls' := [_, _, _, _, _]) 5 dX5_readNumber_4 rfl rfl rfl ?_
  refine f_aload_n (M := mX5_readNumber) 6 dX5_readNumber_5 rfl rfl ?_
  refine f_aload_n (M := mX5_readNumber) 7 dX5_readNumber_6 rfl rfl ?_
  refine f_iload_n (M := mX5_readNumber) 8 dX5_readNumber_7 rfl rfl ?_
  refine e_cV (M := mX5_readNumber) [_, _] 0 0 dX5_readNumber_8 pa_5127 pb_5127 cc_5127 rfl rfl rfl rfl rfl (x_kk rfl) (x_kk rfl) rfl (c_X5_byteAt (I := (va_up I 1 (va_up (I 1) 5 (Int32.ofNat s)))) (j := s) hR hn hE (by omega)) rfl ?_
  refine e_cV (M := mX5_readNumber) [_] 0 0 dX5_readNumber_11 pa_5139 pb_5139 cc_5139 rfl rfl rfl rfl rfl (x_kk rfl) (x_kk rfl) rfl (c_X5_isDigit) rfl ?_
  refine e_if_neF (M := mX5_readNumber) 25 dX5_readNumber_14 rfl (x_bnn (fun z => h ((cb_in (lo := 48) (hi := 57) (f := I 2) (j := s) G (by decide) (by decide)).mp z))) ?_
  refine f_aload_n (M := mX5_readNumber) 18 dX5_readNumber_17 rfl rfl ?_
  refine f_bipush (M := mX5_readNumber) 20 dX5_readNumber_18 kb_m2 rfl ?_
  refine f_iload_n (M := mX5_readNumber) 21 dX5_readNumber_20 rfl rfl ?_
  refine e_cV (M := mX5_readNumber) [_] 0 0 dX5_readNumber_21 pa_5070 pb_5070 cc_5070 rfl rfl rfl rfl rfl (x_kk rfl) (x_kk rfl) rfl (c_X5_fail) rfl ?_
  refine e_rb (M := mX5_readNumber) dX5_readNumber_24 rfl (x_kk rfl) (x_kk rfl) (by decide) ?_
  exact (by rw [up_up, x_up_self])
theorem c_num_1 (hR : x_wf R) {n p s : Nat} {g : Nat → Int32} (Q : y_Q I n g p) (hs : y_fw g n 32 32 p = s) {lo hi : Int32} {m : Nat} (hd : y_rg g n 48 57 s) (he : y_fw g n 48 57 s = s + m) (h : lo ≤ Int32.ofNat (min (y_nv g s m) 10000000) ∧ Int32.ofNat (min (y_nv g s m) 10000000) ≤ hi) : x_Cv X mX5_readNumber [.ref 1, .int lo, .int hi] (I, L, R) 233 (.inl (some (.int (1))), ((va_up I 1 (va_up (va_up (I 1) 6 (Int32.ofNat (min (y_nv g s (m)) 10000000))) 5 (Int32.ofNat (s + m)))), L, R), 233) := by
  obtain ⟨hn, hE, G, hp, h5⟩ := id Q
  have hsn : s ≤ n := by rw [← hs]; exact fw_le hp
  show x_Ev X mX5_readNumber 0 [some (.ref 1), some (.int lo), some (.int hi), none, none] [] ((I, L, R), 233, 0, 0) _
  refine f_aload_n (M := mX5_readNumber) 1 dX5_readNumber_0 rfl rfl ?_
  refine e_cV (M := mX5_readNumber) [_] 0 0 dX5_readNumber_1 pa_5095 pb_5095 cc_5095 rfl rfl rfl rfl rfl (x_kk rfl) (x_kk rfl) rfl (c_st hR Q hs) rfl ?_
  refine f_istore_n (M := mX5_readNumber) (ls' := [_, _, _, _, _]) 5 dX5_readNumber_4 rfl rfl rfl ?_
  refine f_aload_n (M := mX5_readNumber) 6 dX5_readNumber_5 rfl rfl ?_
  refine f_aload_n (M := mX5_readNumber) 7 dX5_readNumber_6 rfl rfl ?_
  refine f_iload_n (M := mX5_readNumber) 8 dX5_readNumber_7 rfl rfl ?_
  refine e_cV (M := mX5_readNumber) [_, _] 0 0 dX5_readNumber_8 pa_5127 pb_5127 cc_5127 rfl rfl rfl rfl rfl (x_kk rfl) (x_kk rfl) rfl (c_X5_byteAt (I := (va_up I 1 (va_up (I 1) 5 (Int32.ofNat s)))) (j := s) hR hn hE (by omega)) rfl ?_
  refine e_cV (M := mX5_readNumber) [_] 0 0 dX5_readNumber_11 pa_5139 pb_5139 cc_5139 rfl rfl rfl rfl rfl (x_kk rfl) (x_kk rfl) rfl (c_X5_isDigit) rfl ?_
  refine e_if_neT (M := mX5_readNumber) 25 dX5_readNumber_14 rfl (x_bn ((cb_in (lo := 48) (hi := 57) (f := I 2) (j := s) G (by decide) (by decide)).mpr hd)) ?_
  refine f_aload_n (M := mX5_readNumber) 26 dX5_readNumber_25 rfl rfl ?_
  refine f_iconst (M := mX5_readNumber) 27 dX5_readNumber_26 ki_0 rfl ?_
  refine e_putI (M := mX5_readNumber) dX5_readNumber_27 fl_5089 (x_kk rfl) (x_kk rfl) rfl (fun q9 => Bool.noConfusion q9) ?_
  rw [up_up, x_up_self, va_sw (show (5 : Nat) ≠ 6 by decide)]
  refine l_num (I := I) (m := m) (b := n - s) hR hn hE G (by omega) (fun w4 => ?_) (n - s) 0 (by omega) he
  refine f_aload_n (M := mX5_readNumber) 102 dX5_readNumber_101 rfl rfl ?_
  refine e_getI (M := mX5_readNumber) dX5_readNumber_102 fl_5089 (x_kk rfl) (x_kk rfl) rfl ?_
  refine f_iload_n (M := mX5_readNumber) 106 dX5_readNumber_105 rfl rfl ?_
  refine e_icmp_ltF (M := mX5_readNumber) 117 dX5_readNumber_106 rfl (i_nlt.mpr h.1) ?_
  refine f_aload_n (M := mX5_readNumber) 110 dX5_readNumber_109 rfl rfl ?_
  refine e_getI (M := mX5_readNumber) dX5_readNumber_110 fl_5089 (x_kk rfl) (x_kk rfl) rfl ?_
  refine f_iload_n (M := mX5_readNumber) 114 dX5_readNumber_113 rfl rfl ?_
  refine e_icmp_leT (M := mX5_readNumber) 127 dX5_readNumber_114 rfl h.2 ?_
  refine f_iconst (M := mX5_readNumber) 128 dX5_readNumber_127 ki_1 rfl ?_
  refine f_goto (M := mX5_readNumber) 132 dX5_readNumber_128 rfl ?_
  refine e_rb (M := mX5_readNumber) dX5_readNumber_132 rfl (x_kk rfl) (x_kk rfl) (by decide) ?_
  rfl
theorem c_num_3 (hR : x_wf R) {n p s : Nat} {g : Nat → Int32} (Q : y_Q I n g p) (hs : y_fw g n 32 32 p = s) {lo hi : Int32} {m : Nat} (hd : y_rg g n 48 57 s) (he : y_fw g n 48 57 s = s + m) (h : ¬ (lo ≤ Int32.ofNat (min (y_nv g s m) 10000000) ∧ Int32.ofNat (min (y_nv g s m) 10000000) ≤ hi)) : x_Cv X mX5_readNumber [.ref 1, .int lo, .int hi] (I, L, R) 233 (.inl (some (.int (0))), (va_up I 1 (va_up (va_up (va_up (va_up (I 1) 6 (Int32.ofNat (min (y_nv g s m) 10000000))) 5 (Int32.ofNat (s + m))) 3 (-3)) 2 (Int32.ofNat s)), L, R), 233) := by
  obtain ⟨hn, hE, G, hp, h5⟩ := id Q
  have hsn : s ≤ n := by rw [← hs]; exact fw_le hp
  show x_Ev X mX5_readNumber 0 [some (.ref 1), some (.int lo), some (.int hi), none, none] [] ((I, L, R), 233, 0, 0) _
  refine f_aload_n (M := mX5_readNumber) 1 dX5_readNumber_0 rfl rfl ?_
  refine e_cV (M := mX5_readNumber) [_] 0 0 dX5_readNumber_1 pa_5095 pb_5095 cc_5095 rfl rfl rfl rfl rfl (x_kk rfl) (x_kk rfl) rfl (c_st hR Q hs) rfl ?_
  refine f_istore_n (M := mX5_readNumber) (ls' := [_, _, _, _, _]) 5 dX5_readNumber_4 rfl rfl rfl ?_
  refine f_aload_n (M := mX5_readNumber) 6 dX5_readNumber_5 rfl rfl ?_
  refine f_aload_n (M := mX5_readNumber) 7 dX5_readNumber_6 rfl rfl ?_
  refine f_iload_n (M := mX5_readNumber) 8 dX5_readNumber_7 rfl rfl ?_
  refine e_cV (M := mX5_readNumber) [_, _] 0 0 dX5_readNumber_8 pa_5127 pb_5127 cc_5127 rfl rfl rfl rfl rfl (x_kk rfl) (x_kk rfl) rfl (c_X5_byteAt (I := (va_up I 1 (va_up (I 1) 5 (Int32.ofNat s)))) (j := s) hR hn hE (by omega)) rfl ?_
  refine e_cV (M := mX5_readNumber) [_] 0 0 dX5_readNumber_11 pa_5139 pb_5139 cc_5139 rfl rfl rfl rfl rfl (x_kk rfl) (x_kk rfl) rfl (c_X5_isDigit) rfl ?_
  refine e_if_neT (M := mX5_readNumber) 25 dX5_readNumber_14 rfl (x_bn ((cb_in (lo := 48) (hi := 57) (f := I 2) (j := s) G (by decide) (by decide)).mpr hd)) ?_
  refine f_aload_n (M := mX5_readNumber) 26 dX5_readNumber_25 rfl rfl ?_
  refine f_iconst (M := mX5_readNumber) 27 dX5_readNumber_26 ki_0 rfl ?_
  refine e_putI (M := mX5_readNumber) dX5_readNumber_27 fl_5089 (x_kk rfl) (x_kk rfl) rfl (fun q9 => Bool.noConfusion q9) ?_
  rw [up_up, x_up_self, va_sw (show (5 : Nat) ≠ 6 by decide)]
  refine l_num (I := I) (m := m) (b := n - s) hR hn hE G (by omega) (fun w4 => ?_) (n - s) 0 (by omega) he
  refine f_aload_n (M := mX5_readNumber) 102 dX5_readNumber_101 rfl rfl ?_
  refine e_getI (M := mX5_readNumber) dX5_readNumber_102 fl_5089 (x_kk rfl) (x_kk rfl) rfl ?_
  refine f_iload_n (M := mX5_readNumber) 106 dX5_readNumber_105 rfl rfl ?_
  refine e_icmp_lt (M := mX5_readNumber) (t := 117) dX5_readNumber_106 rfl (fun h1 => ?_) (fun h1 => ?_)
  · refine f_aload_n (M := mX5_readNumber) 118 dX5_readNumber_117 rfl rfl ?_
    refine f_bipush (M := mX5_readNumber) 120 dX5_readNumber_118 kb_m3 rfl ?_
    refine f_iload_n (M := mX5_readNumber) 121 dX5_readNumber_120 rfl rfl ?_
    refine e_cV (M := mX5_readNumber) [_] 0 0 dX5_readNumber_121 pa_5070 pb_5070 cc_5070 rfl rfl rfl rfl rfl (x_kk rfl) (x_kk rfl) rfl (c_X5_fail (I := (va_up I 1 (va_up (va_up (I 1) 6 (Int32.ofNat (min (y_nv g s (m)) 10000000))) 5 (Int32.ofNat (s + m)))))) rfl ?_
    refine e_if_eqT (M := mX5_readNumber) 131 dX5_readNumber_124 rfl (show (0 : Int32) = 0 by decide) ?_
    refine f_iconst (M := mX5_readNumber) 132 dX5_readNumber_131 ki_0 rfl ?_
    refine e_rb (M := mX5_readNumber) dX5_readNumber_132 rfl (x_kk rfl) (x_kk rfl) (by decide) ?_
    exact (by rw [up_up, x_up_self])
  · refine f_aload_n (M := mX5_readNumber) 110 dX5_readNumber_109 rfl rfl ?_
    refine e_getI (M := mX5_readNumber) dX5_readNumber_110 fl_5089 (x_kk rfl) (x_kk rfl) rfl ?_
    refine f_iload_n (M := mX5_readNumber) 114 dX5_readNumber_113 rfl rfl ?_
    refine e_icmp_leF (M := mX5_readNumber) 127 dX5_readNumber_114 rfl (fun z => h ⟨i_nlt.mp h1, z⟩) ?_
    refine f_aload_n (M := mX5_readNumber) 118 dX5_readNumber_117 rfl rfl ?_
    refine f_bipush (M := mX5_readNumber) 120 dX5_readNumber_118 kb_m3 rfl ?_
    refine f_iload_n (M := mX5_readNumber) 121 dX5_readNumber_120 rfl rfl ?_
    refine e_cV (M := mX5_readNumber) [_] 0 0 dX5_readNumber_121 pa_5070 pb_5070 cc_5070 rfl rfl rfl rfl rfl (x_kk rfl) (x_kk rfl) rfl (c_X5_fail (I := (va_up I 1 (va_up (va_up (I 1) 6 (Int32.ofNat (min (y_nv g s (m)) 10000000))) 5 (Int32.ofNat (s + m)))))) rfl ?_
    refine e_if_eqT (M := mX5_readNumber) 131 dX5_readNumber_124 rfl (show (0 : Int32) = 0 by decide) ?_
    refine f_iconst (M := mX5_readNumber) 132 dX5_readNumber_131 ki_0 rfl ?_
    refine e_rb (M := mX5_readNumber) dX5_readNumber_132 rfl (x_kk rfl) (x_kk rfl) (by decide) ?_
    exact (by rw [up_up, x_up_self])
end

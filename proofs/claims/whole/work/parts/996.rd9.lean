/-! ===== the model's reader, first: what it sees, words (laid by wip/whole/src/rd9.py) ===== -/
section
variable {X : x_X} {I : Nat → Nat → Int32} {L : Nat → Nat → Int64} {R : Nat → Nat → Option Nat} {N : Nat}
theorem c_X9_see (hR : x_wf R) {n : Nat} (hn : n ≤ 800) (h9 : I 225 9 = Int32.ofNat n) {j : Nat} (hj : j < 2000) : x_Cv X mX9_see [.ref 225, .int (Int32.ofNat j)] (I, L, R) 233 (.inl (some (.int (y_mb (I 231) n j))), (I, L, R), 233) := by
  show x_Ev X mX9_see 0 [some (.ref 225), some (.int (Int32.ofNat j))] [] ((I, L, R), 233, 0, 0) _
  refine f_iload_n (M := mX9_see) 1 dX9_see_0 rfl rfl ?_
  refine f_aload_n (M := mX9_see) 2 dX9_see_1 rfl rfl ?_
  refine e_getI (M := mX9_see) dX9_see_2 fl_9042 (x_kk rfl) (x_kk rfl) rfl ?_
  refine e_icmp_ge (M := mX9_see) (t := 17) dX9_see_5 rfl (fun h => ?_) (fun h => ?_)
  · refine f_iconst (M := mX9_see) 18 dX9_see_17 ki_m1 rfl ?_
    refine e_ri (M := mX9_see) dX9_see_18 rfl (x_kk rfl) (x_kk rfl) ?_
    exact r_i (by rw [h9, n_le (by omega) (by omega)] at h; unfold y_mb; rw [if_neg (by omega)])
  · refine f_aload_n (M := mX9_see) 9 dX9_see_8 rfl rfl ?_
    refine e_getR (M := mX9_see) dX9_see_9 fl_9026 (x_kk rfl) (x_kk rfl) rfl (wf_9_7 hR) ?_
    refine f_iload_n (M := mX9_see) 13 dX9_see_12 rfl rfl ?_
    refine e_ild (M := mX9_see) (w := 800) (j := j) dX9_see_13 (x_kk rfl) rfl rfl (by rw [h9, n_le (by omega) (by omega)] at h; omega) (by omega) ?_
    refine f_goto (M := mX9_see) 18 dX9_see_14 rfl ?_
    refine e_ri (M := mX9_see) dX9_see_18 rfl (x_kk rfl) (x_kk rfl) ?_
    exact r_i (by rw [h9, n_le (by omega) (by omega)] at h; unfold y_mb; rw [if_pos (by omega)])
theorem c_let9 {v : Int32} : x_Cv X mX9_isIn [.long v.toInt64, .long 97, .long 122] (I, L, R) 233 (.inl (some (.int (x_b (97 ≤ v ∧ v ≤ 122)))), (I, L, R), 233) := by
  have e := c_X9_isInI (X := X) (I := I) (L := L) (R := R) (v := v) (lo := 97) (hi := 122)
  rw [show (97 : Int32).toInt64 = 97 from by decide, show (122 : Int32).toInt64 = 122 from by decide] at e
  exact e
theorem c_dig9 {v : Int32} : x_Cv X mX9_isIn [.long v.toInt64, .long 48, .long 57] (I, L, R) 233 (.inl (some (.int (x_b (48 ≤ v ∧ v ≤ 57)))), (I, L, R), 233) := by
  have e := c_X9_isInI (X := X) (I := I) (L := L) (R := R) (v := v) (lo := 48) (hi := 57)
  rw [show (48 : Int32).toInt64 = 48 from by decide, show (57 : Int32).toInt64 = 57 from by decide] at e
  exact e
abbrev y_K (i : Nat) : Int32 := (x_txt 1013).getD i 0
abbrev y_m9 (f : Nat → Int32) (s e b l : Nat) : Prop := e = s + l ∧ ∀ i, i < l → f (s + i) = y_K (b + i)
theorem l_word9 (hR : x_wf R) {s e b l : Nat} {l1 : Int32} {r : x_O × x_Mem × Nat} (h10 : I 225 10 = Int32.ofNat s) (h11 : I 225 11 = Int32.ofNat e) (he8 : e ≤ 800) (hse : s ≤ e) (hb : b + l < 19) (hK : ∀ i, i < l → ¬ y_K (b + i) = 32) (hK2 : y_K (b + l) = 32) (kY : y_m9 (I 231) s e b l → x_Ev X mX9_wordAt 95 [some (.ref 225), some (.int l1), some (.int (Int32.ofNat b)), some (.int (Int32.ofNat l))] [] ((I, L, R), 233, 0, 0) r) (kN : ¬ y_m9 (I 231) s e b l → ∀ x, x_Ev X mX9_wordAt 97 [some (.ref 225), some (.int l1), some (.int (Int32.ofNat b)), some (.int x)] [] ((I, L, R), 233, 0, 0) r) : ∀ d k, k + d = l → (∀ i, i < k → I 231 (s + i) = y_K (b + i)) → x_Ev X mX9_wordAt 15 [some (.ref 225), some (.int l1), some (.int (Int32.ofNat b)), some (.int (Int32.ofNat k))] [] ((I, L, R), 233, 0, 0) r := by
  intro d
  induction d with
  | zero =>
    intro k hd he
    obtain rfl : l = k := by omega
    refine f_ldcR (M := mX9_wordAt) 17 dX9_wordAt_15 (x_kk rfl) csn_9045 csr_9045 rfl ?_
    refine f_iload_n (M := mX9_wordAt) 18 dX9_wordAt_17 rfl rfl ?_
    refine f_iload_n (M := mX9_wordAt) 19 dX9_wordAt_18 rfl rfl ?_
    refine f_iadd (M := mX9_wordAt) 20 dX9_wordAt_19 rfl ?_
    refine e_sch (M := mX9_wordAt) (j := (b) + (l)) dX9_wordAt_20 sn_9053 sc_9053 (x_kk rfl) (x_kk rfl) (x_kk rfl) (x_kk rfl) (x_kk rfl) (ix_add rfl rfl) (by show b + l < 19; omega) rfl (x_kk rfl) ?_
    refine f_bipush (M := mX9_wordAt) 25 dX9_wordAt_23 kb_32 rfl ?_
    refine e_icmp_eqT (M := mX9_wordAt) 69 dX9_wordAt_25 rfl hK2 ?_
    refine f_ldcR (M := mX9_wordAt) 71 dX9_wordAt_69 (x_kk rfl) csn_9045 csr_9045 rfl ?_
    refine f_iload_n (M := mX9_wordAt) 72 dX9_wordAt_71 rfl rfl ?_
    refine f_iload_n (M := mX9_wordAt) 73 dX9_wordAt_72 rfl rfl ?_
    refine f_iadd (M := mX9_wordAt) 74 dX9_wordAt_73 rfl ?_
    refine e_sch (M := mX9_wordAt) (j := (b) + (l)) dX9_wordAt_74 sn_9053 sc_9053 (x_kk rfl) (x_kk rfl) (x_kk rfl) (x_kk rfl) (x_kk rfl) (ix_add rfl rfl) (by show b + l < 19; omega) rfl (x_kk rfl) ?_
    refine f_bipush (M := mX9_wordAt) 79 dX9_wordAt_77 kb_32 rfl ?_
    refine e_icmp_neF (M := mX9_wordAt) 97 dX9_wordAt_79 rfl (fun z => z hK2) ?_
    refine f_aload_n (M := mX9_wordAt) 83 dX9_wordAt_82 rfl rfl ?_
    refine e_getI (M := mX9_wordAt) dX9_wordAt_83 fl_9057 (x_kk rfl) (x_kk rfl) rfl ?_
    refine f_iload_n (M := mX9_wordAt) 87 dX9_wordAt_86 rfl rfl ?_
    refine f_iadd (M := mX9_wordAt) 88 dX9_wordAt_87 rfl ?_
    refine f_aload_n (M := mX9_wordAt) 89 dX9_wordAt_88 rfl rfl ?_
    refine e_getI (M := mX9_wordAt) dX9_wordAt_89 fl_9060 (x_kk rfl) (x_kk rfl) rfl ?_
    refine e_icmp_ne (M := mX9_wordAt) (t := 97) dX9_wordAt_92 rfl (fun h1 => ?_) (fun h1 => ?_)
    · exact kN (fun z => h1 (by rw [h10, h11, show Int32.ofNat s + Int32.ofNat l = Int32.ofNat (s + l) from ix_add rfl rfl, z.1])) _
    · refine kY ⟨?_, he⟩; have h2 := x_dn h1; rw [h10, h11, show Int32.ofNat s + Int32.ofNat l = Int32.ofNat (s + l) from ix_add rfl rfl, n_eq (by omega) (by omega)] at h2; exact h2.symm
  | succ d ih =>
    intro k hd he
    refine f_ldcR (M := mX9_wordAt) 17 dX9_wordAt_15 (x_kk rfl) csn_9045 csr_9045 rfl ?_
    refine f_iload_n (M := mX9_wordAt) 18 dX9_wordAt_17 rfl rfl ?_
    refine f_iload_n (M := mX9_wordAt) 19 dX9_wordAt_18 rfl rfl ?_
    refine f_iadd (M := mX9_wordAt) 20 dX9_wordAt_19 rfl ?_
    refine e_sch (M := mX9_wordAt) (j := (b) + (k)) dX9_wordAt_20 sn_9053 sc_9053 (x_kk rfl) (x_kk rfl) (x_kk rfl) (x_kk rfl) (x_kk rfl) (ix_add rfl rfl) (by show b + k < 19; omega) rfl (x_kk rfl) ?_
    refine f_bipush (M := mX9_wordAt) 25 dX9_wordAt_23 kb_32 rfl ?_
    refine e_icmp_eqF (M := mX9_wordAt) 69 dX9_wordAt_25 rfl (hK k (by omega)) ?_
    refine f_aload_n (M := mX9_wordAt) 29 dX9_wordAt_28 rfl rfl ?_
    refine e_getI (M := mX9_wordAt) dX9_wordAt_29 fl_9057 (x_kk rfl) (x_kk rfl) rfl ?_
    refine f_iload_n (M := mX9_wordAt) 33 dX9_wordAt_32 rfl rfl ?_
    refine f_iadd (M := mX9_wordAt) 34 dX9_wordAt_33 rfl ?_
    refine f_aload_n (M := mX9_wordAt) 35 dX9_wordAt_34 rfl rfl ?_
    refine e_getI (M := mX9_wordAt) dX9_wordAt_35 fl_9060 (x_kk rfl) (x_kk rfl) rfl ?_
    refine e_icmp_ge (M := mX9_wordAt) (t := 69) dX9_wordAt_38 rfl (fun h1 => ?_) (fun h1 => ?_)
    · refine f_ldcR (M := mX9_wordAt) 71 dX9_wordAt_69 (x_kk rfl) csn_9045 csr_9045 rfl ?_
      refine f_iload_n (M := mX9_wordAt) 72 dX9_wordAt_71 rfl rfl ?_
      refine f_iload_n (M := mX9_wordAt) 73 dX9_wordAt_72 rfl rfl ?_
      refine f_iadd (M := mX9_wordAt) 74 dX9_wordAt_73 rfl ?_
      refine e_sch (M := mX9_wordAt) (j := (b) + (k)) dX9_wordAt_74 sn_9053 sc_9053 (x_kk rfl) (x_kk rfl) (x_kk rfl) (x_kk rfl) (x_kk rfl) (ix_add rfl rfl) (by show b + k < 19; omega) rfl (x_kk rfl) ?_
      refine f_bipush (M := mX9_wordAt) 79 dX9_wordAt_77 kb_32 rfl ?_
      refine e_icmp_neT (M := mX9_wordAt) 97 dX9_wordAt_79 rfl (hK k (by omega)) ?_
      exact kN (fun z => by rw [h10, h11, show Int32.ofNat s + Int32.ofNat k = Int32.ofNat (s + k) from ix_add rfl rfl, n_le (by omega) (by omega)] at h1; have := z.1; omega) _
    · refine f_aload_n (M := mX9_wordAt) 42 dX9_wordAt_41 rfl rfl ?_
      refine e_getR (M := mX9_wordAt) dX9_wordAt_42 fl_9026 (x_kk rfl) (x_kk rfl) rfl (wf_9_7 hR) ?_
      refine f_aload_n (M := mX9_wordAt) 46 dX9_wordAt_45 rfl rfl ?_
      refine e_getI (M := mX9_wordAt) dX9_wordAt_46 fl_9057 (x_kk rfl) (x_kk rfl) rfl ?_
      refine f_iload_n (M := mX9_wordAt) 50 dX9_wordAt_49 rfl rfl ?_
      refine f_iadd (M := mX9_wordAt) 51 dX9_wordAt_50 rfl ?_
      refine e_ild (M := mX9_wordAt) (w := 800) (j := (s) + (k)) dX9_wordAt_51 (x_kk rfl) rfl (ix_add h10 rfl) (by rw [h10, h11, show Int32.ofNat s + Int32.ofNat k = Int32.ofNat (s + k) from ix_add rfl rfl, n_le (by omega) (by omega)] at h1; omega) (by omega) ?_
      refine f_ldcR (M := mX9_wordAt) 54 dX9_wordAt_52 (x_kk rfl) csn_9045 csr_9045 rfl ?_
      refine f_iload_n (M := mX9_wordAt) 55 dX9_wordAt_54 rfl rfl ?_
      refine f_iload_n (M := mX9_wordAt) 56 dX9_wordAt_55 rfl rfl ?_
      refine f_iadd (M := mX9_wordAt) 57 dX9_wordAt_56 rfl ?_
      refine e_sch (M := mX9_wordAt) (j := (b) + (k)) dX9_wordAt_57 sn_9053 sc_9053 (x_kk rfl) (x_kk rfl) (x_kk rfl) (x_kk rfl) (x_kk rfl) (ix_add rfl rfl) (by show b + k < 19; omega) rfl (x_kk rfl) ?_
      refine e_icmp_ne (M := mX9_wordAt) (t := 69) dX9_wordAt_60 rfl (fun h2 => ?_) (fun h2 => ?_)
      · refine f_ldcR (M := mX9_wordAt) 71 dX9_wordAt_69 (x_kk rfl) csn_9045 csr_9045 rfl ?_
        refine f_iload_n (M := mX9_wordAt) 72 dX9_wordAt_71 rfl rfl ?_
        refine f_iload_n (M := mX9_wordAt) 73 dX9_wordAt_72 rfl rfl ?_
        refine f_iadd (M := mX9_wordAt) 74 dX9_wordAt_73 rfl ?_
        refine e_sch (M := mX9_wordAt) (j := (b) + (k)) dX9_wordAt_74 sn_9053 sc_9053 (x_kk rfl) (x_kk rfl) (x_kk rfl) (x_kk rfl) (x_kk rfl) (ix_add rfl rfl) (by show b + k < 19; omega) rfl (x_kk rfl) ?_
        refine f_bipush (M := mX9_wordAt) 79 dX9_wordAt_77 kb_32 rfl ?_
        refine e_icmp_neT (M := mX9_wordAt) 97 dX9_wordAt_79 rfl (hK k (by omega)) ?_
        exact kN (fun z => h2 (z.2 k (by omega))) _
      · refine f_iinc (M := mX9_wordAt) (ls' := [_, _, _, _]) 66 dX9_wordAt_63 ki_1 rfl rfl rfl rfl ?_
        refine f_goto (M := mX9_wordAt) 15 dX9_wordAt_66 rfl ?_
        rw [n_inc (s := k)]; exact ih (k + 1) (by omega) (fun i hi => (Nat.lt_succ_iff_lt_or_eq.mp hi).elim (fun z => he i z) (fun z => by rw [z]; exact x_dn h2))
theorem c_wordAt (hR : x_wf R) {s e : Nat} (h10 : I 225 10 = Int32.ofNat s) (h11 : I 225 11 = Int32.ofNat e) (he8 : e ≤ 800) (hse : s ≤ e) : x_Cv X mX9_wordAt [.ref 225] (I, L, R) 233 (.inl (some (.int (if y_m9 (I 231) s e 1 4 then 0 else if y_m9 (I 231) s e 6 7 then 1 else if y_m9 (I 231) s e 14 4 then 2 else 3))), (I, L, R), 233) := by
  show x_Ev X mX9_wordAt 0 [some (.ref 225), none, none, none] [] ((I, L, R), 233, 0, 0) _
  refine f_iconst (M := mX9_wordAt) 1 dX9_wordAt_0 ki_0 rfl ?_
  refine f_istore_n (M := mX9_wordAt) (ls' := [_, _, _, _]) 2 dX9_wordAt_1 rfl rfl rfl ?_
  refine f_iconst (M := mX9_wordAt) 3 dX9_wordAt_2 ki_1 rfl ?_
  refine f_istore_n (M := mX9_wordAt) (ls' := [_, _, _, _]) 4 dX9_wordAt_3 rfl rfl rfl ?_
  refine f_iload_n (M := mX9_wordAt) 5 dX9_wordAt_4 rfl rfl ?_
  refine f_ldcR (M := mX9_wordAt) 7 dX9_wordAt_5 (x_kk rfl) csn_9045 csr_9045 rfl ?_
  refine e_sln (M := mX9_wordAt) dX9_wordAt_7 sl_9047 (x_kk rfl) (x_kk rfl) (x_kk rfl) (x_kk rfl) (x_kk rfl) (x_kk rfl) ?_
  refine e_icmp_geF (M := mX9_wordAt) 123 dX9_wordAt_10 rfl (by decide) ?_
  refine f_iconst (M := mX9_wordAt) 14 dX9_wordAt_13 ki_0 rfl ?_
  refine f_istore_n (M := mX9_wordAt) (ls' := [_, _, _, _]) 15 dX9_wordAt_14 rfl rfl rfl ?_
  refine l_word9 (b := 1) (l := 4) hR h10 h11 he8 hse (by decide) (by decide) (by decide) (fun z => ?_) (fun z x => ?_) 4 0 rfl (fun i hi => absurd hi (Nat.not_lt_zero _))
  · refine f_iload_n (M := mX9_wordAt) 96 dX9_wordAt_95 rfl rfl ?_
    refine e_ri (M := mX9_wordAt) dX9_wordAt_96 rfl (x_kk rfl) (x_kk rfl) ?_
    exact r_i (by rw [if_pos z])
  have z0 := z
  clear z
  refine f_ldcR (M := mX9_wordAt) 99 dX9_wordAt_97 (x_kk rfl) csn_9045 csr_9045 rfl ?_
  refine f_iload_n (M := mX9_wordAt) 100 dX9_wordAt_99 rfl rfl ?_
  refine e_sch (M := mX9_wordAt) (j := 1) dX9_wordAt_100 sn_9053 sc_9053 (x_kk rfl) (x_kk rfl) (x_kk rfl) (x_kk rfl) (x_kk rfl) kn_1 (by decide) rfl (x_kk rfl) ?_
  refine f_bipush (M := mX9_wordAt) 105 dX9_wordAt_103 kb_32 rfl ?_
  refine e_icmp_eqF (M := mX9_wordAt) 114 dX9_wordAt_105 rfl (by decide) ?_
  refine f_iinc (M := mX9_wordAt) (ls' := [_, _, _, _]) 111 dX9_wordAt_108 ki_1 rfl rfl rfl rfl ?_
  refine f_goto (M := mX9_wordAt) 97 dX9_wordAt_111 rfl ?_
  refine f_ldcR (M := mX9_wordAt) 99 dX9_wordAt_97 (x_kk rfl) csn_9045 csr_9045 rfl ?_
  refine f_iload_n (M := mX9_wordAt) 100 dX9_wordAt_99 rfl rfl ?_
  refine e_sch (M := mX9_wordAt) (j := 1 + 1) dX9_wordAt_100 sn_9053 sc_9053 (x_kk rfl) (x_kk rfl) (x_kk rfl) (x_kk rfl) (x_kk rfl) (ix_add kn_1 kn_1) (by decide) rfl (x_kk rfl) ?_
  refine f_bipush (M := mX9_wordAt) 105 dX9_wordAt_103 kb_32 rfl ?_
  refine e_icmp_eqF (M := mX9_wordAt) 114 dX9_wordAt_105 rfl (by decide) ?_
  refine f_iinc (M := mX9_wordAt) (ls' := [_, _, _, _]) 111 dX9_wordAt_108 ki_1 rfl rfl rfl rfl ?_
  refine f_goto (M := mX9_wordAt) 97 dX9_wordAt_111 rfl ?_
  refine f_ldcR (M := mX9_wordAt) 99 dX9_wordAt_97 (x_kk rfl) csn_9045 csr_9045 rfl ?_
  refine f_iload_n (M := mX9_wordAt) 100 dX9_wordAt_99 rfl rfl ?_
  refine e_sch (M := mX9_wordAt) (j := 1 + 1 + 1) dX9_wordAt_100 sn_9053 sc_9053 (x_kk rfl) (x_kk rfl) (x_kk rfl) (x_kk rfl) (x_kk rfl) (ix_add (ix_add kn_1 kn_1) kn_1) (by decide) rfl (x_kk rfl) ?_
  refine f_bipush (M := mX9_wordAt) 105 dX9_wordAt_103 kb_32 rfl ?_
  refine e_icmp_eqF (M := mX9_wordAt) 114 dX9_wordAt_105 rfl (by decide) ?_
  refine f_iinc (M := mX9_wordAt) (ls' := [_, _, _, _]) 111 dX9_wordAt_108 ki_1 rfl rfl rfl rfl ?_
  refine f_goto (M := mX9_wordAt) 97 dX9_wordAt_111 rfl ?_
  refine f_ldcR (M := mX9_wordAt) 99 dX9_wordAt_97 (x_kk rfl) csn_9045 csr_9045 rfl ?_
  refine f_iload_n (M := mX9_wordAt) 100 dX9_wordAt_99 rfl rfl ?_
  refine e_sch (M := mX9_wordAt) (j := 1 + 1 + 1 + 1) dX9_wordAt_100 sn_9053 sc_9053 (x_kk rfl) (x_kk rfl) (x_kk rfl) (x_kk rfl) (x_kk rfl) (ix_add (ix_add (ix_add kn_1 kn_1) kn_1) kn_1) (by decide) rfl (x_kk rfl) ?_
  refine f_bipush (M := mX9_wordAt) 105 dX9_wordAt_103 kb_32 rfl ?_
  refine e_icmp_eqF (M := mX9_wordAt) 114 dX9_wordAt_105 rfl (by decide) ?_
  refine f_iinc (M := mX9_wordAt) (ls' := [_, _, _, _]) 111 dX9_wordAt_108 ki_1 rfl rfl rfl rfl ?_
  refine f_goto (M := mX9_wordAt) 97 dX9_wordAt_111 rfl ?_
  refine f_ldcR (M := mX9_wordAt) 99 dX9_wordAt_97 (x_kk rfl) csn_9045 csr_9045 rfl ?_
  refine f_iload_n (M := mX9_wordAt) 100 dX9_wordAt_99 rfl rfl ?_
  refine e_sch (M := mX9_wordAt) (j := 1 + 1 + 1 + 1 + 1) dX9_wordAt_100 sn_9053 sc_9053 (x_kk rfl) (x_kk rfl) (x_kk rfl) (x_kk rfl) (x_kk rfl) (ix_add (ix_add (ix_add (ix_add kn_1 kn_1) kn_1) kn_1) kn_1) (by decide) rfl (x_kk rfl) ?_
  refine f_bipush (M := mX9_wordAt) 105 dX9_wordAt_103 kb_32 rfl ?_
  refine e_icmp_eqT (M := mX9_wordAt) 114 dX9_wordAt_105 rfl (by decide) ?_
  refine f_iinc (M := mX9_wordAt) (ls' := [_, _, _, _]) 117 dX9_wordAt_114 ki_1 rfl rfl rfl rfl ?_
  refine f_iinc (M := mX9_wordAt) (ls' := [_, _, _, _]) 120 dX9_wordAt_117 ki_1 rfl rfl rfl rfl ?_
  refine f_goto (M := mX9_wordAt) 4 dX9_wordAt_120 rfl ?_
  rw [show (Int32.ofNat 1 : Int32) + 1 + 1 + 1 + 1 + 1 = (6 : Int32) from by decide, show (0 : Int32) + 1 = 1 from by decide]
  refine f_iload_n (M := mX9_wordAt) 5 dX9_wordAt_4 rfl rfl ?_
  refine f_ldcR (M := mX9_wordAt) 7 dX9_wordAt_5 (x_kk rfl) csn_9045 csr_9045 rfl ?_
  refine e_sln (M := mX9_wordAt) dX9_wordAt_7 sl_9047 (x_kk rfl) (x_kk rfl) (x_kk rfl) (x_kk rfl) (x_kk rfl) (x_kk rfl) ?_
  refine e_icmp_geF (M := mX9_wordAt) 123 dX9_wordAt_10 rfl (by decide) ?_
  refine f_iconst (M := mX9_wordAt) 14 dX9_wordAt_13 ki_0 rfl ?_
  refine f_istore_n (M := mX9_wordAt) (ls' := [_, _, _, _]) 15 dX9_wordAt_14 rfl rfl rfl ?_
  refine l_word9 (b := 6) (l := 7) hR h10 h11 he8 hse (by decide) (by decide) (by decide) (fun z => ?_) (fun z x => ?_) 7 0 rfl (fun i hi => absurd hi (Nat.not_lt_zero _))
  · refine f_iload_n (M := mX9_wordAt) 96 dX9_wordAt_95 rfl rfl ?_
    refine e_ri (M := mX9_wordAt) dX9_wordAt_96 rfl (x_kk rfl) (x_kk rfl) ?_
    exact r_i (by rw [if_neg z0, if_pos z])
  have z1 := z
  clear z
  refine f_ldcR (M := mX9_wordAt) 99 dX9_wordAt_97 (x_kk rfl) csn_9045 csr_9045 rfl ?_
  refine f_iload_n (M := mX9_wordAt) 100 dX9_wordAt_99 rfl rfl ?_
  refine e_sch (M := mX9_wordAt) (j := 6) dX9_wordAt_100 sn_9053 sc_9053 (x_kk rfl) (x_kk rfl) (x_kk rfl) (x_kk rfl) (x_kk rfl) kn_6 (by decide) rfl (x_kk rfl) ?_
  refine f_bipush (M := mX9_wordAt) 105 dX9_wordAt_103 kb_32 rfl ?_
  refine e_icmp_eqF (M := mX9_wordAt) 114 dX9_wordAt_105 rfl (by decide) ?_
  refine f_iinc (M := mX9_wordAt) (ls' := [_, _, _, _]) 111 dX9_wordAt_108 ki_1 rfl rfl rfl rfl ?_
  refine f_goto (M := mX9_wordAt) 97 dX9_wordAt_111 rfl ?_
  refine f_ldcR (M := mX9_wordAt) 99 dX9_wordAt_97 (x_kk rfl) csn_9045 csr_9045 rfl ?_
  refine f_iload_n (M := mX9_wordAt) 100 dX9_wordAt_99 rfl rfl ?_
  refine e_sch (M := mX9_wordAt) (j := 6 + 1) dX9_wordAt_100 sn_9053 sc_9053 (x_kk rfl) (x_kk rfl) (x_kk rfl) (x_kk rfl) (x_kk rfl) (ix_add kn_6 kn_1) (by decide) rfl (x_kk rfl) ?_
  refine f_bipush (M := mX9_wordAt) 105 dX9_wordAt_103 kb_32 rfl ?_
  refine e_icmp_eqF (M := mX9_wordAt) 114 dX9_wordAt_105 rfl (by decide) ?_
  refine f_iinc (M := mX9_wordAt) (ls' := [_, _, _, _]) 111 dX9_wordAt_108 ki_1 rfl rfl rfl rfl ?_
  refine f_goto (M := mX9_wordAt) 97 dX9_wordAt_111 rfl ?_
  refine f_ldcR (M := mX9_wordAt) 99 dX9_wordAt_97 (x_kk rfl) csn_9045 csr_9045 rfl ?_
  refine f_iload_n (M := mX9_wordAt) 100 dX9_wordAt_99 rfl rfl ?_
  refine e_sch (M := mX9_wordAt) (j := 6 + 1 + 1) dX9_wordAt_100 sn_9053 sc_9053 (x_kk rfl) (x_kk rfl) (x_kk rfl) (x_kk rfl) (x_kk rfl) (ix_add (ix_add kn_6 kn_1) kn_1) (by decide) rfl (x_kk rfl) ?_
  refine f_bipush (M := mX9_wordAt) 105 dX9_wordAt_103 kb_32 rfl ?_
  refine e_icmp_eqF (M := mX9_wordAt) 114 dX9_wordAt_105 rfl (by decide) ?_
  refine f_iinc (M := mX9_wordAt) (ls' := [_, _, _, _]) 111 dX9_wordAt_108 ki_1 rfl rfl rfl rfl ?_
  refine f_goto (M := mX9_wordAt) 97 dX9_wordAt_111 rfl ?_
  refine f_ldcR (M := mX9_wordAt) 99 dX9_wordAt_97 (x_kk rfl) csn_9045 csr_9045 rfl ?_
  refine f_iload_n (M := mX9_wordAt) 100 dX9_wordAt_99 rfl rfl ?_
  refine e_sch (M := mX9_wordAt) (j := 6 + 1 + 1 + 1) dX9_wordAt_100 sn_9053 sc_9053 (x_kk rfl) (x_kk rfl) (x_kk rfl) (x_kk rfl) (x_kk rfl) (ix_add (ix_add (ix_add kn_6 kn_1) kn_1) kn_1) (by decide) rfl (x_kk rfl) ?_
  refine f_bipush (M := mX9_wordAt) 105 dX9_wordAt_103 kb_32 rfl ?_
  refine e_icmp_eqF (M := mX9_wordAt) 114 dX9_wordAt_105 rfl (by decide) ?_
  refine f_iinc (M := mX9_wordAt) (ls' := [_, _, _, _]) 111 dX9_wordAt_108 ki_1 rfl rfl rfl rfl ?_
  refine f_goto (M := mX9_wordAt) 97 dX9_wordAt_111 rfl ?_
  refine f_ldcR (M := mX9_wordAt) 99 dX9_wordAt_97 (x_kk rfl) csn_9045 csr_9045 rfl ?_
  refine f_iload_n (M := mX9_wordAt) 100 dX9_wordAt_99 rfl rfl ?_
  refine e_sch (M := mX9_wordAt) (j := 6 + 1 + 1 + 1 + 1) dX9_wordAt_100 sn_9053 sc_9053 (x_kk rfl) (x_kk rfl) (x_kk rfl) (x_kk rfl) (x_kk rfl) (ix_add (ix_add (ix_add (ix_add kn_6 kn_1) kn_1) kn_1) kn_1) (by decide) rfl (x_kk rfl) ?_
  refine f_bipush (M := mX9_wordAt) 105 dX9_wordAt_103 kb_32 rfl ?_
  refine e_icmp_eqF (M := mX9_wordAt) 114 dX9_wordAt_105 rfl (by decide) ?_
  refine f_iinc (M := mX9_wordAt) (ls' := [_, _, _, _]) 111 dX9_wordAt_108 ki_1 rfl rfl rfl rfl ?_
  refine f_goto (M := mX9_wordAt) 97 dX9_wordAt_111 rfl ?_
  refine f_ldcR (M := mX9_wordAt) 99 dX9_wordAt_97 (x_kk rfl) csn_9045 csr_9045 rfl ?_
  refine f_iload_n (M := mX9_wordAt) 100 dX9_wordAt_99 rfl rfl ?_
  refine e_sch (M := mX9_wordAt) (j := 6 + 1 + 1 + 1 + 1 + 1) dX9_wordAt_100 sn_9053 sc_9053 (x_kk rfl) (x_kk rfl) (x_kk rfl) (x_kk rfl) (x_kk rfl) (ix_add (ix_add (ix_add (ix_add (ix_add kn_6 kn_1) kn_1) kn_1) kn_1) kn_1) (by decide) rfl (x_kk rfl) ?_
  refine f_bipush (M := mX9_wordAt) 105 dX9_wordAt_103 kb_32 rfl ?_
  refine e_icmp_eqF (M := mX9_wordAt) 114 dX9_wordAt_105 rfl (by decide) ?_
  refine f_iinc (M := mX9_wordAt) (ls' := [_, _, _, _]) 111 dX9_wordAt_108 ki_1 rfl rfl rfl rfl ?_
  refine f_goto (M := mX9_wordAt) 97 dX9_wordAt_111 rfl ?_
  refine f_ldcR (M := mX9_wordAt) 99 dX9_wordAt_97 (x_kk rfl) csn_9045 csr_9045 rfl ?_
  refine f_iload_n (M := mX9_wordAt) 100 dX9_wordAt_99 rfl rfl ?_
  refine e_sch (M := mX9_wordAt) (j := 6 + 1 + 1 + 1 + 1 + 1 + 1) dX9_wordAt_100 sn_9053 sc_9053 (x_kk rfl) (x_kk rfl) (x_kk rfl) (x_kk rfl) (x_kk rfl) (ix_add (ix_add (ix_add (ix_add (ix_add (ix_add kn_6 kn_1) kn_1) kn_1) kn_1) kn_1) kn_1) (by decide) rfl (x_kk rfl) ?_
  refine f_bipush (M := mX9_wordAt) 105 dX9_wordAt_103 kb_32 rfl ?_
  refine e_icmp_eqF (M := mX9_wordAt) 114 dX9_wordAt_105 rfl (by decide) ?_
  refine f_iinc (M := mX9_wordAt) (ls' := [_, _, _, _]) 111 dX9_wordAt_108 ki_1 rfl rfl rfl rfl ?_
  refine f_goto (M := mX9_wordAt) 97 dX9_wordAt_111 rfl ?_
  refine f_ldcR (M := mX9_wordAt) 99 dX9_wordAt_97 (x_kk rfl) csn_9045 csr_9045 rfl ?_
  refine f_iload_n (M := mX9_wordAt) 100 dX9_wordAt_99 rfl rfl ?_
  refine e_sch (M := mX9_wordAt) (j := 6 + 1 + 1 + 1 + 1 + 1 + 1 + 1) dX9_wordAt_100 sn_9053 sc_9053 (x_kk rfl) (x_kk rfl) (x_kk rfl) (x_kk rfl) (x_kk rfl) (ix_add (ix_add (ix_add (ix_add (ix_add (ix_add (ix_add kn_6 kn_1) kn_1) kn_1) kn_1) kn_1) kn_1) kn_1) (by decide) rfl (x_kk rfl) ?_
  refine f_bipush (M := mX9_wordAt) 105 dX9_wordAt_103 kb_32 rfl ?_
  refine e_icmp_eqT (M := mX9_wordAt) 114 dX9_wordAt_105 rfl (by decide) ?_
  refine f_iinc (M := mX9_wordAt) (ls' := [_, _, _, _]) 117 dX9_wordAt_114 ki_1 rfl rfl rfl rfl ?_
  refine f_iinc (M := mX9_wordAt) (ls' := [_, _, _, _]) 120 dX9_wordAt_117 ki_1 rfl rfl rfl rfl ?_
  refine f_goto (M := mX9_wordAt) 4 dX9_wordAt_120 rfl ?_
  rw [show (Int32.ofNat 6 : Int32) + 1 + 1 + 1 + 1 + 1 + 1 + 1 + 1 = (14 : Int32) from by decide, show (1 : Int32) + 1 = 2 from by decide]
  refine f_iload_n (M := mX9_wordAt) 5 dX9_wordAt_4 rfl rfl ?_
  refine f_ldcR (M := mX9_wordAt) 7 dX9_wordAt_5 (x_kk rfl) csn_9045 csr_9045 rfl ?_
  refine e_sln (M := mX9_wordAt) dX9_wordAt_7 sl_9047 (x_kk rfl) (x_kk rfl) (x_kk rfl) (x_kk rfl) (x_kk rfl) (x_kk rfl) ?_
  refine e_icmp_geF (M := mX9_wordAt) 123 dX9_wordAt_10 rfl (by decide) ?_
  refine f_iconst (M := mX9_wordAt) 14 dX9_wordAt_13 ki_0 rfl ?_
  refine f_istore_n (M := mX9_wordAt) (ls' := [_, _, _, _]) 15 dX9_wordAt_14 rfl rfl rfl ?_
  refine l_word9 (b := 14) (l := 4) hR h10 h11 he8 hse (by decide) (by decide) (by decide) (fun z => ?_) (fun z x => ?_) 4 0 rfl (fun i hi => absurd hi (Nat.not_lt_zero _))
  · refine f_iload_n (M := mX9_wordAt) 96 dX9_wordAt_95 rfl rfl ?_
    refine e_ri (M := mX9_wordAt) dX9_wordAt_96 rfl (x_kk rfl) (x_kk rfl) ?_
    exact r_i (by rw [if_neg z0, if_neg z1, if_pos z])
  have z2 := z
  clear z
  refine f_ldcR (M := mX9_wordAt) 99 dX9_wordAt_97 (x_kk rfl) csn_9045 csr_9045 rfl ?_
  refine f_iload_n (M := mX9_wordAt) 100 dX9_wordAt_99 rfl rfl ?_
  refine e_sch (M := mX9_wordAt) (j := 14) dX9_wordAt_100 sn_9053 sc_9053 (x_kk rfl) (x_kk rfl) (x_kk rfl) (x_kk rfl) (x_kk rfl) kn_14 (by decide) rfl (x_kk rfl) ?_
  refine f_bipush (M := mX9_wordAt) 105 dX9_wordAt_103 kb_32 rfl ?_
  refine e_icmp_eqF (M := mX9_wordAt) 114 dX9_wordAt_105 rfl (by decide) ?_
  refine f_iinc (M := mX9_wordAt) (ls' := [_, _, _, _]) 111 dX9_wordAt_108 ki_1 rfl rfl rfl rfl ?_
  refine f_goto (M := mX9_wordAt) 97 dX9_wordAt_111 rfl ?_
  refine f_ldcR (M := mX9_wordAt) 99 dX9_wordAt_97 (x_kk rfl) csn_9045 csr_9045 rfl ?_
  refine f_iload_n (M := mX9_wordAt) 100 dX9_wordAt_99 rfl rfl ?_
  refine e_sch (M := mX9_wordAt) (j := 14 + 1) dX9_wordAt_100 sn_9053 sc_9053 (x_kk rfl) (x_kk rfl) (x_kk rfl) (x_kk rfl) (x_kk rfl) (ix_add kn_14 kn_1) (by decide) rfl (x_kk rfl) ?_
  refine f_bipush (M := mX9_wordAt) 105 dX9_wordAt_103 kb_32 rfl ?_
  refine e_icmp_eqF (M := mX9_wordAt) 114 dX9_wordAt_105 rfl (by decide) ?_
  refine f_iinc (M := mX9_wordAt) (ls' := [_, _, _, _]) 111 dX9_wordAt_108 ki_1 rfl rfl rfl rfl ?_
  refine f_goto (M := mX9_wordAt) 97 dX9_wordAt_111 rfl ?_
  refine f_ldcR (M := mX9_wordAt) 99 dX9_wordAt_97 (x_kk rfl) csn_9045 csr_9045 rfl ?_
  refine f_iload_n (M := mX9_wordAt) 100 dX9_wordAt_99 rfl rfl ?_
  refine e_sch (M := mX9_wordAt) (j := 14 + 1 + 1) dX9_wordAt_100 sn_9053 sc_9053 (x_kk rfl) (x_kk rfl) (x_kk rfl) (x_kk rfl) (x_kk rfl) (ix_add (ix_add kn_14 kn_1) kn_1) (by decide) rfl (x_kk rfl) ?_
  refine f_bipush (M := mX9_wordAt) 105 dX9_wordAt_103 kb_32 rfl ?_
  refine e_icmp_eqF (M := mX9_wordAt) 114 dX9_wordAt_105 rfl (by decide) ?_
  refine f_iinc (M := mX9_wordAt) (ls' := [_, _, _, _]) 111 dX9_wordAt_108 ki_1 rfl rfl rfl rfl ?_
  refine f_goto (M := mX9_wordAt) 97 dX9_wordAt_111 rfl ?_
  refine f_ldcR (M := mX9_wordAt) 99 dX9_wordAt_97 (x_kk rfl) csn_9045 csr_9045 rfl ?_
  refine f_iload_n (M := mX9_wordAt) 100 dX9_wordAt_99 rfl rfl ?_
  refine e_sch (M := mX9_wordAt) (j := 14 + 1 + 1 + 1) dX9_wordAt_100 sn_9053 sc_9053 (x_kk rfl) (x_kk rfl) (x_kk rfl) (x_kk rfl) (x_kk rfl) (ix_add (ix_add (ix_add kn_14 kn_1) kn_1) kn_1) (by decide) rfl (x_kk rfl) ?_
  refine f_bipush (M := mX9_wordAt) 105 dX9_wordAt_103 kb_32 rfl ?_
  refine e_icmp_eqF (M := mX9_wordAt) 114 dX9_wordAt_105 rfl (by decide) ?_
  refine f_iinc (M := mX9_wordAt) (ls' := [_, _, _, _]) 111 dX9_wordAt_108 ki_1 rfl rfl rfl rfl ?_
  refine f_goto (M := mX9_wordAt) 97 dX9_wordAt_111 rfl ?_
  refine f_ldcR (M := mX9_wordAt) 99 dX9_wordAt_97 (x_kk rfl) csn_9045 csr_9045 rfl ?_
  refine f_iload_n (M := mX9_wordAt) 100 dX9_wordAt_99 rfl rfl ?_
  refine e_sch (M := mX9_wordAt) (j := 14 + 1 + 1 + 1 + 1) dX9_wordAt_100 sn_9053 sc_9053 (x_kk rfl) (x_kk rfl) (x_kk rfl) (x_kk rfl) (x_kk rfl) (ix_add (ix_add (ix_add (ix_add kn_14 kn_1) kn_1) kn_1) kn_1) (by decide) rfl (x_kk rfl) ?_
  refine f_bipush (M := mX9_wordAt) 105 dX9_wordAt_103 kb_32 rfl ?_
  refine e_icmp_eqT (M := mX9_wordAt) 114 dX9_wordAt_105 rfl (by decide) ?_
  refine f_iinc (M := mX9_wordAt) (ls' := [_, _, _, _]) 117 dX9_wordAt_114 ki_1 rfl rfl rfl rfl ?_
  refine f_iinc (M := mX9_wordAt) (ls' := [_, _, _, _]) 120 dX9_wordAt_117 ki_1 rfl rfl rfl rfl ?_
  refine f_goto (M := mX9_wordAt) 4 dX9_wordAt_120 rfl ?_
  rw [show (Int32.ofNat 14 : Int32) + 1 + 1 + 1 + 1 + 1 = (19 : Int32) from by decide, show (2 : Int32) + 1 = 3 from by decide]
  refine f_iload_n (M := mX9_wordAt) 5 dX9_wordAt_4 rfl rfl ?_
  refine f_ldcR (M := mX9_wordAt) 7 dX9_wordAt_5 (x_kk rfl) csn_9045 csr_9045 rfl ?_
  refine e_sln (M := mX9_wordAt) dX9_wordAt_7 sl_9047 (x_kk rfl) (x_kk rfl) (x_kk rfl) (x_kk rfl) (x_kk rfl) (x_kk rfl) ?_
  refine e_icmp_geT (M := mX9_wordAt) 123 dX9_wordAt_10 rfl (by decide) ?_
  refine f_iconst (M := mX9_wordAt) 124 dX9_wordAt_123 ki_3 rfl ?_
  refine e_ri (M := mX9_wordAt) dX9_wordAt_124 rfl (x_kk rfl) (x_kk rfl) ?_
  exact r_i (by rw [if_neg z0, if_neg z1, if_neg z2])
end

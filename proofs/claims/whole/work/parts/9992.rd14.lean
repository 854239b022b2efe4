/-! ===== load, of both (laid by wip/whole/src/rd14.py) ===== -/
section
variable {X : x_X} {I : Nat → Nat → Int32} {L : Nat → Nat → Int64} {R : Nat → Nat → Option Nat} {N : Nat}
section
theorem Cv_d {M : x_MI} {as : List Value} {μ : x_Mem} {n : Nat} {r1 r2 : x_O × x_Mem × Nat} (h1 : x_Cv X M as μ n r1) (h2 : x_Cv X M as μ n r2) : r1 = r2 := by
  obtain ⟨F, e1⟩ := h1
  obtain ⟨G, e2⟩ := h2
  have a1 := x_run_le (Nat.le_max_left F G) e1
  have a2 := x_run_le (Nat.le_max_right F G) e2
  rw [a1] at a2
  exact Option.some.inj a2
variable {β δ ν kn bn : Nat} {γ : Nat → Nat} {a a' : Nat → Int32} {b b' : Nat → Int64} {ks : Nat → (Nat → Int32) × (Nat → Int64)} {bf : Nat → Int32} {ep : Int32} {I0 I' : Nat → Nat → Int32} {L0 L' : Nat → Nat → Int64}
theorem keep_d (S : y_SB I L R β δ γ ν a b kn ks bf bn ep) (hk : x_Cv X mX3_keep [.ref 3, .ref β] (I, L, R) 233 (.inl none, (I0, L0, R), 233)) : ∀ k, k < 22 → I0 (δ + k) = I (δ + k) ∧ L0 (δ + k) = L (δ + k) := by
  obtain ⟨⟨hR, hβ, hδ, hγ, h02, h03, h4, hbd, hgn, hgg⟩, hν, h31, hkn, h32, hrep, hks, hrd⟩ := S
  have hm : (ν + 1) % 8 < 8 := Nat.mod_lt _ (by decide)
  have hK := c_X3_keep (X := X) (I := I) (L := L) hR hβ (hγ _ hm) hν h31 (h4 _ hm)
  have e := Cv_d hk hK
  have eI : I0 = kp_2 (cp6_I (kp_1 I ((ν + 1) % 8)) (γ ((ν + 1) % 8)) β) (x_min (cp6_I (kp_1 I ((ν + 1) % 8)) (γ ((ν + 1) % 8)) β 3 2 + 1) 8) := congrArg (fun r => r.2.1.1) e
  have eL : L0 = cp6_L L (γ ((ν + 1) % 8)) β := congrArg (fun r => r.2.1.2.1) e
  intro k hk
  have hne : ¬ γ ((ν + 1) % 8) = δ := (hgn _ hm).2
  have hj : ∀ j, j < 22 → ¬ δ + k = γ ((ν + 1) % 8) + j := fun j hj => sl_ne (hγ _ hm) hδ hne hk hj
  have h3 : ¬ δ + k = 3 := fun z => sl_far hδ (Or.inl (by decide)) hk z.symm
  rw [eI, eL]
  refine ⟨?_, cp_Lo hj⟩
  unfold kp_2
  rw [x_up_ne _ _ h3, cp_o hj]
  unfold kp_1
  rw [x_up_ne _ _ h3]
theorem keeps_d (S : y_SM I L R a b kn ks bf bn ep) (hk : x_Cv X mX9_keeps [.ref 225] (I, L, R) 233 (.inl none, (I0, L0, R), 233)) : I0 227 = I 227 := by
  obtain ⟨hR, h1, h2, h3, h4, h5, h6, h7, h8⟩ := S
  by_cases h : kn = 8
  · subst h
    have e := Cv_d hk (c_X9_keeps_8 (X := X) (L := L) hR h4)
    have eI : I0 = _ := congrArg (fun r => r.2.1.1) e
    rw [eI]
    rfl
  · have e := Cv_d hk (c_X9_keeps (X := X) (L := L) hR (show kn < 8 by omega) h4)
    have eI : I0 = _ := congrArg (fun r => r.2.1.1) e
    rw [eI]
    rfl
/-- the reader and the draft change, nothing else -/
theorem SB_r {ep' : Int32} (S : y_SB I L R β δ γ ν a b kn ks bf bn ep) (hI : ∀ q, ¬ q = 1 → (∀ j, j < 22 → ¬ q = δ + j) → I' q = I q ∧ L' q = L q) (h1 : I' 1 1 = 0) (h2 : I' 1 2 = ep') : y_SB I' L' R β δ γ ν a b kn ks bf 0 ep' := by
  obtain ⟨⟨hR, hβ, hδ, hγ, h02, h03, h4, hbd, hgn, hgg⟩, hν, h31, hkn, h32, hrep, hks, hrd⟩ := S
  have e3 := (hI 3 (by decide) (fun j hj => sl_far hδ (Or.inl (by decide)) hj)).1
  have f : ∀ β', x_sl β' → ¬ β' = δ → ∀ k, k < 22 → I' (β' + k) = I (β' + k) ∧ L' (β' + k) = L (β' + k) := fun β' hs hne k hk => hI _ (fun z => sl_far hs (Or.inl (by decide)) hk z.symm) (fun j hj => sl_ne hδ hs (fun z => hne z.symm) hk hj)
  refine ⟨⟨hR, hβ, hδ, hγ, h02, h03, h4, hbd, hgn, hgg⟩, hν, by rw [e3]; exact h31, hkn, by rw [e3]; exact h32, Rep_c (fun k hk => (f β hβ hbd k hk).1) (fun k hk => (f β hβ hbd k hk).2) hrep, fun i hi => ?_, by omega, h1, fun j hj => absurd hj (Nat.not_lt_zero _), h2⟩
  have hw : (ν + 8 - i) % 8 < 8 := Nat.mod_lt _ (by decide)
  exact Rep_c (fun k hk => (f _ (hγ _ hw) (hgn _ hw).2 k hk).1) (fun k hk => (f _ (hγ _ hw) (hgn _ hw).2 k hk).2) (hks i hi)
/-- sale and draft change places -/
theorem SB_sw (S : y_SB I L R β δ γ ν a b kn ks bf bn ep) (hr : y_Rep I L δ a' b') : y_SB I L (va_up (va_up R 0 (va_up (R 0) 2 (some δ))) 0 (va_up ((va_up R 0 (va_up (R 0) 2 (some δ))) 0) 3 (some β))) δ β γ ν a' b' kn ks bf bn ep := by
  obtain ⟨⟨hR, hβ, hδ, hγ, h02, h03, h4, hbd, hgn, hgg⟩, hν, h31, hkn, h32, hrep, hks, hrd⟩ := S
  refine ⟨⟨?_, hδ, hβ, hγ, ?_, ?_, fun j hj => ?_, fun z => hbd z.symm, fun j hj => ⟨(hgn j hj).2, (hgn j hj).1⟩, hgg⟩, hν, h31, hkn, h32, hr, hks, hrd⟩
  · refine wf_c (fun q h1 h2 => ?_) ?_ ?_ hR
    · rw [x_up_ne _ _ h2, x_up_ne _ _ h2]
    · rw [x_up_self, x_up_ne _ _ (by decide), x_up_self, x_up_ne _ _ (by decide)]
    · rw [x_up_self, x_up_ne _ _ (by decide), x_up_self, x_up_ne _ _ (by decide)]
  · rw [x_up_self, x_up_ne _ _ (by decide), x_up_self, x_up_self]
  · rw [x_up_self, x_up_self]
  · rw [x_up_ne _ _ (by decide), x_up_ne _ _ (by decide)]; exact h4 j hj
end
theorem kf_load (hR : x_wf R) {v : Int32} (h : ¬ (0 ≤ v ∧ v ≤ I 1 1)) : x_Cv X mX8_load [.ref 0, .int v] (I, L, R) 233 (.inr 1, (I, L, R), 233) := by
  show x_Ev X mX8_load 0 [some (.ref 0), some (.int v), none, none] [] ((I, L, R), 233, 0, 0) _
  refine f_iload_n (M := mX8_load) 1 dX8_load_0 rfl rfl ?_
  refine f_iconst (M := mX8_load) 2 dX8_load_1 ki_0 rfl ?_
  refine f_aload_n (M := mX8_load) 3 dX8_load_2 rfl rfl ?_
  refine e_getR (M := mX8_load) dX8_load_3 fl_8010 (x_kk rfl) (x_kk rfl) rfl (wf_8_0 hR) ?_
  refine e_getI (M := mX8_load) dX8_load_6 fl_8045 (x_kk rfl) (x_kk rfl) rfl ?_
  refine e_cS (M := mX8_load) [_] 0 0 dX8_load_9 pa_8049 cc_8049 rfl rfl rfl rfl rfl (x_kk rfl) (x_kk rfl) rfl (c_X8_isIn (lo := 0)) rfl ?_
  exact e_cSX (M := mX8_load) 1 6 dX8_load_12 pa_8053 cc_8053 rfl rfl rfl rfl rfl (x_kk rfl) (x_kk rfl) rfl (c_X8_requireArgument_x (x_b0 h)) rfl
theorem kl_no (hR : x_wf R) {β δ : Nat} (hβ : x_sl β) (hδ : x_sl δ) (h02 : R 0 2 = some β) (h03 : R 0 3 = some δ) {v e : Int32} (h : 0 ≤ v ∧ v ≤ I 1 1) {I1 : Nat → Nat → Int32} {L1 : Nat → Nat → Int64} (ki : x_Cv X mX5_readInto [.ref 1, .ref δ, .int v] (I, L, R) 233 (.inl (some (.int e)), (I1, L1, R), 233)) (he : e < 0) : x_Cv X mX8_load [.ref 0, .int v] (I, L, R) 233 (.inl (some (.int (e))), (I1, L1, R), 233) := by
  show x_Ev X mX8_load 0 [some (.ref 0), some (.int v), none, none] [] ((I, L, R), 233, 0, 0) _
  refine f_iload_n (M := mX8_load) 1 dX8_load_0 rfl rfl ?_
  refine f_iconst (M := mX8_load) 2 dX8_load_1 ki_0 rfl ?_
  refine f_aload_n (M := mX8_load) 3 dX8_load_2 rfl rfl ?_
  refine e_getR (M := mX8_load) dX8_load_3 fl_8010 (x_kk rfl) (x_kk rfl) rfl (wf_8_0 hR) ?_
  refine e_getI (M := mX8_load) dX8_load_6 fl_8045 (x_kk rfl) (x_kk rfl) rfl ?_
  refine e_cS (M := mX8_load) [_] 0 0 dX8_load_9 pa_8049 cc_8049 rfl rfl rfl rfl rfl (x_kk rfl) (x_kk rfl) rfl (c_X8_isIn (lo := 0)) rfl ?_
  refine e_cS (M := mX8_load) [] 1 6 dX8_load_12 pa_8053 cc_8053 rfl rfl rfl rfl rfl (x_kk rfl) (x_kk rfl) rfl (c_X8_requireArgument (x_bn h)) rfl ?_
  refine f_aload_n (M := mX8_load) 16 dX8_load_15 rfl rfl ?_
  refine e_getR (M := mX8_load) dX8_load_16 fl_8010 (x_kk rfl) (x_kk rfl) rfl (wf_8_0 hR) ?_
  refine f_aload_n (M := mX8_load) 20 dX8_load_19 rfl rfl ?_
  refine e_getR (M := mX8_load) dX8_load_20 fl_8030 (x_kk rfl) (x_kk rfl) rfl h03 ?_
  refine f_iload_n (M := mX8_load) 24 dX8_load_23 rfl rfl ?_
  refine e_cV (M := mX8_load) [_] 1 6 dX8_load_24 pa_8056 pb_8056 cc_8056 rfl rfl rfl rfl rfl (x_kk rfl) (x_kk rfl) rfl (ki) rfl ?_
  refine f_istore_n (M := mX8_load) (ls' := [_, _, _, _]) 28 dX8_load_27 rfl rfl rfl ?_
  refine f_iload_n (M := mX8_load) 29 dX8_load_28 rfl rfl ?_
  refine e_if_ltT (M := mX8_load) 61 dX8_load_29 rfl he ?_
  refine f_iload_n (M := mX8_load) 62 dX8_load_61 rfl rfl ?_
  refine e_ri (M := mX8_load) dX8_load_62 rfl (x_kk rfl) (x_kk rfl) ?_
  rfl
theorem kl_ok (hR : x_wf R) {β δ : Nat} (hβ : x_sl β) (hδ : x_sl δ) (h02 : R 0 2 = some β) (h03 : R 0 3 = some δ) {v e : Int32} (h : 0 ≤ v ∧ v ≤ I 1 1) {I1 : Nat → Nat → Int32} {L1 : Nat → Nat → Int64} (ki : x_Cv X mX5_readInto [.ref 1, .ref δ, .int v] (I, L, R) 233 (.inl (some (.int e)), (I1, L1, R), 233)) (he : ¬ e < 0) {I0 : Nat → Nat → Int32} {L0 : Nat → Nat → Int64} (hk : x_Cv X mX3_keep [.ref 3, .ref β] (I1, L1, R) 233 (.inl none, (I0, L0, R), 233)) : x_Cv X mX8_load [.ref 0, .int v] (I, L, R) 233 (.inl (some (.int (e))), (I0, L0, va_up (va_up R 0 (va_up (R 0) 2 (some δ))) 0 (va_up ((va_up R 0 (va_up (R 0) 2 (some δ))) 0) 3 (some β))), 233) := by
  show x_Ev X mX8_load 0 [some (.ref 0), some (.int v), none, none] [] ((I, L, R), 233, 0, 0) _
  refine f_iload_n (M := mX8_load) 1 dX8_load_0 rfl rfl ?_
  refine f_iconst (M := mX8_load) 2 dX8_load_1 ki_0 rfl ?_
  refine f_aload_n (M := mX8_load) 3 dX8_load_2 rfl rfl ?_
  refine e_getR (M := mX8_load) dX8_load_3 fl_8010 (x_kk rfl) (x_kk rfl) rfl (wf_8_0 hR) ?_
  refine e_getI (M := mX8_load) dX8_load_6 fl_8045 (x_kk rfl) (x_kk rfl) rfl ?_
  refine e_cS (M := mX8_load) [_] 0 0 dX8_load_9 pa_8049 cc_8049 rfl rfl rfl rfl rfl (x_kk rfl) (x_kk rfl) rfl (c_X8_isIn (lo := 0)) rfl ?_
  refine e_cS (M := mX8_load) [] 1 6 dX8_load_12 pa_8053 cc_8053 rfl rfl rfl rfl rfl (x_kk rfl) (x_kk rfl) rfl (c_X8_requireArgument (x_bn h)) rfl ?_
  refine f_aload_n (M := mX8_load) 16 dX8_load_15 rfl rfl ?_
  refine e_getR (M := mX8_load) dX8_load_16 fl_8010 (x_kk rfl) (x_kk rfl) rfl (wf_8_0 hR) ?_
  refine f_aload_n (M := mX8_load) 20 dX8_load_19 rfl rfl ?_
  refine e_getR (M := mX8_load) dX8_load_20 fl_8030 (x_kk rfl) (x_kk rfl) rfl h03 ?_
  refine f_iload_n (M := mX8_load) 24 dX8_load_23 rfl rfl ?_
  refine e_cV (M := mX8_load) [_] 1 6 dX8_load_24 pa_8056 pb_8056 cc_8056 rfl rfl rfl rfl rfl (x_kk rfl) (x_kk rfl) rfl (ki) rfl ?_
  refine f_istore_n (M := mX8_load) (ls' := [_, _, _, _]) 28 dX8_load_27 rfl rfl rfl ?_
  refine f_iload_n (M := mX8_load) 29 dX8_load_28 rfl rfl ?_
  refine e_if_ltF (M := mX8_load) 61 dX8_load_29 rfl he ?_
  refine f_aload_n (M := mX8_load) 33 dX8_load_32 rfl rfl ?_
  refine e_getR (M := mX8_load) dX8_load_33 fl_8019 (x_kk rfl) (x_kk rfl) rfl (wf_8_1 hR) ?_
  refine f_aload_n (M := mX8_load) 37 dX8_load_36 rfl rfl ?_
  refine e_getR (M := mX8_load) dX8_load_37 fl_8026 (x_kk rfl) (x_kk rfl) rfl h02 ?_
  refine e_cV (M := mX8_load) [] 1 6 dX8_load_40 pa_8060 pb_8060 cc_8060 rfl rfl rfl rfl rfl (x_kk rfl) (x_kk rfl) rfl (hk) rfl ?_
  refine f_aload_n (M := mX8_load) 44 dX8_load_43 rfl rfl ?_
  refine e_getR (M := mX8_load) dX8_load_44 fl_8026 (x_kk rfl) (x_kk rfl) rfl h02 ?_
  refine f_astore_n (M := mX8_load) (ls' := [_, _, _, _]) 48 dX8_load_47 rfl rfl rfl ?_
  refine f_aload_n (M := mX8_load) 49 dX8_load_48 rfl rfl ?_
  refine f_aload_n (M := mX8_load) 50 dX8_load_49 rfl rfl ?_
  refine e_getR (M := mX8_load) dX8_load_50 fl_8030 (x_kk rfl) (x_kk rfl) rfl h03 ?_
  refine e_putR (M := mX8_load) dX8_load_53 fl_8026 (x_kk rfl) (x_kk rfl) rfl (fun q9 => Bool.noConfusion q9) ?_
  refine f_aload_n (M := mX8_load) 57 dX8_load_56 rfl rfl ?_
  refine f_aload_n (M := mX8_load) 58 dX8_load_57 rfl rfl ?_
  refine e_putR (M := mX8_load) dX8_load_58 fl_8030 (x_kk rfl) (x_kk rfl) rfl (fun q9 => Bool.noConfusion q9) ?_
  refine f_iload_n (M := mX8_load) 62 dX8_load_61 rfl rfl ?_
  refine e_ri (M := mX8_load) dX8_load_62 rfl (x_kk rfl) (x_kk rfl) ?_
  rfl
theorem mf_load (hR : x_wf R) {v : Int32} (h : ¬ (0 ≤ v ∧ v ≤ I 225 8)) : x_Cv X mX9_load [.ref 225, .int v] (I, L, R) 233 (.inl (some (.int (0))), (x_tw I 1, L, R), 233) := by
  show x_Ev X mX9_load 0 [some (.ref 225), some (.int v), none] [] ((I, L, R), 233, 0, 0) _
  refine f_aload_n (M := mX9_load) 1 dX9_load_0 rfl rfl ?_
  refine f_iload_n (M := mX9_load) 2 dX9_load_1 rfl rfl ?_
  refine f_i2l (M := mX9_load) 3 dX9_load_2 rfl ?_
  refine f_lconst (M := mX9_load) 4 dX9_load_3 kl_0 rfl ?_
  refine f_aload_n (M := mX9_load) 5 dX9_load_4 rfl rfl ?_
  refine e_getI (M := mX9_load) dX9_load_5 fl_9039 (x_kk rfl) (x_kk rfl) rfl ?_
  refine f_i2l (M := mX9_load) 9 dX9_load_8 rfl ?_
  refine e_cS (M := mX9_load) [_, _] 0 0 dX9_load_9 pa_9074 cc_9074 rfl rfl rfl rfl rfl (x_kk rfl) (x_kk rfl) rfl (c_X9_isInI (lo := 0)) rfl ?_
  refine e_if_eqT (M := mX9_load) 19 dX9_load_12 rfl (x_b0 h) ?_
  refine f_iconst (M := mX9_load) 20 dX9_load_19 ki_1 rfl ?_
  refine e_putI (M := mX9_load) dX9_load_20 fl_9033 (x_kk rfl) (x_kk rfl) rfl (fun q9 => Bool.noConfusion q9) ?_
  refine f_aload_n (M := mX9_load) 24 dX9_load_23 rfl rfl ?_
  refine e_getI (M := mX9_load) dX9_load_24 fl_9033 (x_kk rfl) (x_kk rfl) rfl ?_
  refine e_if_leF (M := mX9_load) 32 dX9_load_27 rfl (show ¬ ((1 : Int32) ≤ 0) by decide) ?_
  refine f_iconst (M := mX9_load) 31 dX9_load_30 ki_0 rfl ?_
  refine e_ri (M := mX9_load) dX9_load_31 rfl (x_kk rfl) (x_kk rfl) ?_
  rfl
theorem l_ld1 (hR : x_wf R) {v : Int32} {r : x_O × x_Mem × Nat} (kk : x_Ev X mX9_load 74 [some (.ref 225), some (.int v), some (.int (Int32.ofNat 606))] [] (((va_up I 227 (y_z (I 227) 0 606)), L, R), 233, 0, 0) r) : ∀ d k, k + d = 606 → x_Ev X mX9_load 54 [some (.ref 225), some (.int v), some (.int (Int32.ofNat k))] [] (((va_up I 227 (y_z (I 227) 0 k)), L, R), 233, 0, 0) r := by
  intro d
  induction d with
  | zero =>
    intro k hd
    obtain rfl : 606 = k := hd.symm
    refine f_iload_n (M := mX9_load) 55 dX9_load_54 rfl rfl ?_
    refine f_sipush (M := mX9_load) 58 dX9_load_55 ks_606 rfl ?_
    refine e_icmp_geT (M := mX9_load) 74 dX9_load_58 rfl (by decide) ?_
    exact kk
  | succ d ih =>
    intro k hd
    refine f_iload_n (M := mX9_load) 55 dX9_load_54 rfl rfl ?_
    refine f_sipush (M := mX9_load) 58 dX9_load_55 ks_606 rfl ?_
    refine e_icmp_geF (M := mX9_load) 74 dX9_load_58 rfl (by rw [kn_606, n_le (by omega) (by omega)]; omega) ?_
    refine f_aload_n (M := mX9_load) 62 dX9_load_61 rfl rfl ?_
    refine e_getR (M := mX9_load) dX9_load_62 fl_9013 (x_kk rfl) (x_kk rfl) rfl (wf_9_1 hR) ?_
    refine f_iload_n (M := mX9_load) 66 dX9_load_65 rfl rfl ?_
    refine f_iconst (M := mX9_load) 67 dX9_load_66 ki_0 rfl ?_
    refine e_ist (M := mX9_load) (w := 606) (j := k) dX9_load_67 (x_kk rfl) rfl rfl (by omega) (by omega) ?_
    refine f_iinc (M := mX9_load) (ls' := [_, _, _]) 71 dX9_load_68 ki_1 rfl rfl rfl rfl ?_
    refine f_goto (M := mX9_load) 54 dX9_load_71 rfl ?_
    rw [n_inc (s := k), up_s, up_up, z_s0]; exact ih (k + 1) (by omega)
theorem l_ld2 (hR : x_wf R) {v : Int32} {r : x_O × x_Mem × Nat} (kk : x_Ev X mX9_load 144 [some (.ref 225), some (.int v), some (.int (Int32.ofNat 606))] [] (((va_up I 226 (x_mix (I 227) (I 226) 606)), L, R), 233, 0, 0) r) : ∀ d k, k + d = 606 → x_Ev X mX9_load 119 [some (.ref 225), some (.int v), some (.int (Int32.ofNat k))] [] (((va_up I 226 (x_mix (I 227) (I 226) k)), L, R), 233, 0, 0) r := by
  intro d
  induction d with
  | zero =>
    intro k hd
    obtain rfl : 606 = k := hd.symm
    refine f_iload_n (M := mX9_load) 120 dX9_load_119 rfl rfl ?_
    refine f_sipush (M := mX9_load) 123 dX9_load_120 ks_606 rfl ?_
    refine e_icmp_geT (M := mX9_load) 144 dX9_load_123 rfl (by decide) ?_
    exact kk
  | succ d ih =>
    intro k hd
    refine f_iload_n (M := mX9_load) 120 dX9_load_119 rfl rfl ?_
    refine f_sipush (M := mX9_load) 123 dX9_load_120 ks_606 rfl ?_
    refine e_icmp_geF (M := mX9_load) 144 dX9_load_123 rfl (by rw [kn_606, n_le (by omega) (by omega)]; omega) ?_
    refine f_aload_n (M := mX9_load) 127 dX9_load_126 rfl rfl ?_
    refine e_getR (M := mX9_load) dX9_load_127 fl_9007 (x_kk rfl) (x_kk rfl) rfl (wf_9_0 hR) ?_
    refine f_iload_n (M := mX9_load) 131 dX9_load_130 rfl rfl ?_
    refine f_aload_n (M := mX9_load) 132 dX9_load_131 rfl rfl ?_
    refine e_getR (M := mX9_load) dX9_load_132 fl_9013 (x_kk rfl) (x_kk rfl) rfl (wf_9_1 hR) ?_
    refine f_iload_n (M := mX9_load) 136 dX9_load_135 rfl rfl ?_
    refine e_ild (M := mX9_load) (w := 606) (j := k) dX9_load_136 (x_kk rfl) rfl rfl (by omega) (by omega) ?_
    refine e_ist (M := mX9_load) (w := 606) (j := k) dX9_load_137 (x_kk rfl) rfl rfl (by omega) (by omega) ?_
    refine f_iinc (M := mX9_load) (ls' := [_, _, _]) 141 dX9_load_138 ki_1 rfl rfl rfl rfl ?_
    refine f_goto (M := mX9_load) 119 dX9_load_141 rfl ?_
    rw [n_inc (s := k), up_s, up_up, x_up_ne _ _ (show (227 : Nat) ≠ 226 by decide), mix_up rfl]; exact ih (k + 1) (by omega)
theorem l_ld3 (hR : x_wf R) {v : Int32} {r : x_O × x_Mem × Nat} (kk : x_Ev X mX9_load 165 [some (.ref 225), some (.int v), some (.int (Int32.ofNat 37))] [] ((I, (va_up L 229 (y_zl (L 229) 37)), R), 233, 0, 0) r) : ∀ d k, k + d = 37 → x_Ev X mX9_load 146 [some (.ref 225), some (.int v), some (.int (Int32.ofNat k))] [] ((I, (va_up L 229 (y_zl (L 229) k)), R), 233, 0, 0) r := by
  intro d
  induction d with
  | zero =>
    intro k hd
    obtain rfl : 37 = k := hd.symm
    refine f_iload_n (M := mX9_load) 147 dX9_load_146 rfl rfl ?_
    refine f_bipush (M := mX9_load) 149 dX9_load_147 kb_37 rfl ?_
    refine e_icmp_geT (M := mX9_load) 165 dX9_load_149 rfl (by decide) ?_
    exact kk
  | succ d ih =>
    intro k hd
    refine f_iload_n (M := mX9_load) 147 dX9_load_146 rfl rfl ?_
    refine f_bipush (M := mX9_load) 149 dX9_load_147 kb_37 rfl ?_
    refine e_icmp_geF (M := mX9_load) 165 dX9_load_149 rfl (by rw [kn_37, n_le (by omega) (by omega)]; omega) ?_
    refine f_aload_n (M := mX9_load) 153 dX9_load_152 rfl rfl ?_
    refine e_getR (M := mX9_load) dX9_load_153 fl_9019 (x_kk rfl) (x_kk rfl) rfl (wf_9_3 hR) ?_
    refine f_iload_n (M := mX9_load) 157 dX9_load_156 rfl rfl ?_
    refine f_lconst (M := mX9_load) 158 dX9_load_157 kl_0 rfl ?_
    refine e_lst (M := mX9_load) (w := 37) (j := k) dX9_load_158 (x_kk rfl) rfl rfl (by omega) (by omega) ?_
    refine f_iinc (M := mX9_load) (ls' := [_, _, _]) 162 dX9_load_159 ki_1 rfl rfl rfl rfl ?_
    refine f_goto (M := mX9_load) 146 dX9_load_162 rfl ?_
    rw [n_inc (s := k), up_s, up_up, zl_s]; exact ih (k + 1) (by omega)
end

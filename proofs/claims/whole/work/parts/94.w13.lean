/-! ===== changes of both, thirteenth: undo, append (laid by wip/whole/src/w13.py) ===== -/
section
variable {X : x_X} {I : Nat → Nat → Int32} {L : Nat → Nat → Int64} {R : Nat → Nat → Option Nat} {N : Nat}
section
variable {β δ ν kn bn : Nat} {γ : Nat → Nat} {a : Nat → Int32} {b : Nat → Int64} {ks : Nat → (Nat → Int32) × (Nat → Int64)} {bf : Nat → Int32} {ep : Int32}
theorem wf_c {R' : Nat → Nat → Option Nat} (e : ∀ q, ¬ q = 4 → ¬ q = 0 → R' q = R q) (e0 : R' 0 0 = R 0 0) (e1 : R' 0 1 = R 0 1) (h : x_wf R) : x_wf R' := by
  refine ⟨fun β hβ => ?_, ?_⟩
  · have g : ∀ k, k < 22 → R' (β + k) = R (β + k) := fun k hk => e _ (fun z => sl_far hβ (Or.inl (by decide)) hk z.symm) (fun z => sl_far hβ (Or.inl (by decide)) hk z.symm)
    rw [g 7 (by decide), g 12 (by decide), g 5 (by decide), g 17 (by decide), g 0 (by decide), g 1 (by decide)]
    exact h.1 β hβ
  · rw [e 3 (by decide) (by decide), e 1 (by decide) (by decide), e 225 (by decide) (by decide), e0, e1]
    exact h.2
theorem SB_undo (hk : 0 < kn) (S : y_SB I L R β δ γ ν a b kn ks bf bn ep) : y_SB (kp_2 (kp_1 I ((ν + 8 - 1) % 8)) (Int32.ofNat (kn - 1))) L (va_up (va_up R 4 (va_up (R 4) ν (some β))) 0 (va_up ((va_up R 4 (va_up (R 4) ν (some β))) 0) 2 (some (γ ν)))) (γ ν) δ (fun j => if j = ν then β else γ j) ((ν + 8 - 1) % 8) (ks 0).1 (ks 0).2 (kn - 1) (fun i => ks (i + 1)) bf bn ep := by
  obtain ⟨⟨hR, hβ, hδ, hγ, h02, h03, h4, hbd, hgn, hgg⟩, hν, h31, hkn, h32, hrep, hks, hrd⟩ := S
  have fI : ∀ q, ¬ q = 3 → kp_2 (kp_1 I ((ν + 8 - 1) % 8)) (Int32.ofNat (kn - 1)) q = I q := fun q hq => by unfold kp_2 kp_1; rw [x_up_ne _ _ hq, x_up_ne _ _ hq]
  have fs : ∀ β', x_sl β' → ∀ k, k < 22 → kp_2 (kp_1 I ((ν + 8 - 1) % 8)) (Int32.ofNat (kn - 1)) (β' + k) = I (β' + k) := fun β' hs k hk => fI _ (fun z => sl_far hs (Or.inl (by decide)) hk z.symm)
  have hw := hgn ν hν
  refine ⟨⟨?_, hγ ν hν, hδ, fun j hj => ?_, ?_, ?_, fun j hj => ?_, hw.2, fun j hj => ?_, fun i j hi hj hne => ?_⟩, Nat.mod_lt _ (by decide), ?_, by omega, ?_, ?_, fun i hi => ?_, ?_⟩
  · refine wf_c (fun q h1 h2 => ?_) ?_ ?_ hR
    · rw [x_up_ne _ _ h2, x_up_ne _ _ h1]
    · rw [x_up_self, x_up_ne _ _ (by decide), x_up_ne _ _ (by decide)]
    · rw [x_up_self, x_up_ne _ _ (by decide), x_up_ne _ _ (by decide)]
  · show x_sl (if j = ν then β else γ j)
    by_cases e : j = ν
    · rw [if_pos e]; exact hβ
    · rw [if_neg e]; exact hγ j hj
  · rw [x_up_self, x_up_self]
  · rw [x_up_self, x_up_ne _ _ (by decide), x_up_ne _ _ (by decide)]; exact h03
  · dsimp only
    rw [x_up_ne _ _ (by decide), x_up_self]
    by_cases e : j = ν
    · rw [e, x_up_self, if_pos rfl]
    · rw [x_up_ne _ _ e, if_neg e]; exact h4 j hj
  · dsimp only
    by_cases e : j = ν
    · rw [if_pos e]; exact ⟨fun z => hw.1 z.symm, hbd⟩
    · rw [if_neg e]; exact ⟨hgg j ν hj hν e, (hgn j hj).2⟩
  · dsimp only
    by_cases e1 : i = ν
    · by_cases e2 : j = ν
      · omega
      · rw [if_pos e1, if_neg e2]; exact fun z => (hgn j hj).1 z.symm
    · by_cases e2 : j = ν
      · rw [if_neg e1, if_pos e2]; exact (hgn i hi).1
      · rw [if_neg e1, if_neg e2]; exact hgg i j hi hj hne
  · unfold kp_2 kp_1
    rw [x_up_self, x_up_ne _ _ (by decide), x_up_self, x_up_self]
  · unfold kp_2
    rw [x_up_self, x_up_self]
  · have h0 := hks 0 hk
    rw [show (ν + 8 - 0) % 8 = ν by omega] at h0
    exact Rep_c (fun k hk => fs _ (hγ ν hν) k hk) (fun k hk => rfl) h0
  · have h1 := hks (i + 1) (by omega)
    rw [show ((ν + 8 - 1) % 8 + 8 - i) % 8 = (ν + 8 - (i + 1)) % 8 by omega]
    have hm : (ν + 8 - (i + 1)) % 8 < 8 := Nat.mod_lt _ (by decide)
    dsimp only
    rw [if_neg (by omega)]
    exact Rep_c (fun k hk => fs _ (hγ _ hm) k hk) (fun k hk => rfl) h1
  · obtain ⟨d1, d2, d3, d4⟩ := hrd
    unfold y_RD
    rw [fI 1 (by decide), fI 2 (by decide)]
    exact ⟨d1, d2, d3, d4⟩
theorem SM_undo {n : Nat} (h606 : ∀ j, 606 ≤ j → a j = 0) (h37 : ∀ j, 37 ≤ j → b j = 0) (g606 : ∀ j, 606 ≤ j → (ks 0).1 j = 0) (g37 : ∀ j, 37 ≤ j → (ks 0).2 j = 0) (S : y_SM I L R a b (n + 1) ks bf bn ep) : y_SM (x_ud (x_km (x_tw I 0) (Int32.ofNat n)) n 606) (x_udl L n 37) R (ks 0).1 (ks 0).2 n (fun i => ks (i + 1)) bf bn ep := by
  obtain ⟨hR, h1, h2, h3, h4, h5, h6, h7, h8⟩ := S
  have k0 := h5 0 (by omega)
  refine ⟨hR, ?_, ?_, by omega, rfl, fun i hi => ?_, h6, h7, h8⟩
  · funext j
    show (if j < 606 then I 228 (606 * n + j) else I 226 j) = (ks 0).1 j
    by_cases c : j < 606
    · rw [if_pos c, ← k0.1 j c]
      congr 1
    · rw [if_neg c, h1, h606 j (by omega), g606 j (by omega)]
  · funext j
    show (if j < 37 then L 230 (37 * n + j) else L 229 j) = (ks 0).2 j
    by_cases c : j < 37
    · rw [if_pos c, ← k0.2 j c]
      congr 1
    · rw [if_neg c, h2, h37 j (by omega), g37 j (by omega)]
  · have ki := h5 (i + 1) (by omega)
    refine ⟨fun j hj => ?_, fun j hj => ?_⟩
    · rw [← ki.1 j hj]
      show I 228 _ = I 228 _
      congr 1
      omega
    · rw [← ki.2 j hj]
      show L 230 _ = L 230 _
      congr 1
      omega
end
theorem sim_undo (T : y_T N I L R) : y_OI N X mL_undo [.ref 0, .ref 232] mX9_undo [.ref 225] I L R := by
  have T0 := T
  obtain ⟨a, b, kn, ks, bf, bn, ep, ⟨β, δ, γ, ν, hB⟩, hM, hI⟩ := T
  have H : y_CS N I L R β a b := ⟨hM.1, hB.1.2.1, hB.1.2.2.2.2.1, hB.2.2.2.2.2.1, hI.1⟩
  obtain ⟨Ns, Np, Nl, Nm, Z⟩ := Z_of hI.1
  have hR := hM.1
  have ha : I 226 = a := hM.2.1
  have hb : L 229 = b := hM.2.2.1
  subst ha
  subst hb
  obtain ⟨hNs, hn, hNp, hp, hNl, hl, hNm, hmm⟩ := id Z
  obtain ⟨⟨_, hβ, hδ, hγ, h02, h03, h4, hbd, hgn, hgg⟩, hν, h31, hkn, h32, hrep, hks, hrd⟩ := id hB
  by_cases h0 : kn = 0
  · subst h0
    exact OI_x T0 (by decide) (w_undo_x0 (c_X8_undo_x0 hR (by rw [h32]; decide))) (c_X9_undo_1 hR hM.2.2.2.2.1)
  · obtain ⟨n, rfl⟩ : ∃ n, kn = n + 1 := ⟨kn - 1, by omega⟩
    have c1 := c_X8_undo_ok (X := X) (L := L) hR hβ h02 hν h31 (h4 ν hν) (by rw [h32, kn_0, n_le (by omega) (by omega)]; omega)
    have e3 : kp_1 I ((ν + 8 - 1) % 8) 3 2 = I 3 2 := by unfold kp_1; rw [x_up_self, x_up_ne _ _ (by decide)]
    have en : Int32.ofNat (n + 1) - 1 = Int32.ofNat n := by rw [ix_sub rfl kn_1 (by omega), Nat.add_sub_cancel]
    rw [e3, h32, en] at c1
    have SB2 := SB_undo (by omega) hB
    rw [Nat.add_sub_cancel] at SB2
    have k1 := w_undo c1
    have fI : ∀ q, 225 ≤ q → kp_2 (kp_1 I ((ν + 8 - 1) % 8)) (Int32.ofNat n) q = I q := fun q hq => by unfold kp_2 kp_1; rw [x_up_ne _ _ (by omega), x_up_ne _ _ (by omega)]
    have M1 := SM_f (I' := kp_2 (kp_1 I ((ν + 8 - 1) % 8)) (Int32.ofNat n)) (L' := va_up L 232 (va_up (L 232) 0 (Int32.ofNat n).toInt64)) hM SB2.1.1 (fun q z1 z2 => ⟨fI q z1, x_up_ne _ _ (by omega)⟩)
    have i0 := hI.2.1 0 (by omega)
    refine OI_c (a' := (ks 0).1) (b' := (ks 0).2) k1 ⟨_, _, _, _, SB2⟩ (c_X9_undo_0 SB2.1.1 (by omega) M1.2.2.2.2.1) rfl (SM_undo hI.1.2.2.2.2.2.2.1 hI.1.2.2.2.2.2.2.2 i0.2.2.2.2.2.2.1 i0.2.2.2.2.2.2.2 M1) (fun q hq => ⟨?_, ?_⟩) ⟨Inv_m (by omega) i0, fun i hi => Inv_m (by omega) (hI.2.1 (i + 1) (by omega)), hI.2.2⟩
    · unfold x_ud x_km x_tw
      rw [x_up_ne _ _ (by omega), x_up_ne _ _ (by omega), x_up_ne _ _ (by omega)]
    · unfold x_udl
      rw [x_up_ne _ _ (by omega)]
theorem by8 {x : Int32} : (x &&& 255).toInt8 = x.toInt8 := by
  rw [Int32.toInt8_and, show (255 : Int32).toInt8 = -1 from by decide]
  simp
theorem nar8 {x : Int32} : vp_nar .byte (x.toInt8.toInt32) = x.toInt8.toInt32 := by
  show x.toInt8.toInt32.toInt8.toInt32 = _
  simp
theorem m255 {x : Int32} : y_in (x &&& 255) 0 255 := by
  have e : (x &&& 255).toBitVec.toNat = x.toBitVec.toNat &&& 255 := by rw [Int32.toBitVec_and, BitVec.toNat_and]; rfl
  have l : x.toBitVec.toNat &&& 255 ≤ 255 := Nat.and_le_right
  have t : (x &&& 255).toInt = ((x &&& 255).toBitVec.toNat : Int) := by
    rw [← Int32.toInt_toBitVec]
    exact BitVec.toInt_eq_toNat_of_lt (by omega)
  unfold y_in
  rw [t, e]
  omega
def y_sh (t : Nat) : Int32 := if t = 0 then 24 else if t = 1 then 16 else if t = 2 then 8 else 0
def y_b1 (v : Int32) (t : Nat) : Int32 := (v >>> (y_sh t &&& 31)).toInt8.toInt32
def y_sel (v0 v1 v2 v3 v4 : Int32) (k : Nat) : Int32 := if k < 4 then v0 else if k < 8 then v1 else if k < 12 then v2 else if k < 16 then v3 else v4
def y_ab (v0 v1 v2 v3 v4 : Int32) (k : Nat) : Int32 := (y_sel v0 v1 v2 v3 v4 k >>> (y_sh (k % 4) &&& 31)) &&& 255
theorem sh_e : ∀ k, k < 20 → (24 : Int32) - 8 * (Int32.ofNat k - Int32.ofNat k / 4 * 4) = y_sh (k % 4) := by decide
theorem ab_e {v0 v1 v2 v3 v4 v : Int32} {k : Nat} (h : k < 20) (z : y_sel v0 v1 v2 v3 v4 k = v) : (v >>> (((24 : Int32) - 8 * (Int32.ofNat k - Int32.ofNat k / 4 * 4)) &&& 31)) &&& 255 = y_ab v0 v1 v2 v3 v4 k := by
  unfold y_ab
  rw [z, sh_e k h]
theorem pt4 {f g : Nat → Int32} {n : Nat} : y_put f n g 4 = va_up (va_up (va_up (va_up f n (g 0)) (n + 1) (g 1)) (n + 2) (g 2)) (n + 3) (g 3) := by
  rw [← pt_s, ← pt_s, ← pt_s, ← pt_s, pt_0]
  rfl
theorem h24 : (24 : Int32) = y_sh 0 := by decide
theorem h16 : (24 : Int32) + -8 = y_sh 1 := by decide
theorem h8 : y_sh 1 + -8 = y_sh 2 := by decide
theorem h0 : y_sh 2 + -8 = y_sh 3 := by decide
theorem c_X5_take (hR : x_wf R) {n : Nat} (hn4 : n + 4 ≤ 800) (hn : I 1 1 = Int32.ofNat n) {v : Int32} : x_Cv X mX5_take [.ref 1, .int v] (I, L, R) 233 (.inl none, (va_up (va_up I 2 (y_put (I 2) n (y_b1 v) 4)) 1 (va_up (I 1) 1 (Int32.ofNat (n + 4))), L, R), 233) := by
  show x_Ev X mX5_take 0 [some (.ref 1), some (.int v), none] [] ((I, L, R), 233, 0, 0) _
  refine f_bipush (M := mX5_take) 2 dX5_take_0 kb_24 rfl ?_
  refine f_istore_n (M := mX5_take) (ls' := [_, _, _]) 3 dX5_take_2 rfl rfl rfl ?_
  refine f_iload_n (M := mX5_take) 4 dX5_take_3 rfl rfl ?_
  refine e_if_ltF (M := mX5_take) 36 dX5_take_4 rfl (by decide) ?_
  refine f_aload_n (M := mX5_take) 8 dX5_take_7 rfl rfl ?_
  refine e_getR (M := mX5_take) dX5_take_8 fl_5009 (x_kk rfl) (x_kk rfl) rfl (wf_5_0 hR) ?_
  refine f_aload_n (M := mX5_take) 12 dX5_take_11 rfl rfl ?_
  refine e_getI (M := mX5_take) dX5_take_12 fl_5019 (x_kk rfl) (x_kk rfl) rfl ?_
  refine f_iload_n (M := mX5_take) 16 dX5_take_15 rfl rfl ?_
  refine f_iload_n (M := mX5_take) 17 dX5_take_16 rfl rfl ?_
  refine f_ishr (M := mX5_take) 18 dX5_take_17 rfl ?_
  refine f_i2b (M := mX5_take) 19 dX5_take_18 rfl ?_
  refine e_bst (M := mX5_take) (w := 800) (j := n) dX5_take_19 (x_kk rfl) rfl hn (by omega) (by omega) ?_
  refine f_aload_n (M := mX5_take) 21 dX5_take_20 rfl rfl ?_
  refine f_dup (M := mX5_take) 22 dX5_take_21 rfl rfl ?_
  refine e_getI (M := mX5_take) dX5_take_22 fl_5019 (x_kk rfl) (x_kk rfl) rfl ?_
  refine f_iconst (M := mX5_take) 26 dX5_take_25 ki_1 rfl ?_
  refine f_iadd (M := mX5_take) 27 dX5_take_26 rfl ?_
  refine e_putI (M := mX5_take) dX5_take_27 fl_5019 (x_kk rfl) (x_kk rfl) rfl (fun q9 => Bool.noConfusion q9) ?_
  refine f_iinc (M := mX5_take) (ls' := [_, _, _]) 33 dX5_take_30 ki_m8 rfl rfl rfl rfl ?_
  refine f_goto (M := mX5_take) 3 dX5_take_33 rfl ?_
  refine f_iload_n (M := mX5_take) 4 dX5_take_3 rfl rfl ?_
  refine e_if_ltF (M := mX5_take) 36 dX5_take_4 rfl (by decide) ?_
  refine f_aload_n (M := mX5_take) 8 dX5_take_7 rfl rfl ?_
  refine e_getR (M := mX5_take) dX5_take_8 fl_5009 (x_kk rfl) (x_kk rfl) rfl (wf_5_0 hR) ?_
  refine f_aload_n (M := mX5_take) 12 dX5_take_11 rfl rfl ?_
  refine e_getI (M := mX5_take) dX5_take_12 fl_5019 (x_kk rfl) (x_kk rfl) rfl ?_
  refine f_iload_n (M := mX5_take) 16 dX5_take_15 rfl rfl ?_
  refine f_iload_n (M := mX5_take) 17 dX5_take_16 rfl rfl ?_
  refine f_ishr (M := mX5_take) 18 dX5_take_17 rfl ?_
  refine f_i2b (M := mX5_take) 19 dX5_take_18 rfl ?_
  refine e_bst (M := mX5_take) (w := 800) (j := n + 1) dX5_take_19 (x_kk rfl) rfl (by show I 1 1 + 1 = _; rw [hn, n_inc]) (by omega) (by omega) ?_
  refine f_aload_n (M := mX5_take) 21 dX5_take_20 rfl rfl ?_
  refine f_dup (M := mX5_take) 22 dX5_take_21 rfl rfl ?_
  refine e_getI (M := mX5_take) dX5_take_22 fl_5019 (x_kk rfl) (x_kk rfl) rfl ?_
  refine f_iconst (M := mX5_take) 26 dX5_take_25 ki_1 rfl ?_
  refine f_iadd (M := mX5_take) 27 dX5_take_26 rfl ?_
  refine e_putI (M := mX5_take) dX5_take_27 fl_5019 (x_kk rfl) (x_kk rfl) rfl (fun q9 => Bool.noConfusion q9) ?_
  refine f_iinc (M := mX5_take) (ls' := [_, _, _]) 33 dX5_take_30 ki_m8 rfl rfl rfl rfl ?_
  refine f_goto (M := mX5_take) 3 dX5_take_33 rfl ?_
  refine f_iload_n (M := mX5_take) 4 dX5_take_3 rfl rfl ?_
  refine e_if_ltF (M := mX5_take) 36 dX5_take_4 rfl (by decide) ?_
  refine f_aload_n (M := mX5_take) 8 dX5_take_7 rfl rfl ?_
  refine e_getR (M := mX5_take) dX5_take_8 fl_5009 (x_kk rfl) (x_kk rfl) rfl (wf_5_0 hR) ?_
  refine f_aload_n (M := mX5_take) 12 dX5_take_11 rfl rfl ?_
  refine e_getI (M := mX5_take) dX5_take_12 fl_5019 (x_kk rfl) (x_kk rfl) rfl ?_
  refine f_iload_n (M := mX5_take) 16 dX5_take_15 rfl rfl ?_
  refine f_iload_n (M := mX5_take) 17 dX5_take_16 rfl rfl ?_
  refine f_ishr (M := mX5_take) 18 dX5_take_17 rfl ?_
  refine f_i2b (M := mX5_take) 19 dX5_take_18 rfl ?_
  refine e_bst (M := mX5_take) (w := 800) (j := n + 2) dX5_take_19 (x_kk rfl) rfl (by show I 1 1 + 1 + 1 = _; rw [hn, n_inc, n_inc]) (by omega) (by omega) ?_
  refine f_aload_n (M := mX5_take) 21 dX5_take_20 rfl rfl ?_
  refine f_dup (M := mX5_take) 22 dX5_take_21 rfl rfl ?_
  refine e_getI (M := mX5_take) dX5_take_22 fl_5019 (x_kk rfl) (x_kk rfl) rfl ?_
  refine f_iconst (M := mX5_take) 26 dX5_take_25 ki_1 rfl ?_
  refine f_iadd (M := mX5_take) 27 dX5_take_26 rfl ?_
  refine e_putI (M := mX5_take) dX5_take_27 fl_5019 (x_kk rfl) (x_kk rfl) rfl (fun q9 => Bool.noConfusion q9) ?_
  refine f_iinc (M := mX5_take) (ls' := [_, _, _]) 33 dX5_take_30 ki_m8 rfl rfl rfl rfl ?_
  refine f_goto (M := mX5_take) 3 dX5_take_33 rfl ?_
  refine f_iload_n (M := mX5_take) 4 dX5_take_3 rfl rfl ?_
  refine e_if_ltF (M := mX5_take) 36 dX5_take_4 rfl (by decide) ?_
  refine f_aload_n (M := mX5_take) 8 dX5_take_7 rfl rfl ?_
  refine e_getR (M := mX5_take) dX5_take_8 fl_5009 (x_kk rfl) (x_kk rfl) rfl (wf_5_0 hR) ?_
  refine f_aload_n (M := mX5_take) 12 dX5_take_11 rfl rfl ?_
  refine e_getI (M := mX5_take) dX5_take_12 fl_5019 (x_kk rfl) (x_kk rfl) rfl ?_
  refine f_iload_n (M := mX5_take) 16 dX5_take_15 rfl rfl ?_
  refine f_iload_n (M := mX5_take) 17 dX5_take_16 rfl rfl ?_
  refine f_ishr (M := mX5_take) 18 dX5_take_17 rfl ?_
  refine f_i2b (M := mX5_take) 19 dX5_take_18 rfl ?_
  refine e_bst (M := mX5_take) (w := 800) (j := n + 3) dX5_take_19 (x_kk rfl) rfl (by show I 1 1 + 1 + 1 + 1 = _; rw [hn, n_inc, n_inc, n_inc]) (by omega) (by omega) ?_
  refine f_aload_n (M := mX5_take) 21 dX5_take_20 rfl rfl ?_
  refine f_dup (M := mX5_take) 22 dX5_take_21 rfl rfl ?_
  refine e_getI (M := mX5_take) dX5_take_22 fl_5019 (x_kk rfl) (x_kk rfl) rfl ?_
  refine f_iconst (M := mX5_take) 26 dX5_take_25 ki_1 rfl ?_
  refine f_iadd (M := mX5_take) 27 dX5_take_26 rfl ?_
  refine e_putI (M := mX5_take) dX5_take_27 fl_5019 (x_kk rfl) (x_kk rfl) rfl (fun q9 => Bool.noConfusion q9) ?_
  refine f_iinc (M := mX5_take) (ls' := [_, _, _]) 33 dX5_take_30 ki_m8 rfl rfl rfl rfl ?_
  refine f_goto (M := mX5_take) 3 dX5_take_33 rfl ?_
  refine f_iload_n (M := mX5_take) 4 dX5_take_3 rfl rfl ?_
  refine e_if_ltT (M := mX5_take) 36 dX5_take_4 rfl (by decide) ?_
  refine e_rv (M := mX5_take) dX5_take_36 rfl (x_kk rfl) (x_kk rfl) ?_
  exact (by rw [pt4]; unfold y_b1; simp only [nar8, up4 (show (2 : Nat) ≠ 1 by decide), va_uu, x_up_self, x_up_ne _ _ (show (2 : Nat) ≠ 1 by decide), x_up_ne _ _ (show (1 : Nat) ≠ 2 by decide), hn, n_inc, h16, h8, h0]; rw [← h24])
theorem c_X5_hasRoom  : x_Cv X mX5_hasRoom [.ref 1] (I, L, R) 233 (.inl (some (.int (x_b (I 1 1 ≤ 780)))), (I, L, R), 233) := by
  show x_Ev X mX5_hasRoom 0 [some (.ref 1)] [] ((I, L, R), 233, 0, 0) _
  refine f_aload_n (M := mX5_hasRoom) 1 dX5_hasRoom_0 rfl rfl ?_
  refine e_getI (M := mX5_hasRoom) dX5_hasRoom_1 fl_5019 (x_kk rfl) (x_kk rfl) rfl ?_
  refine f_sipush (M := mX5_hasRoom) 7 dX5_hasRoom_4 ks_780 rfl ?_
  refine e_icmp_gt (M := mX5_hasRoom) (t := 14) dX5_hasRoom_7 rfl (fun h => ?_) (fun h => ?_)
  · refine f_iconst (M := mX5_hasRoom) 15 dX5_hasRoom_14 ki_0 rfl ?_
    refine e_rb (M := mX5_hasRoom) dX5_hasRoom_15 rfl (x_kk rfl) (x_kk rfl) (by decide) ?_
    exact (by rw [x_b0 (i_nle.mpr h)])
  · refine f_iconst (M := mX5_hasRoom) 11 dX5_hasRoom_10 ki_1 rfl ?_
    refine f_goto (M := mX5_hasRoom) 15 dX5_hasRoom_11 rfl ?_
    refine e_rb (M := mX5_hasRoom) dX5_hasRoom_15 rfl (x_kk rfl) (x_kk rfl) (by decide) ?_
    exact (by rw [x_b1 (i_nlt.mp h)])
theorem kf_append (hR : x_wf R) (h : ¬ I 1 1 ≤ 780) {v0 : Int32} {v1 : Int32} {v2 : Int32} {v3 : Int32} {v4 : Int32} : x_Cv X mX8_append [.ref 0, .int v0, .int v1, .int v2, .int v3, .int v4] (I, L, R) 233 (.inr 0, (I, L, R), 233) := by
  show x_Ev X mX8_append 0 [some (.ref 0), some (.int v0), some (.int v1), some (.int v2), some (.int v3), some (.int v4)] [] ((I, L, R), 233, 0, 0) _
  refine f_aload_n (M := mX8_append) 1 dX8_append_0 rfl rfl ?_
  refine e_getR (M := mX8_append) dX8_append_1 fl_8010 (x_kk rfl) (x_kk rfl) rfl (wf_8_0 hR) ?_
  refine e_cV (M := mX8_append) [_] 0 0 dX8_append_4 pa_8033 pb_8033 cc_8033 rfl rfl rfl rfl rfl (x_kk rfl) (x_kk rfl) rfl (c_X5_hasRoom) rfl ?_
  exact e_cSX (M := mX8_append) 1 6 dX8_append_7 pa_8037 cc_8037 rfl rfl rfl rfl rfl (x_kk rfl) (x_kk rfl) rfl (c_X8_requireState_x (x_b0 h)) rfl
theorem ko_append (hR : x_wf R) (h : I 1 1 ≤ 780) {n : Nat} (hn2 : n ≤ 780) (hn : I 1 1 = Int32.ofNat n) {v0 : Int32} {v1 : Int32} {v2 : Int32} {v3 : Int32} {v4 : Int32} : x_Cv X mX8_append [.ref 0, .int v0, .int v1, .int v2, .int v3, .int v4] (I, L, R) 233 (.inl (some (.int (Int32.ofNat (n + 20)))), ((va_up (va_up I 2 (y_put (y_put (y_put (y_put (y_put (I 2) n (y_b1 v0) 4) (n + 4) (y_b1 v1) 4) (n + 8) (y_b1 v2) 4) (n + 12) (y_b1 v3) 4) (n + 16) (y_b1 v4) 4)) 1 (va_up (I 1) 1 (Int32.ofNat (n + 20)))), L, R), 233) := by
  show x_Ev X mX8_append 0 [some (.ref 0), some (.int v0), some (.int v1), some (.int v2), some (.int v3), some (.int v4)] [] ((I, L, R), 233, 0, 0) _
  refine f_aload_n (M := mX8_append) 1 dX8_append_0 rfl rfl ?_
  refine e_getR (M := mX8_append) dX8_append_1 fl_8010 (x_kk rfl) (x_kk rfl) rfl (wf_8_0 hR) ?_
  refine e_cV (M := mX8_append) [_] 0 0 dX8_append_4 pa_8033 pb_8033 cc_8033 rfl rfl rfl rfl rfl (x_kk rfl) (x_kk rfl) rfl (c_X5_hasRoom) rfl ?_
  refine e_cS (M := mX8_append) [] 1 6 dX8_append_7 pa_8037 cc_8037 rfl rfl rfl rfl rfl (x_kk rfl) (x_kk rfl) rfl (c_X8_requireState (x_bn h)) rfl ?_
  refine f_aload_n (M := mX8_append) 11 dX8_append_10 rfl rfl ?_
  refine e_getR (M := mX8_append) dX8_append_11 fl_8010 (x_kk rfl) (x_kk rfl) rfl (wf_8_0 hR) ?_
  refine f_iload_n (M := mX8_append) 15 dX8_append_14 rfl rfl ?_
  refine e_cV (M := mX8_append) [] 1 6 dX8_append_15 pa_8041 pb_8041 cc_8041 rfl rfl rfl rfl rfl (x_kk rfl) (x_kk rfl) rfl (c_X5_take hR (n := n) (by omega) hn) rfl ?_
  refine f_aload_n (M := mX8_append) 19 dX8_append_18 rfl rfl ?_
  refine e_getR (M := mX8_append) dX8_append_19 fl_8010 (x_kk rfl) (x_kk rfl) rfl (wf_8_0 hR) ?_
  refine f_iload_n (M := mX8_append) 23 dX8_append_22 rfl rfl ?_
  refine e_cV (M := mX8_append) [] 1 6 dX8_append_23 pa_8041 pb_8041 cc_8041 rfl rfl rfl rfl rfl (x_kk rfl) (x_kk rfl) rfl (c_X5_take hR (n := n + 4) (by omega) (by rw [x_up_self, x_up_self])) rfl ?_
  refine f_aload_n (M := mX8_append) 27 dX8_append_26 rfl rfl ?_
  refine e_getR (M := mX8_append) dX8_append_27 fl_8010 (x_kk rfl) (x_kk rfl) rfl (wf_8_0 hR) ?_
  refine f_iload_n (M := mX8_append) 31 dX8_append_30 rfl rfl ?_
  refine e_cV (M := mX8_append) [] 1 6 dX8_append_31 pa_8041 pb_8041 cc_8041 rfl rfl rfl rfl rfl (x_kk rfl) (x_kk rfl) rfl (c_X5_take hR (n := n + 8) (by omega) (by rw [x_up_self, x_up_self])) rfl ?_
  refine f_aload_n (M := mX8_append) 35 dX8_append_34 rfl rfl ?_
  refine e_getR (M := mX8_append) dX8_append_35 fl_8010 (x_kk rfl) (x_kk rfl) rfl (wf_8_0 hR) ?_
  refine f_iload (M := mX8_append) 40 dX8_append_38 rfl rfl ?_
  refine e_cV (M := mX8_append) [] 1 6 dX8_append_40 pa_8041 pb_8041 cc_8041 rfl rfl rfl rfl rfl (x_kk rfl) (x_kk rfl) rfl (c_X5_take hR (n := n + 12) (by omega) (by rw [x_up_self, x_up_self])) rfl ?_
  refine f_aload_n (M := mX8_append) 44 dX8_append_43 rfl rfl ?_
  refine e_getR (M := mX8_append) dX8_append_44 fl_8010 (x_kk rfl) (x_kk rfl) rfl (wf_8_0 hR) ?_
  refine f_iload (M := mX8_append) 49 dX8_append_47 rfl rfl ?_
  refine e_cV (M := mX8_append) [] 1 6 dX8_append_49 pa_8041 pb_8041 cc_8041 rfl rfl rfl rfl rfl (x_kk rfl) (x_kk rfl) rfl (c_X5_take hR (n := n + 16) (by omega) (by rw [x_up_self, x_up_self])) rfl ?_
  refine f_aload_n (M := mX8_append) 53 dX8_append_52 rfl rfl ?_
  refine e_getR (M := mX8_append) dX8_append_53 fl_8010 (x_kk rfl) (x_kk rfl) rfl (wf_8_0 hR) ?_
  refine e_getI (M := mX8_append) dX8_append_56 fl_8045 (x_kk rfl) (x_kk rfl) rfl ?_
  refine e_ri (M := mX8_append) dX8_append_59 rfl (x_kk rfl) (x_kk rfl) ?_
  exact (by simp only [up4 (show (2 : Nat) ≠ 1 by decide), va_uu, x_up_self, x_up_ne _ _ (show (2 : Nat) ≠ 1 by decide), x_up_ne _ _ (show (1 : Nat) ≠ 2 by decide)])
theorem mf_append (hR : x_wf R) (h : ¬ I 225 8 + 20 ≤ 800) {v0 : Int32} {v1 : Int32} {v2 : Int32} {v3 : Int32} {v4 : Int32} : x_Cv X mX9_append [.ref 225, .int v0, .int v1, .int v2, .int v3, .int v4] (I, L, R) 233 (.inl (some (.int (0))), (x_tw I 1, L, R), 233) := by
  show x_Ev X mX9_append 0 [some (.ref 225), some (.int v0), some (.int v1), some (.int v2), some (.int v3), some (.int v4), none, none] [] ((I, L, R), 233, 0, 0) _
  refine f_aload_n (M := mX9_append) 1 dX9_append_0 rfl rfl ?_
  refine f_aload_n (M := mX9_append) 2 dX9_append_1 rfl rfl ?_
  refine e_getI (M := mX9_append) dX9_append_2 fl_9039 (x_kk rfl) (x_kk rfl) rfl ?_
  refine f_bipush (M := mX9_append) 7 dX9_append_5 kb_20 rfl ?_
  refine f_iadd (M := mX9_append) 8 dX9_append_7 rfl ?_
  refine f_sipush (M := mX9_append) 11 dX9_append_8 ks_800 rfl ?_
  refine e_icmp_leF (M := mX9_append) 18 dX9_append_11 rfl h ?_
  refine f_iconst (M := mX9_append) 15 dX9_append_14 ki_1 rfl ?_
  refine f_goto (M := mX9_append) 19 dX9_append_15 rfl ?_
  refine e_putI (M := mX9_append) dX9_append_19 fl_9033 (x_kk rfl) (x_kk rfl) rfl (fun q9 => Bool.noConfusion q9) ?_
  refine f_aload_n (M := mX9_append) 23 dX9_append_22 rfl rfl ?_
  refine e_getI (M := mX9_append) dX9_append_23 fl_9033 (x_kk rfl) (x_kk rfl) rfl ?_
  refine e_if_leF (M := mX9_append) 31 dX9_append_26 rfl (show ¬ ((1 : Int32) ≤ 0) by decide) ?_
  refine f_iconst (M := mX9_append) 30 dX9_append_29 ki_0 rfl ?_
  refine e_ri (M := mX9_append) dX9_append_30 rfl (x_kk rfl) (x_kk rfl) ?_
  rfl
theorem l_X9_append (hR : x_wf R) {n : Nat} (hn2 : n ≤ 780) {v0 : Int32} {v1 : Int32} {v2 : Int32} {v3 : Int32} {v4 : Int32} {w7 : Option Value} : ∀ d k, k + d = 20 → x_Ev X mX9_append 34 [some (.ref 225), some (.int v0), some (.int v1), some (.int v2), some (.int v3), some (.int v4), some (.int (Int32.ofNat k)), w7] [] (((va_up (va_up I 231 (y_put (I 231) n (y_ab v0 v1 v2 v3 v4) (k))) 225 (va_up (I 225) 8 (Int32.ofNat (n + k)))), L, R), 233, 0, 0) (.inl (some (.int (Int32.ofNat (n + 20)))), ((va_up (va_up I 231 (y_put (I 231) n (y_ab v0 v1 v2 v3 v4) (20))) 225 (va_up (I 225) 8 (Int32.ofNat (n + 20)))), L, R), 233) := by
  intro d
  induction d generalizing w7 with
  | zero =>
    intro k hd
    obtain rfl : 20 = k := hd.symm
    refine f_iload (M := mX9_append) 36 dX9_append_34 rfl rfl ?_
    refine f_bipush (M := mX9_append) 38 dX9_append_36 kb_20 rfl ?_
    refine e_icmp_geT (M := mX9_append) 131 dX9_append_38 rfl (by decide) ?_
    refine f_aload_n (M := mX9_append) 132 dX9_append_131 rfl rfl ?_
    refine e_getI (M := mX9_append) dX9_append_132 fl_9039 (x_kk rfl) (x_kk rfl) rfl ?_
    refine e_ri (M := mX9_append) dX9_append_135 rfl (x_kk rfl) (x_kk rfl) ?_
    exact (by rw [x_up_self, x_up_self])
  | succ d ih =>
    intro k hd
    refine f_iload (M := mX9_append) 36 dX9_append_34 rfl rfl ?_
    refine f_bipush (M := mX9_append) 38 dX9_append_36 kb_20 rfl ?_
    refine e_icmp_geF (M := mX9_append) 131 dX9_append_38 rfl (by rw [kn_20, n_le (by omega) (by omega)]; omega) ?_
    refine f_iload (M := mX9_append) 43 dX9_append_41 rfl rfl ?_
    refine f_iconst (M := mX9_append) 44 dX9_append_43 ki_4 rfl ?_
    refine e_icmp_ge (M := mX9_append) (t := 51) dX9_append_44 rfl (fun g0 => ?_) (fun g0 => ?_)
    · refine f_iload (M := mX9_append) 53 dX9_append_51 rfl rfl ?_
      refine f_bipush (M := mX9_append) 55 dX9_append_53 kb_8 rfl ?_
      refine e_icmp_ge (M := mX9_append) (t := 62) dX9_append_55 rfl (fun g1 => ?_) (fun g1 => ?_)
      · refine f_iload (M := mX9_append) 64 dX9_append_62 rfl rfl ?_
        refine f_bipush (M := mX9_append) 66 dX9_append_64 kb_12 rfl ?_
        refine e_icmp_ge (M := mX9_append) (t := 73) dX9_append_66 rfl (fun g2 => ?_) (fun g2 => ?_)
        · refine f_iload (M := mX9_append) 75 dX9_append_73 rfl rfl ?_
          refine f_bipush (M := mX9_append) 77 dX9_append_75 kb_16 rfl ?_
          refine e_icmp_ge (M := mX9_append) (t := 85) dX9_append_77 rfl (fun g3 => ?_) (fun g3 => ?_)
          · refine f_iload (M := mX9_append) 87 dX9_append_85 rfl rfl ?_
            refine f_istore (M := mX9_append) (ls' := [_, _, _, _, _, _, _, _]) 89 dX9_append_87 rfl rfl rfl ?_
            refine f_aload_n (M := mX9_append) 90 dX9_append_89 rfl rfl ?_
            refine e_getR (M := mX9_append) dX9_append_90 fl_9026 (x_kk rfl) (x_kk rfl) rfl (wf_9_7 hR) ?_
            refine f_aload_n (M := mX9_append) 94 dX9_append_93 rfl rfl ?_
            refine e_getI (M := mX9_append) dX9_append_94 fl_9039 (x_kk rfl) (x_kk rfl) rfl ?_
            refine f_iload (M := mX9_append) 99 dX9_append_97 rfl rfl ?_
            refine f_bipush (M := mX9_append) 101 dX9_append_99 kb_24 rfl ?_
            refine f_bipush (M := mX9_append) 103 dX9_append_101 kb_8 rfl ?_
            refine f_iload (M := mX9_append) 105 dX9_append_103 rfl rfl ?_
            refine f_iconst (M := mX9_append) 106 dX9_append_105 ki_4 rfl ?_
            refine e_irem (M := mX9_append) dX9_append_106 (by decide) ?_
            refine f_imul (M := mX9_append) 108 dX9_append_107 rfl ?_
            refine f_isub (M := mX9_append) 109 dX9_append_108 rfl ?_
            refine f_ishr (M := mX9_append) 110 dX9_append_109 rfl ?_
            refine f_sipush (M := mX9_append) 113 dX9_append_110 ks_255 rfl ?_
            refine f_iand (M := mX9_append) 114 dX9_append_113 rfl ?_
            refine e_ist (M := mX9_append) (w := 800) (j := n + k) dX9_append_114 (x_kk rfl) rfl (by rw [x_up_self, x_up_self]) (by omega) (by omega) ?_
            refine f_aload_n (M := mX9_append) 116 dX9_append_115 rfl rfl ?_
            refine f_dup (M := mX9_append) 117 dX9_append_116 rfl rfl ?_
            refine e_getI (M := mX9_append) dX9_append_117 fl_9039 (x_kk rfl) (x_kk rfl) rfl ?_
            refine f_iconst (M := mX9_append) 121 dX9_append_120 ki_1 rfl ?_
            refine f_iadd (M := mX9_append) 122 dX9_append_121 rfl ?_
            refine e_putI (M := mX9_append) dX9_append_122 fl_9039 (x_kk rfl) (x_kk rfl) rfl (fun q9 => Bool.noConfusion q9) ?_
            refine f_iinc (M := mX9_append) (ls' := [_, _, _, _, _, _, _, _]) 128 dX9_append_125 ki_1 rfl rfl rfl rfl ?_
            refine f_goto (M := mX9_append) 34 dX9_append_128 rfl ?_
            rw [kn_4, n_le (by omega) (by omega)] at g0; rw [kn_8, n_le (by omega) (by omega)] at g1; rw [kn_12, n_le (by omega) (by omega)] at g2; rw [kn_16, n_le (by omega) (by omega)] at g3; rw [ab_e (v0 := v0) (v1 := v1) (v2 := v2) (v3 := v3) (v4 := v4) (by omega) (by unfold y_sel; rw [if_neg (by omega)]; rw [if_neg (by omega)]; rw [if_neg (by omega)]; rw [if_neg (by omega)]), up4 (by decide), n_inc (s := k)]; simp only [x_up_self, x_up_ne _ _ (show (225 : Nat) ≠ 231 by decide), x_up_ne _ _ (show (231 : Nat) ≠ 225 by decide), va_uu]; rw [pt_s, n_inc (s := n + k)]; exact ih (w7 := _) (k + 1) (by omega)
          · refine f_iload (M := mX9_append) 82 dX9_append_80 rfl rfl ?_
            refine f_goto (M := mX9_append) 87 dX9_append_82 rfl ?_
            refine f_istore (M := mX9_append) (ls' := [_, _, _, _, _, _, _, _]) 89 dX9_append_87 rfl rfl rfl ?_
            refine f_aload_n (M := mX9_append) 90 dX9_append_89 rfl rfl ?_
            refine e_getR (M := mX9_append) dX9_append_90 fl_9026 (x_kk rfl) (x_kk rfl) rfl (wf_9_7 hR) ?_
            refine f_aload_n (M := mX9_append) 94 dX9_append_93 rfl rfl ?_
            refine e_getI (M := mX9_append) dX9_append_94 fl_9039 (x_kk rfl) (x_kk rfl) rfl ?_
            refine f_iload (M := mX9_append) 99 dX9_append_97 rfl rfl ?_
            refine f_bipush (M := mX9_append) 101 dX9_append_99 kb_24 rfl ?_
            refine f_bipush (M := mX9_append) 103 dX9_append_101 kb_8 rfl ?_
            refine f_iload (M := mX9_append) 105 dX9_append_103 rfl rfl ?_
            refine f_iconst (M := mX9_append) 106 dX9_append_105 ki_4 rfl ?_
            refine e_irem (M := mX9_append) dX9_append_106 (by decide) ?_
            refine f_imul (M := mX9_append) 108 dX9_append_107 rfl ?_
            refine f_isub (M := mX9_append) 109 dX9_append_108 rfl ?_
            refine f_ishr (M := mX9_append) 110 dX9_append_109 rfl ?_
            refine f_sipush (M := mX9_append) 113 dX9_append_110 ks_255 rfl ?_
            refine f_iand (M := mX9_append) 114 dX9_append_113 rfl ?_
            refine e_ist (M := mX9_append) (w := 800) (j := n + k) dX9_append_114 (x_kk rfl) rfl (by rw [x_up_self, x_up_self]) (by omega) (by omega) ?_
            refine f_aload_n (M := mX9_append) 116 dX9_append_115 rfl rfl ?_
            refine f_dup (M := mX9_append) 117 dX9_append_116 rfl rfl ?_
            refine e_getI (M := mX9_append) dX9_append_117 fl_9039 (x_kk rfl) (x_kk rfl) rfl ?_
            refine f_iconst (M := mX9_append) 121 dX9_append_120 ki_1 rfl ?_
            refine f_iadd (M := mX9_append) 122 dX9_append_121 rfl ?_
            refine e_putI (M := mX9_append) dX9_append_122 fl_9039 (x_kk rfl) (x_kk rfl) rfl (fun q9 => Bool.noConfusion q9) ?_
            refine f_iinc (M := mX9_append) (ls' := [_, _, _, _, _, _, _, _]) 128 dX9_append_125 ki_1 rfl rfl rfl rfl ?_
            refine f_goto (M := mX9_append) 34 dX9_append_128 rfl ?_
            rw [kn_4, n_le (by omega) (by omega)] at g0; rw [kn_8, n_le (by omega) (by omega)] at g1; rw [kn_12, n_le (by omega) (by omega)] at g2; rw [kn_16, n_le (by omega) (by omega)] at g3; rw [ab_e (v0 := v0) (v1 := v1) (v2 := v2) (v3 := v3) (v4 := v4) (by omega) (by unfold y_sel; rw [if_neg (by omega)]; rw [if_neg (by omega)]; rw [if_neg (by omega)]; rw [if_pos (by omega)]), up4 (by decide), n_inc (s := k)]; simp only [x_up_self, x_up_ne _ _ (show (225 : Nat) ≠ 231 by decide), x_up_ne _ _ (show (231 : Nat) ≠ 225 by decide), va_uu]; rw [pt_s, n_inc (s := n + k)]; exact ih (w7 := _) (k + 1) (by omega)
        · refine f_iload_n (M := mX9_append) 70 dX9_append_69 rfl rfl ?_
          refine f_goto (M := mX9_append) 87 dX9_append_70 rfl ?_
          refine f_istore (M := mX9_append) (ls' := [_, _, _, _, _, _, _, _]) 89 dX9_append_87 rfl rfl rfl ?_
          refine f_aload_n (M := mX9_append) 90 dX9_append_89 rfl rfl ?_
          refine e_getR (M := mX9_append) dX9_append_90 fl_9026 (x_kk rfl) (x_kk rfl) rfl (wf_9_7 hR) ?_
          refine f_aload_n (M := mX9_append) 94 dX9_append_93 rfl rfl ?_
          refine e_getI (M := mX9_append) dX9_append_94 fl_9039 (x_kk rfl) (x_kk rfl) rfl ?_
          refine f_iload (M := mX9_append) 99 dX9_append_97 rfl rfl ?_
          refine f_bipush (M := mX9_append) 101 dX9_append_99 kb_24 rfl ?_
          refine f_bipush (M := mX9_append) 103 dX9_append_101 kb_8 rfl ?_
          refine f_iload (M := mX9_append) 105 dX9_append_103 rfl rfl ?_
          refine f_iconst (M := mX9_append) 106 dX9_append_105 ki_4 rfl ?_
          refine e_irem (M := mX9_append) dX9_append_106 (by decide) ?_
          refine f_imul (M := mX9_append) 108 dX9_append_107 rfl ?_
          refine f_isub (M := mX9_append) 109 dX9_append_108 rfl ?_
          refine f_ishr (M := mX9_append) 110 dX9_append_109 rfl ?_
          refine f_sipush (M := mX9_append) 113 dX9_append_110 ks_255 rfl ?_
          refine f_iand (M := mX9_append) 114 dX9_append_113 rfl ?_
          refine e_ist (M := mX9_append) (w := 800) (j := n + k) dX9_append_114 (x_kk rfl) rfl (by rw [x_up_self, x_up_self]) (by omega) (by omega) ?_
          refine f_aload_n (M := mX9_append) 116 dX9_append_115 rfl rfl ?_
          refine f_dup (M := mX9_append) 117 dX9_append_116 rfl rfl ?_
          refine e_getI (M := mX9_append) dX9_append_117 fl_9039 (x_kk rfl) (x_kk rfl) rfl ?_
          refine f_iconst (M := mX9_append) 121 dX9_append_120 ki_1 rfl ?_
          refine f_iadd (M := mX9_append) 122 dX9_append_121 rfl ?_
          refine e_putI (M := mX9_append) dX9_append_122 fl_9039 (x_kk rfl) (x_kk rfl) rfl (fun q9 => Bool.noConfusion q9) ?_
          refine f_iinc (M := mX9_append) (ls' := [_, _, _, _, _, _, _, _]) 128 dX9_append_125 ki_1 rfl rfl rfl rfl ?_
          refine f_goto (M := mX9_append) 34 dX9_append_128 rfl ?_
          rw [kn_4, n_le (by omega) (by omega)] at g0; rw [kn_8, n_le (by omega) (by omega)] at g1; rw [kn_12, n_le (by omega) (by omega)] at g2; rw [ab_e (v0 := v0) (v1 := v1) (v2 := v2) (v3 := v3) (v4 := v4) (by omega) (by unfold y_sel; rw [if_neg (by omega)]; rw [if_neg (by omega)]; rw [if_pos (by omega)]), up4 (by decide), n_inc (s := k)]; simp only [x_up_self, x_up_ne _ _ (show (225 : Nat) ≠ 231 by decide), x_up_ne _ _ (show (231 : Nat) ≠ 225 by decide), va_uu]; rw [pt_s, n_inc (s := n + k)]; exact ih (w7 := _) (k + 1) (by omega)
      · refine f_iload_n (M := mX9_append) 59 dX9_append_58 rfl rfl ?_
        refine f_goto (M := mX9_append) 87 dX9_append_59 rfl ?_
        refine f_istore (M := mX9_append) (ls' := [_, _, _, _, _, _, _, _]) 89 dX9_append_87 rfl rfl rfl ?_
        refine f_aload_n (M := mX9_append) 90 dX9_append_89 rfl rfl ?_
        refine e_getR (M := mX9_append) dX9_append_90 fl_9026 (x_kk rfl) (x_kk rfl) rfl (wf_9_7 hR) ?_
        refine f_aload_n (M := mX9_append) 94 dX9_append_93 rfl rfl ?_
        refine e_getI (M := mX9_append) dX9_append_94 fl_9039 (x_kk rfl) (x_kk rfl) rfl ?_
        refine f_iload (M := mX9_append) 99 dX9_append_97 rfl rfl ?_
        refine f_bipush (M := mX9_append) 101 dX9_append_99 kb_24 rfl ?_
        refine f_bipush (M := mX9_append) 103 dX9_append_101 kb_8 rfl ?_
        refine f_iload (M := mX9_append) 105 dX9_append_103 rfl rfl ?_
        refine f_iconst (M := mX9_append) 106 dX9_append_105 ki_4 rfl ?_
        refine e_irem (M := mX9_append) dX9_append_106 (by decide) ?_
        refine f_imul (M := mX9_append) 108 dX9_append_107 rfl ?_
        refine f_isub (M := mX9_append) 109 dX9_append_108 rfl ?_
        refine f_ishr (M := mX9_append) 110 dX9_append_109 rfl ?_
        refine f_sipush (M := mX9_append) 113 dX9_append_110 ks_255 rfl ?_
        refine f_iand (M := mX9_append) 114 dX9_append_113 rfl ?_
        refine e_ist (M := mX9_append) (w := 800) (j := n + k) dX9_append_114 (x_kk rfl) rfl (by rw [x_up_self, x_up_self]) (by omega) (by omega) ?_
        refine f_aload_n (M := mX9_append) 116 dX9_append_115 rfl rfl ?_
        refine f_dup (M := mX9_append) 117 dX9_append_116 rfl rfl ?_
        refine e_getI (M := mX9_append) dX9_append_117 fl_9039 (x_kk rfl) (x_kk rfl) rfl ?_
        refine f_iconst (M := mX9_append) 121 dX9_append_120 ki_1 rfl ?_
        refine f_iadd (M := mX9_append) 122 dX9_append_121 rfl ?_
        refine e_putI (M := mX9_append) dX9_append_122 fl_9039 (x_kk rfl) (x_kk rfl) rfl (fun q9 => Bool.noConfusion q9) ?_
        refine f_iinc (M := mX9_append) (ls' := [_, _, _, _, _, _, _, _]) 128 dX9_append_125 ki_1 rfl rfl rfl rfl ?_
        refine f_goto (M := mX9_append) 34 dX9_append_128 rfl ?_
        rw [kn_4, n_le (by omega) (by omega)] at g0; rw [kn_8, n_le (by omega) (by omega)] at g1; rw [ab_e (v0 := v0) (v1 := v1) (v2 := v2) (v3 := v3) (v4 := v4) (by omega) (by unfold y_sel; rw [if_neg (by omega)]; rw [if_pos (by omega)]), up4 (by decide), n_inc (s := k)]; simp only [x_up_self, x_up_ne _ _ (show (225 : Nat) ≠ 231 by decide), x_up_ne _ _ (show (231 : Nat) ≠ 225 by decide), va_uu]; rw [pt_s, n_inc (s := n + k)]; exact ih (w7 := _) (k + 1) (by omega)
    · refine f_iload_n (M := mX9_append) 48 dX9_append_47 rfl rfl ?_
      refine f_goto (M := mX9_append) 87 dX9_append_48 rfl ?_
      refine f_istore (M := mX9_append) (ls' := [_, _, _, _, _, _, _, _]) 89 dX9_append_87 rfl rfl rfl ?_
      refine f_aload_n (M := mX9_append) 90 dX9_append_89 rfl rfl ?_
      refine e_getR (M := mX9_append) dX9_append_90 fl_9026 (x_kk rfl) (x_kk rfl) rfl (wf_9_7 hR) ?_
      refine f_aload_n (M := mX9_append) 94 dX9_append_93 rfl rfl ?_
      refine e_getI (M := mX9_append) dX9_append_94 fl_9039 (x_kk rfl) (x_kk rfl) rfl ?_
      refine f_iload (M := mX9_append) 99 dX9_append_97 rfl rfl ?_
      refine f_bipush (M := mX9_append) 101 dX9_append_99 kb_24 rfl ?_
      refine f_bipush (M := mX9_append) 103 dX9_append_101 kb_8 rfl ?_
      refine f_iload (M := mX9_append) 105 dX9_append_103 rfl rfl ?_
      refine f_iconst (M := mX9_append) 106 dX9_append_105 ki_4 rfl ?_
      refine e_irem (M := mX9_append) dX9_append_106 (by decide) ?_
      refine f_imul (M := mX9_append) 108 dX9_append_107 rfl ?_
      refine f_isub (M := mX9_append) 109 dX9_append_108 rfl ?_
      refine f_ishr (M := mX9_append) 110 dX9_append_109 rfl ?_
      refine f_sipush (M := mX9_append) 113 dX9_append_110 ks_255 rfl ?_
      refine f_iand (M := mX9_append) 114 dX9_append_113 rfl ?_
      refine e_ist (M := mX9_append) (w := 800) (j := n + k) dX9_append_114 (x_kk rfl) rfl (by rw [x_up_self, x_up_self]) (by omega) (by omega) ?_
      refine f_aload_n (M := mX9_append) 116 dX9_append_115 rfl rfl ?_
      refine f_dup (M := mX9_append) 117 dX9_append_116 rfl rfl ?_
      refine e_getI (M := mX9_append) dX9_append_117 fl_9039 (x_kk rfl) (x_kk rfl) rfl ?_
      refine f_iconst (M := mX9_append) 121 dX9_append_120 ki_1 rfl ?_
      refine f_iadd (M := mX9_append) 122 dX9_append_121 rfl ?_
      refine e_putI (M := mX9_append) dX9_append_122 fl_9039 (x_kk rfl) (x_kk rfl) rfl (fun q9 => Bool.noConfusion q9) ?_
      refine f_iinc (M := mX9_append) (ls' := [_, _, _, _, _, _, _, _]) 128 dX9_append_125 ki_1 rfl rfl rfl rfl ?_
      refine f_goto (M := mX9_append) 34 dX9_append_128 rfl ?_
      rw [kn_4, n_le (by omega) (by omega)] at g0; rw [ab_e (v0 := v0) (v1 := v1) (v2 := v2) (v3 := v3) (v4 := v4) (by omega) (by unfold y_sel; rw [if_pos (by omega)]), up4 (by decide), n_inc (s := k)]; simp only [x_up_self, x_up_ne _ _ (show (225 : Nat) ≠ 231 by decide), x_up_ne _ _ (show (231 : Nat) ≠ 225 by decide), va_uu]; rw [pt_s, n_inc (s := n + k)]; exact ih (w7 := _) (k + 1) (by omega)
theorem ap_0 {n : Nat} (hn : I 225 8 = Int32.ofNat n) {g : Nat → Int32} : va_up (va_up I 231 (y_put (I 231) n g 0)) 225 (va_up (I 225) 8 (Int32.ofNat (n + 0))) = I := by
  rw [pt_0, up_self, Nat.add_zero, ← hn]
  funext q
  unfold va_up
  by_cases h : q = 225
  · rw [if_pos h, h]
    funext j
    by_cases z : j = 8
    · rw [if_pos z, z]
    · rw [if_neg z]
  · rw [if_neg h]
theorem mo_append (hR : x_wf R) (h : I 225 8 + 20 ≤ 800) {n : Nat} (hn2 : n ≤ 780) (hn : I 225 8 = Int32.ofNat n) {v0 : Int32} {v1 : Int32} {v2 : Int32} {v3 : Int32} {v4 : Int32} : x_Cv X mX9_append [.ref 225, .int v0, .int v1, .int v2, .int v3, .int v4] (I, L, R) 233 (.inl (some (.int (Int32.ofNat (n + 20)))), ((va_up (va_up (x_tw I 0) 231 (y_put ((x_tw I 0) 231) n (y_ab v0 v1 v2 v3 v4) (20))) 225 (va_up ((x_tw I 0) 225) 8 (Int32.ofNat (n + 20)))), L, R), 233) := by
  show x_Ev X mX9_append 0 [some (.ref 225), some (.int v0), some (.int v1), some (.int v2), some (.int v3), some (.int v4), none, none] [] ((I, L, R), 233, 0, 0) _
  refine f_aload_n (M := mX9_append) 1 dX9_append_0 rfl rfl ?_
  refine f_aload_n (M := mX9_append) 2 dX9_append_1 rfl rfl ?_
  refine e_getI (M := mX9_append) dX9_append_2 fl_9039 (x_kk rfl) (x_kk rfl) rfl ?_
  refine f_bipush (M := mX9_append) 7 dX9_append_5 kb_20 rfl ?_
  refine f_iadd (M := mX9_append) 8 dX9_append_7 rfl ?_
  refine f_sipush (M := mX9_append) 11 dX9_append_8 ks_800 rfl ?_
  refine e_icmp_leT (M := mX9_append) 18 dX9_append_11 rfl h ?_
  refine f_iconst (M := mX9_append) 19 dX9_append_18 ki_0 rfl ?_
  refine e_putI (M := mX9_append) dX9_append_19 fl_9033 (x_kk rfl) (x_kk rfl) rfl (fun q9 => Bool.noConfusion q9) ?_
  refine f_aload_n (M := mX9_append) 23 dX9_append_22 rfl rfl ?_
  refine e_getI (M := mX9_append) dX9_append_23 fl_9033 (x_kk rfl) (x_kk rfl) rfl ?_
  refine e_if_leT (M := mX9_append) 31 dX9_append_26 rfl (show (0 : Int32) ≤ 0 by decide) ?_
  refine f_iconst (M := mX9_append) 32 dX9_append_31 ki_0 rfl ?_
  refine f_istore (M := mX9_append) (ls' := [_, _, _, _, _, _, _, _]) 34 dX9_append_32 rfl rfl rfl ?_
  have e := l_X9_append (X := X) (I := x_tw I 0) (L := L) (w7 := none) hR hn2 (v0 := v0) (v1 := v1) (v2 := v2) (v3 := v3) (v4 := v4) 20 0 rfl; rw [ap_0 (I := x_tw I 0) hn] at e; exact e
section
variable {v0 v1 v2 v3 v4 : Int32} {f bf : Nat → Int32} {n : Nat}
theorem t20 (hf : ∀ j, j < n → f j = (bf j).toInt8.toInt32) {j : Nat} (hj : j < n + 20) : (y_put (y_put (y_put (y_put (y_put f n (y_b1 v0) 4) (n + 4) (y_b1 v1) 4) (n + 8) (y_b1 v2) 4) (n + 12) (y_b1 v3) 4) (n + 16) (y_b1 v4) 4) j = (y_put bf n (y_ab v0 v1 v2 v3 v4) 20 j).toInt8.toInt32 := by
  by_cases h : j < n
  · rw [pt_o (by omega), pt_o (by omega), pt_o (by omega), pt_o (by omega), pt_o (by omega), pt_o (by omega)]
    exact hf j h
  · obtain ⟨t, rfl⟩ : ∃ t, j = n + t := ⟨j - n, by omega⟩
    rw [pt_i (by omega)]
    unfold y_ab
    rw [by8]
    unfold y_sel
    by_cases c4 : 16 ≤ t
    · rw [show n + t = n + 16 + (t - 16) by omega, pt_i (by omega), if_neg (by omega), if_neg (by omega), if_neg (by omega), if_neg (by omega), show t % 4 = t - 16 by omega]; rfl
    · rw [pt_o (by omega)]
      by_cases c3 : 12 ≤ t
      · rw [show n + t = n + 12 + (t - 12) by omega, pt_i (by omega), if_neg (by omega), if_neg (by omega), if_neg (by omega), if_pos (by omega), show t % 4 = t - 12 by omega]; rfl
      · rw [pt_o (by omega)]
        by_cases c2 : 8 ≤ t
        · rw [show n + t = n + 8 + (t - 8) by omega, pt_i (by omega), if_neg (by omega), if_neg (by omega), if_pos (by omega), show t % 4 = t - 8 by omega]; rfl
        · rw [pt_o (by omega)]
          by_cases c1 : 4 ≤ t
          · rw [show n + t = n + 4 + (t - 4) by omega, pt_i (by omega), if_neg (by omega), if_pos (by omega), show t % 4 = t - 4 by omega]; rfl
          · rw [pt_o (by omega), pt_i (by omega), if_pos (by omega), show t % 4 = t by omega]; rfl
theorem ab_i {j : Nat} (h : ∀ j, j < n → y_in (bf j) 0 255) (hj : j < n + 20) : y_in (y_put bf n (y_ab v0 v1 v2 v3 v4) 20 j) 0 255 := by
  by_cases c : j < n
  · rw [pt_o (by omega)]; exact h j c
  · obtain ⟨t, rfl⟩ : ∃ t, j = n + t := ⟨j - n, by omega⟩
    rw [pt_i (by omega)]
    exact m255
end
theorem sim_append (T : y_T N I L R) {v0 : Int32} {v1 : Int32} {v2 : Int32} {v3 : Int32} {v4 : Int32} : y_OI N X mL_append [.ref 0, .int v0, .int v1, .int v2, .int v3, .int v4, .ref 232] mX9_append [.ref 225, .int v0, .int v1, .int v2, .int v3, .int v4] I L R := by
  have T0 := T
  obtain ⟨a, b, kn, ks, bf, bn, ep, ⟨β, δ, γ, ν, hB⟩, hM, hI⟩ := T
  have H : y_CS N I L R β a b := ⟨hM.1, hB.1.2.1, hB.1.2.2.2.2.1, hB.2.2.2.2.2.1, hI.1⟩
  obtain ⟨Ns, Np, Nl, Nm, Z⟩ := Z_of hI.1
  have hR := hM.1
  have ha : I 226 = a := hM.2.1
  have hb : L 229 = b := hM.2.2.1
  subst ha
  subst hb
  obtain ⟨hNs, hn, hNp, hp, hNl, hl, hNm, hmm⟩ := id Z
  obtain ⟨hSR, hν, h31, hkn, h32, hrep, hks, hbn, d11, d2, d12⟩ := id hB
  obtain ⟨_, _, _, m3, m4, m5, m6, m7, m8⟩ := id hM
  have q1 : (I 1 1 ≤ 780) ↔ bn ≤ 780 := by rw [d11, kn_780, n_le (by omega) (by omega)]
  have q2 : (I 225 8 + 20 ≤ 800) ↔ bn ≤ 780 := by rw [ix_add m6 kn_20, kn_800, n_le (by omega) (by omega)]; omega
  by_cases h : bn ≤ 780
  · have k1 := w_append (ko_append (X := X) (L := L) hR (q1.mpr h) h d11 (v0 := v0) (v1 := v1) (v2 := v2) (v3 := v3) (v4 := v4))
    have gI : ∀ q, ¬ q = 1 → ¬ q = 2 → (va_up (va_up I 2 (y_put (y_put (y_put (y_put (y_put (I 2) bn (y_b1 v0) 4) (bn + 4) (y_b1 v1) 4) (bn + 8) (y_b1 v2) 4) (bn + 12) (y_b1 v3) 4) (bn + 16) (y_b1 v4) 4)) 1 (va_up (I 1) 1 (Int32.ofNat (bn + 20)))) q = I q := fun q z1 z2 => by rw [x_up_ne _ _ z1, x_up_ne _ _ z2]
    have gs : ∀ β', x_sl β' → ∀ k, k < 22 → (va_up (va_up I 2 (y_put (y_put (y_put (y_put (y_put (I 2) bn (y_b1 v0) 4) (bn + 4) (y_b1 v1) 4) (bn + 8) (y_b1 v2) 4) (bn + 12) (y_b1 v3) 4) (bn + 16) (y_b1 v4) 4)) 1 (va_up (I 1) 1 (Int32.ofNat (bn + 20)))) (β' + k) = I (β' + k) := fun β' hs k hk => gI _ (fun z => sl_far hs (Or.inl (by decide)) hk z.symm) (fun z => sl_far hs (Or.inl (by decide)) hk z.symm)
    have S1 : y_SB (va_up (va_up I 2 (y_put (y_put (y_put (y_put (y_put (I 2) bn (y_b1 v0) 4) (bn + 4) (y_b1 v1) 4) (bn + 8) (y_b1 v2) 4) (bn + 12) (y_b1 v3) 4) (bn + 16) (y_b1 v4) 4)) 1 (va_up (I 1) 1 (Int32.ofNat (bn + 20)))) L R β δ γ ν (I 226) (L 229) kn ks (y_put bf bn (y_ab v0 v1 v2 v3 v4) 20) (bn + 20) ep := by
      refine ⟨hSR, hν, by rw [gI 3 (by decide) (by decide)]; exact h31, hkn, by rw [gI 3 (by decide) (by decide)]; exact h32, Rep_c (fun k hk => gs _ hSR.2.1 k hk) (fun k hk => rfl) hrep, fun i hi => Rep_c (fun k hk => gs _ (hSR.2.2.2.1 _ (Nat.mod_lt _ (by decide))) k hk) (fun k hk => rfl) (hks i hi), by omega, ?_, fun j hj => ?_, ?_⟩
      · rw [x_up_self, x_up_self]
      · rw [x_up_ne _ _ (by decide), x_up_self]
        exact t20 d2 hj
      · rw [x_up_self, x_up_ne _ _ (by decide)]; exact d12
    have M1 := SM_f (I' := (va_up (va_up I 2 (y_put (y_put (y_put (y_put (y_put (I 2) bn (y_b1 v0) 4) (bn + 4) (y_b1 v1) 4) (bn + 8) (y_b1 v2) 4) (bn + 12) (y_b1 v3) 4) (bn + 16) (y_b1 v4) 4)) 1 (va_up (I 1) 1 (Int32.ofNat (bn + 20))))) (L' := va_up L 232 (va_up (L 232) 0 (Int32.ofNat (bn + 20)).toInt64)) hM hR (fun q z1 z2 => ⟨gI q (by omega) (by omega), x_up_ne _ _ (by omega)⟩)
    obtain ⟨_, n1, n2, n3, n4, n5, n6, n7, n8⟩ := id M1
    have m1 := mo_append (X := X) (L := va_up L 232 (va_up (L 232) 0 (Int32.ofNat (bn + 20)).toInt64)) (v0 := v0) (v1 := v1) (v2 := v2) (v3 := v3) (v4 := v4) hR (by rw [n6, ← m6]; exact q2.mpr h) h n6
    refine OI_c (a' := I 226) (b' := L 229) k1 ⟨β, δ, γ, ν, S1⟩ m1 rfl ⟨hR, n1, n2, n3, n4, n5, ?_, fun j hj => ?_, n8⟩ (fun q hq => ⟨?_, rfl⟩) ⟨Inv_m (by omega) hI.1, fun i hi => Inv_m (by omega) (hI.2.1 i hi), fun j hj => ab_i hI.2.2 hj⟩
    · rw [x_up_self, x_up_self]
    · rw [x_up_ne _ _ (by decide), x_up_self]
      by_cases c : bn ≤ j
      · rw [show j = bn + (j - bn) by omega, pt_i (by omega), pt_i (by omega)]
      · rw [pt_o (by omega), pt_o (by omega)]; exact n7 j (by omega)
    · unfold x_tw
      rw [x_up_ne _ _ (by omega), x_up_ne _ _ (by omega), x_up_ne _ _ (by omega)]
  · exact OI_x T0 (by decide) (w_append_x0 (kf_append hR (fun z => h (q1.mp z)))) (mf_append hR (fun z => h (q2.mp z)))
end

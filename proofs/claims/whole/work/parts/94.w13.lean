/-! ===== changes of both, thirteenth: undo, append (laid by wip/whole/src/w13.py) ===== -/
section
variable {X : x_X} {I : Nat → Nat → Int32} {L : Nat → Nat → Int64} {R : Nat → Nat → Option Nat} {N : Nat}
section
variable {β δ ν kn bn : Nat} {γ : Nat → Nat} {a : Nat → Int32} {b : Nat → Int64} {ks : Nat → (Nat → Int32) × (Nat → Int64)} {bf : Nat → Int32} {ep : Int32}
theorem wf_c {R' : Nat → Nat → Option Nat} (e : ∀ q, ¬ q = 4 → ¬ q = 0 → R' q = R q) (e0 : R' 0 0 = R 0 0) (e1 : R' 0 1 = R 0 1) (h : x_wf R) : x_wf R' := by
  refine ⟨fun β hβ => ?_, ?_⟩
  · have g : ∀ k, k < 22 → R' (β + k) = R (β + k) := fun k hk => e _ (fun z => sl_far hβ (Or.inl (by decide)) hk z.symm) (fun z => sl_far hβ (Or.inl (by decide)) hk z.symm)
    rw [g 7 (by decide), g 12 (by decide), g 5 (by decide), g 17 (by decide), g 0 (by decide), g 1 (by decide)]
    exact h.1 β hβ
  · rw [e 3 (by decide) (by decide), e 1 (by decide) (by decide), e 225 (by decide) (by decide), e0, e1]
    exact h.2
theorem SB_undo (hk : 0 < kn) (S : y_SB I L R β δ γ ν a b kn ks bf bn ep) : y_SB (kp_2 (kp_1 I ((ν + 8 - 1) % 8)) (Int32.ofNat (kn - 1))) L (va_up (va_up R 4 (va_up (R 4) ν (some β))) 0 (va_up ((va_up R 4 (va_up (R 4) ν (some β))) 0) 2 (some (γ ν)))) (γ ν) δ (fun j => if j = ν then β else γ j) ((ν + 8 - 1) % 8) (ks 0).1 (ks 0).2 (kn - 1) (fun i => ks (i + 1)) bf bn ep := by
  obtain ⟨⟨hR, hβ, hδ, hγ, h02, h03, h4, hbd, hgn, hgg⟩, hν, h31, hkn, h32, hrep, hks, hrd⟩ := S
  have fI : ∀ q, ¬ q = 3 → kp_2 (kp_1 I ((ν + 8 - 1) % 8)) (Int32.ofNat (kn - 1)) q = I q := fun q hq => by unfold kp_2 kp_1; rw [x_up_ne _ _ hq, x_up_ne _ _ hq]
  have fs : ∀ β', x_sl β' → ∀ k, k < 22 → kp_2 (kp_1 I ((ν + 8 - 1) % 8)) (Int32.ofNat (kn - 1)) (β' + k) = I (β' + k) := fun β' hs k hk => fI _ (fun z => sl_far hs (Or.inl (by decide)) hk z.symm)
  have hw := hgn ν hν
  refine ⟨⟨?_, hγ ν hν, hδ, fun j hj => ?_, ?_, ?_, fun j hj => ?_, hw.2, fun j hj => ?_, fun i j hi hj hne => ?_⟩, Nat.mod_lt _ (by decide), ?_, by omega, ?_, ?_, fun i hi => ?_, ?_⟩
  · refine wf_c (fun q h1 h2 => ?_) ?_ ?_ hR
    · rw [x_up_ne _ _ h2, x_up_ne _ _ h1]
    · rw [x_up_self, x_up_ne _ _ (by decide), x_up_ne _ _ (by decide)]
    · rw [x_up_self, x_up_ne _ _ (by decide), x_up_ne _ _ (by decide)]
  · show x_sl (if j = ν then β else γ j)
    by_cases e : j = ν
    · rw [if_pos e]; exact hβ
    · rw [if_neg e]; exact hγ j hj
  · rw [x_up_self, x_up_self]
  · rw [x_up_self, x_up_ne _ _ (by decide), x_up_ne _ _ (by decide)]; exact h03
  · dsimp only
    rw [x_up_ne _ _ (by decide), x_up_self]
    by_cases e : j = ν
    · rw [e, x_up_self, if_pos rfl]
    · rw [x_up_ne _ _ e, if_neg e]; exact h4 j hj
  · dsimp only
    by_cases e : j = ν
    · rw [if_pos e]; exact ⟨fun z => hw.1 z.symm, hbd⟩
    · rw [if_neg e]; exact ⟨hgg j ν hj hν e, (hgn j hj).2⟩
  · dsimp only
    by_cases e1 : i = ν
    · by_cases e2 : j = ν
      · omega
      · rw [if_pos e1, if_neg e2]; exact fun z => (hgn j hj).1 z.symm
    · by_cases e2 : j = ν
      · rw [if_neg e1, if_pos e2]; exact (hgn i hi).1
      · rw [if_neg e1, if_neg e2]; exact hgg i j hi hj hne
  · unfold kp_2 kp_1
    rw [x_up_self, x_up_ne _ _ (by decide), x_up_self, x_up_self]
  · unfold kp_2
    rw [x_up_self, x_up_self]
  · have h0 := hks 0 hk
    rw [show (ν + 8 - 0) % 8 = ν by omega] at h0
    exact Rep_c (fun k hk => fs _ (hγ ν hν) k hk) (fun k hk => rfl) h0
  · have h1 := hks (i + 1) (by omega)
    rw [show ((ν + 8 - 1) % 8 + 8 - i) % 8 = (ν + 8 - (i + 1)) % 8 by omega]
    have hm : (ν + 8 - (i + 1)) % 8 < 8 := Nat.mod_lt _ (by decide)
    dsimp only
    rw [if_neg (by omega)]
    exact Rep_c (fun k hk => fs _ (hγ _ hm) k hk) (fun k hk => rfl) h1
  · obtain ⟨d1, d2, d3, d4⟩ := hrd
    unfold y_RD
    rw [fI 1 (by decide), fI 2 (by decide)]
    exact ⟨d1, d2, d3, d4⟩
theorem SM_undo {n : Nat} (h606 : ∀ j, 606 ≤ j → a j = 0) (h37 : ∀ j, 37 ≤ j → b j = 0) (g606 : ∀ j, 606 ≤ j → (ks 0).1 j = 0) (g37 : ∀ j, 37 ≤ j → (ks 0).2 j = 0) (S : y_SM I L R a b (n + 1) ks bf bn ep) : y_SM (x_ud (x_km (x_tw I 0) (Int32.ofNat n)) n 606) (x_udl L n 37) R (ks 0).1 (ks 0).2 n (fun i => ks (i + 1)) bf bn ep := by
  obtain ⟨hR, h1, h2, h3, h4, h5, h6, h7, h8⟩ := S
  have k0 := h5 0 (by omega)
  refine ⟨hR, ?_, ?_, by omega, rfl, fun i hi => ?_, h6, h7, h8⟩
  · funext j
    show (if j < 606 then I 228 (606 * n + j) else I 226 j) = (ks 0).1 j
    by_cases c : j < 606
    · rw [if_pos c, ← k0.1 j c]
      congr 1
    · rw [if_neg c, h1, h606 j (by omega), g606 j (by omega)]
  · funext j
    show (if j < 37 then L 230 (37 * n + j) else L 229 j) = (ks 0).2 j
    by_cases c : j < 37
    · rw [if_pos c, ← k0.2 j c]
      congr 1
    · rw [if_neg c, h2, h37 j (by omega), g37 j (by omega)]
  · have ki := h5 (i + 1) (by omega)
    refine ⟨fun j hj => ?_, fun j hj => ?_⟩
    · rw [← ki.1 j hj]
      show I 228 _ = I 228 _
      congr 1
      omega
    · rw [← ki.2 j hj]
      show L 230 _ = L 230 _
      congr 1
      omega
end
theorem sim_undo (T : y_T N I L R) : y_OI N X mL_undo [.ref 0, .ref 232] mX9_undo [.ref 225] I L R := by
  have T0 := T
  obtain ⟨a, b, kn, ks, bf, bn, ep, ⟨β, δ, γ, ν, hB⟩, hM, hI⟩ := T
  have H : y_CS N I L R β a b := ⟨hM.1, hB.1.2.1, hB.1.2.2.2.2.1, hB.2.2.2.2.2.1, hI.1⟩
  obtain ⟨Ns, Np, Nl, Nm, Z⟩ := Z_of hI.1
  have hR := hM.1
  have ha : I 226 = a := hM.2.1
  have hb : L 229 = b := hM.2.2.1
  subst ha
  subst hb
  obtain ⟨hNs, hn, hNp, hp, hNl, hl, hNm, hmm⟩ := id Z
  obtain ⟨⟨_, hβ, hδ, hγ, h02, h03, h4, hbd, hgn, hgg⟩, hν, h31, hkn, h32, hrep, hks, hrd⟩ := id hB
  by_cases h0 : kn = 0
  · subst h0
    exact OI_x T0 (by decide) (w_undo_x0 (c_X8_undo_x0 hR (by rw [h32]; decide))) (c_X9_undo_1 hR hM.2.2.2.2.1)
  · obtain ⟨n, rfl⟩ : ∃ n, kn = n + 1 := ⟨kn - 1, by omega⟩
    have c1 := c_X8_undo_ok (X := X) (L := L) hR hβ h02 hν h31 (h4 ν hν) (by rw [h32, kn_0, n_le (by omega) (by omega)]; omega)
    have e3 : kp_1 I ((ν + 8 - 1) % 8) 3 2 = I 3 2 := by unfold kp_1; rw [x_up_self, x_up_ne _ _ (by decide)]
    have en : Int32.ofNat (n + 1) - 1 = Int32.ofNat n := by rw [ix_sub rfl kn_1 (by omega), Nat.add_sub_cancel]
    rw [e3, h32, en] at c1
    have SB2 := SB_undo (by omega) hB
    rw [Nat.add_sub_cancel] at SB2
    have k1 := w_undo c1
    have fI : ∀ q, 225 ≤ q → kp_2 (kp_1 I ((ν + 8 - 1) % 8)) (Int32.ofNat n) q = I q := fun q hq => by unfold kp_2 kp_1; rw [x_up_ne _ _ (by omega), x_up_ne _ _ (by omega)]
    have M1 := SM_f (I' := kp_2 (kp_1 I ((ν + 8 - 1) % 8)) (Int32.ofNat n)) (L' := va_up L 232 (va_up (L 232) 0 (Int32.ofNat n).toInt64)) hM SB2.1.1 (fun q z1 z2 => ⟨fI q z1, x_up_ne _ _ (by omega)⟩)
    have i0 := hI.2.1 0 (by omega)
    refine OI_c (a' := (ks 0).1) (b' := (ks 0).2) k1 ⟨_, _, _, _, SB2⟩ (c_X9_undo_0 SB2.1.1 (by omega) M1.2.2.2.2.1) rfl (SM_undo hI.1.2.2.2.2.2.2.1 hI.1.2.2.2.2.2.2.2 i0.2.2.2.2.2.2.1 i0.2.2.2.2.2.2.2 M1) (fun q hq => ⟨?_, ?_⟩) ⟨Inv_m (by omega) i0, fun i hi => Inv_m (by omega) (hI.2.1 (i + 1) (by omega)), hI.2.2⟩
    · unfold x_ud x_km x_tw
      rw [x_up_ne _ _ (by omega), x_up_ne _ _ (by omega), x_up_ne _ _ (by omega)]
    · unfold x_udl
      rw [x_up_ne _ _ (by omega)]
theorem by8 {x : Int32} : (x &&& 255).toInt8 = x.toInt8 := by
  rw [Int32.toInt8_and, show (255 : Int32).toInt8 = -1 from by decide]
  simp
theorem nar8 {x : Int32} : vp_nar .byte (x.toInt8.toInt32) = x.toInt8.toInt32 := by
  show x.toInt8.toInt32.toInt8.toInt32 = _
  simp
theorem m255 {x : Int32} : y_in (x &&& 255) 0 255 := by
  have e : (x &&& 255).toBitVec.toNat = x.toBitVec.toNat &&& 255 := by rw [Int32.toBitVec_and, BitVec.toNat_and]; rfl
  have l : x.toBitVec.toNat &&& 255 ≤ 255 := Nat.and_le_right
  have t : (x &&& 255).toInt = ((x &&& 255).toBitVec.toNat : Int) := by
    rw [← Int32.toInt_toBitVec]
    exact BitVec.toInt_eq_toNat_of_lt (by omega)
  unfold y_in
  rw [t, e]
  omega
end

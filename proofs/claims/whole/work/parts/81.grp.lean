/-! ===== parts of the representation and of the invariant under a change ===== -/
section
variable {I I' : Nat → Nat → Int32} {L L' : Nat → Nat → Int64} {β N : Nat} {a a' : Nat → Int32} {b b' : Nat → Int64}
theorem RT_c (hI : ∀ k, 1 ≤ k → k ≤ 4 → I' (β + k) = I (β + k)) (ha : ∀ j, (1 ≤ j ∧ j ≤ 8) ∨ (20 ≤ j ∧ j < 32) → a' j = a j) (h : y_RT I β a) : y_RT I' β a' := by
  obtain ⟨h1, h2, h3, h4⟩ := h
  have e1 := hI 1 (by decide) (by decide)
  have e2 := hI 2 (by decide) (by decide)
  have e3 := hI 3 (by decide) (by decide)
  have e4 := hI 4 (by decide) (by decide)
  unfold y_RT
  rw [e1, e2, e3, e4]
  exact ⟨h1.trans (ha 8 (by omega)).symm, fun i hi => (h2 i hi).trans (ha _ (by omega)).symm, fun s hs => (h3 s hs).trans (ha _ (by omega)).symm, fun s hs => (h4 s hs).trans (ha _ (by omega)).symm⟩
theorem RC_c (hI : ∀ k, 5 ≤ k → k ≤ 6 → I' (β + k) = I (β + k)) (ha : ∀ j, j = 9 ∨ (44 ≤ j ∧ j < 224) → a' j = a j) (h : y_RC I β a) : y_RC I' β a' := by
  obtain ⟨h1, h2⟩ := h
  have e1 := hI 5 (by decide) (by decide)
  have e2 := hI 6 (by decide) (by decide)
  unfold y_RC
  rw [e1, e2]
  exact ⟨h1.trans (ha 9 (by omega)).symm, fun i hi => (h2 i hi).trans (ha _ (by omega)).symm⟩
theorem vol_c (h6 : 6 ≤ a' 0 ↔ 6 ≤ a 0) (ha : ∀ j, 32 ≤ j ∧ j < 44 → a' j = a j) {s : Nat} (hs : s < 6) : sp_vol a' s = sp_vol a s := by
  unfold sp_vol
  by_cases g : 6 ≤ a 0
  · rw [if_pos g, if_pos (h6.mpr g), ha _ (by omega)]
  · rw [if_neg g, if_neg (fun z => g (h6.mp z)), ha _ (by omega)]
theorem RB_c (hI : ∀ k, 7 ≤ k → k ≤ 11 → I' (β + k) = I (β + k)) (h6 : 6 ≤ a' 0 ↔ 6 ≤ a 0) (ha : ∀ j, j = 10 ∨ j = 11 ∨ (32 ≤ j ∧ j < 44) ∨ (224 ≤ j ∧ j < 288) → a' j = a j) (h : y_RB I β a) : y_RB I' β a' := by
  obtain ⟨h1, h2, h3, h4, h5, h7⟩ := h
  have e7 := hI 7 (by decide) (by decide)
  have e8 := hI 8 (by decide) (by decide)
  have e9 := hI 9 (by decide) (by decide)
  have e10 := hI 10 (by decide) (by decide)
  have e11 := hI 11 (by decide) (by decide)
  unfold y_RB
  rw [e7, e8, e9, e10, e11]
  refine ⟨fun s hs => (h1 s hs).trans (vol_c h6 (fun j hj => ha j (by omega)) hs).symm, fun q hq s hs => (h2 q hq s hs).trans (ha _ (by omega)).symm, fun q hq => (h3 q hq).trans (ha _ (by omega)).symm, fun q hq => (h4 q hq).trans (ha _ (by omega)).symm, h5.trans (ha _ (by omega)).symm, ?_⟩
  rw [h7, ha 11 (by omega)]
  by_cases g : 6 ≤ a 0
  · rw [if_pos g, if_pos (h6.mpr g)]
  · rw [if_neg g, if_neg (fun z => g (h6.mp z))]
theorem RK_c (hI : ∀ k, 12 ≤ k → k ≤ 15 → I' (β + k) = I (β + k)) (hL : L' (β + 12) 7 = L (β + 12) 7) (hL2 : L' (β + 16) = L (β + 16)) (h3 : 3 ≤ a' 0 → 3 ≤ a 0) (ha : ∀ j, j = 11 ∨ j = 13 ∨ j = 15 ∨ (32 ≤ j ∧ j < 38) ∨ (288 ≤ j ∧ j < 366) → a' j = a j) (h : y_RK I L β a b) : y_RK I' L' β a' b := by
  obtain ⟨h1, h2, h4, h5, h6, h7, h8, h9⟩ := h
  have e12 := hI 12 (by decide) (by decide)
  have e13 := hI 13 (by decide) (by decide)
  have e14 := hI 14 (by decide) (by decide)
  have e15 := hI 15 (by decide) (by decide)
  unfold y_RK
  rw [e12, e13, e14, e15, hL, hL2]
  exact ⟨fun z s hs => (h1 (h3 z) s hs).trans (ha _ (by omega)).symm, fun s hs => (h2 s hs).trans (ha _ (by omega)).symm, fun s hs q hq => (h4 s hs q hq).trans (ha _ (by omega)).symm, fun z => (h5 (h3 z)).trans (ha _ (by omega)).symm, h6.trans (ha _ (by omega)).symm, h7.trans (ha _ (by omega)).symm, h8, h9⟩
theorem cs_c {w n : Nat} (hn : n ≤ 60) (hw : w = 2 ∨ w = 3) (ha : ∀ j, 366 ≤ j ∧ j < 606 → a' j = a j) : sp_cs a' w n = sp_cs a w n :=
  s64_c (fun k hk => by unfold sp_chk; rw [ha _ (by omega), ha _ (by omega)])
theorem RL_c (hI : ∀ k, 17 ≤ k → k ≤ 21 → I' (β + k) = I (β + k)) (ha : ∀ j, j = 14 ∨ (366 ≤ j ∧ j < 606) → a' j = a j) (h60 : (a 14).toNatClampNeg ≤ 60) (h : y_RL I β a) : y_RL I' β a' := by
  obtain ⟨h1, h2, h3, h4⟩ := h
  have e17 := hI 17 (by decide) (by decide)
  have e18 := hI 18 (by decide) (by decide)
  have e19 := hI 19 (by decide) (by decide)
  have e20 := hI 20 (by decide) (by decide)
  have e21 := hI 21 (by decide) (by decide)
  unfold y_RL
  rw [e17, e18, e19, e20, e21, ha 14 (by omega), cs_c h60 (Or.inl rfl) (fun j hj => ha j (by omega)), cs_c h60 (Or.inr rfl) (fun j hj => ha j (by omega))]
  refine ⟨h1, fun k hk => ?_, h3, h4⟩
  obtain ⟨z1, z2, z3, z4⟩ := h2 k hk
  exact ⟨z1.trans (ha _ (by omega)).symm, z2.trans (ha _ (by omega)).symm, z3.trans (ha _ (by omega)).symm, z4.trans (ha _ (by omega)).symm⟩
theorem IT_c (h0 : ∃ P, P ≤ 8 ∧ a' 0 = Int32.ofNat P) (ha : ∀ j, (1 ≤ j ∧ j ≤ 8) ∨ (20 ≤ j ∧ j < 32) → a' j = a j) (h : y_IT a) : y_IT a' := by
  obtain ⟨_, h1, h2, h3, h4, h5, h6, h7, h8, h9⟩ := h
  unfold y_IT
  rw [ha 1 (by omega), ha 2 (by omega), ha 3 (by omega), ha 4 (by omega), ha 5 (by omega), ha 6 (by omega), ha 7 (by omega), ha 8 (by omega)]
  exact ⟨h0, h1, h2, h3, h4, h5, h6, h7, h8, fun s hs => by rw [ha _ (by omega), ha _ (by omega)]; exact h9 s hs⟩
theorem IC_c (ha : ∀ j, j = 1 ∨ j = 9 ∨ (44 ≤ j ∧ j < 224) → a' j = a j) (h : y_IC a) : y_IC a' := by
  obtain ⟨h1, h2⟩ := h
  unfold y_IC
  rw [ha 1 (by omega), ha 9 (by omega)]
  exact ⟨h1, fun j hj => by rw [ha _ (by omega)]; exact h2 j hj⟩
theorem IB_c {M : Nat} (hM : N ≤ M) (h0 : a' 0 = 0 → a 0 = 0) (ha : ∀ j, j = 10 ∨ (224 ≤ j ∧ j < 288) → a' j = a j) (h : y_IB N a) : y_IB M a' := by
  obtain ⟨h1, h2, h3, h4⟩ := h
  unfold y_IB
  rw [ha 10 (by omega)]
  refine ⟨⟨h1.1, Int.le_trans h1.2 (by omega)⟩, fun q hq => ?_, fun q j hq hj hne => ?_, fun z => ⟨(h4 (h0 z)).1, fun j hj => ?_⟩⟩
  · rw [ha (224 + 8 * q + 6) (by omega), ha (224 + 8 * q + 7) (by omega)]
    exact ⟨fun s hs => by rw [ha _ (by omega)]; exact (h2 q hq).1 s hs, (h2 q hq).2⟩
  · rw [ha (224 + 8 * q + 7) (by omega), ha (224 + 8 * j + 7) (by omega)]
    exact h3 q j hq hj hne
  · rw [ha _ (by omega)]; exact (h4 (h0 z)).2 j hj
theorem IV_c (ha : ∀ j, j = 8 ∨ (32 ≤ j ∧ j < 44) → a' j = a j) (h : y_IV a) : y_IV a' := fun s hs => by
  rw [ha 8 (by omega), ha (32 + s) (by omega), ha (38 + s) (by omega)]
  exact h s hs
theorem IK_c (ha : ∀ j, j = 0 ∨ j = 11 ∨ j = 13 ∨ j = 15 ∨ j = 16 ∨ (288 ≤ j ∧ j < 366) → a' j = a j) (h8 : ¬ a 0 = 8) (h : y_IK a) : y_IK a' := by
  obtain ⟨h1, h2, h3, h4, h5, h6, _⟩ := h
  unfold y_IK
  rw [ha 0 (by omega), ha 11 (by omega), ha 13 (by omega), ha 15 (by omega), ha 16 (by omega)]
  exact ⟨h1, h2, fun s hs => by rw [ha _ (by omega)]; exact h3 s hs, fun j hj => by rw [ha _ (by omega)]; exact h4 j hj, h5, h6, fun z => absurd z h8⟩
theorem IL_c (ha : ∀ j, j = 14 ∨ (366 ≤ j ∧ j < 606) → a' j = a j) (h : y_IL a) : y_IL a' := by
  obtain ⟨n, hn, h14, hk⟩ := h
  refine ⟨n, hn, by rw [ha 14 (by omega)]; exact h14, fun k hkn => ?_⟩
  rw [ha _ (by omega), ha _ (by omega), ha _ (by omega)]
  exact hk k hkn
theorem h60_of (h : y_IL a) : (a 14).toNatClampNeg ≤ 60 := by
  obtain ⟨n, hn, h14, _⟩ := h
  rw [h14, n_cl (by omega)]
  exact hn
end

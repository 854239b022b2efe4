/-! ===== the model's whole state; its keeping; both; what a call comes to ===== -/
section
def y_SM (I : Nat → Nat → Int32) (L : Nat → Nat → Int64) (R : Nat → Nat → Option Nat) (a : Nat → Int32) (b : Nat → Int64) (kn : Nat) (ks : Nat → (Nat → Int32) × (Nat → Int64)) (bf : Nat → Int32) (bn : Nat) (ep : Int32) : Prop := x_wf R ∧ I 226 = a ∧ L 229 = b ∧ kn ≤ 8 ∧ I 225 5 = Int32.ofNat kn ∧ (∀ i, i < kn → (∀ j, j < 606 → I 228 (606 * (kn - 1 - i) + j) = (ks i).1 j) ∧ (∀ j, j < 37 → L 230 (37 * (kn - 1 - i) + j) = (ks i).2 j)) ∧ I 225 8 = Int32.ofNat bn ∧ (∀ j, j < bn → I 231 j = bf j) ∧ I 225 15 = ep
def y_fr (I I' : Nat → Nat → Int32) (L L' : Nat → Nat → Int64) : Prop := ∀ q, (q < 225 ∨ q = 232) → I' q = I q ∧ L' q = L q
variable {X : x_X} {I I' : Nat → Nat → Int32} {L L' : Nat → Nat → Int64} {R : Nat → Nat → Option Nat} {a a' : Nat → Int32} {b b' : Nat → Int64} {kn : Nat} {ks : Nat → (Nat → Int32) × (Nat → Int64)} {bf : Nat → Int32} {bn : Nat} {ep : Int32}
theorem SM_a (S : y_SM I L R a b kn ks bf bn ep) : y_SM (va_up I 226 a') L R a' b kn ks bf bn ep := by
  obtain ⟨hR, h1, h2, h3, h4, h5, h6, h7, h8⟩ := S
  exact ⟨hR, x_up_self _ _ _, h2, h3, h4, h5, h6, h7, h8⟩
theorem SM_b (S : y_SM I L R a b kn ks bf bn ep) : y_SM I (va_up L 229 b') R a b' kn ks bf bn ep := by
  obtain ⟨hR, h1, h2, h3, h4, h5, h6, h7, h8⟩ := S
  exact ⟨hR, h1, x_up_self _ _ _, h3, h4, h5, h6, h7, h8⟩
theorem SM_tw {t : Int32} (S : y_SM I L R a b kn ks bf bn ep) : y_SM (x_tw I t) L R a b kn ks bf bn ep := by
  obtain ⟨hR, h1, h2, h3, h4, h5, h6, h7, h8⟩ := S
  exact ⟨hR, h1, h2, h3, h4, h5, h6, h7, h8⟩
theorem SM_fac {B C : Int64} (S : y_SM I L R a b kn ks bf bn ep) : y_SM I (x_fac L B C) R a b kn ks bf bn ep := by
  obtain ⟨hR, h1, h2, h3, h4, h5, h6, h7, h8⟩ := S
  exact ⟨hR, h1, h2, h3, h4, h5, h6, h7, h8⟩
theorem fr_r : y_fr I I L L := fun _ _ => ⟨rfl, rfl⟩
theorem fr_t {I2 : Nat → Nat → Int32} {L2 : Nat → Nat → Int64} (h : y_fr I I' L L') (g : y_fr I' I2 L' L2) : y_fr I I2 L L2 := fun q hq => ⟨(g q hq).1.trans (h q hq).1, (g q hq).2.trans (h q hq).2⟩
theorem fr_tw {t : Int32} : y_fr I (x_tw I t) L L := fun q hq => ⟨by unfold x_tw; exact x_up_ne _ _ (by omega), rfl⟩
theorem fr_a {f : Nat → Int32} : y_fr I (va_up I 226 f) L L := fun q hq => ⟨x_up_ne _ _ (by omega), rfl⟩
theorem fr_b {f : Nat → Int64} : y_fr I I L (va_up L 229 f) := fun q hq => ⟨rfl, x_up_ne _ _ (by omega)⟩
theorem fr_fac {B C : Int64} : y_fr I I L (x_fac L B C) := fun q hq => ⟨rfl, fac_o (by omega)⟩
theorem keeps_ok (S : y_SM I L R a b kn ks bf bn ep) : ∃ I1 L1, x_Cv X mX9_keeps [.ref 225] (I, L, R) 233 (.inl none, (I1, L1, R), 233) ∧ y_SM I1 L1 R a b (min (kn + 1) 8) (y_push a b ks) bf bn ep ∧ I1 225 6 = I 225 6 ∧ L1 225 = L 225 ∧ y_fr I I1 L L1 := by
  obtain ⟨hR, h1, h2, h3, h4, h5, h6, h7, h8⟩ := S
  by_cases h : kn = 8
  · subst h
    refine ⟨_, _, c_X9_keeps_8 (X := X) (L := L) hR h4, ⟨hR, h1, h2, by decide, rfl, ?_, h6, h7, h8⟩, rfl, rfl, ?_⟩
    · intro i hi
      rw [show min (8 + 1) 8 = 8 from rfl] at hi ⊢
      by_cases hi0 : i = 0
      · subst hi0
        refine ⟨fun j hj => ?_, fun j hj => ?_⟩
        · show (if 606 * 7 ≤ 606 * (8 - 1 - 0) + j ∧ 606 * (8 - 1 - 0) + j < 606 * 7 + 606 then I 226 (606 * (8 - 1 - 0) + j - 606 * 7) else _) = a j
          rw [if_pos ⟨by omega, by omega⟩, h1, show 606 * (8 - 1 - 0) + j - 606 * 7 = j by omega]
        · show (if 37 * 7 ≤ 37 * (8 - 1 - 0) + j ∧ 37 * (8 - 1 - 0) + j < 37 * 7 + 37 then L 229 (37 * (8 - 1 - 0) + j - 37 * 7) else _) = b j
          rw [if_pos ⟨by omega, by omega⟩, h2, show 37 * (8 - 1 - 0) + j - 37 * 7 = j by omega]
      · have g := h5 (i - 1) (by omega)
        have e : y_push a b ks i = ks (i - 1) := if_neg hi0
        rw [e]
        refine ⟨fun j hj => ?_, fun j hj => ?_⟩
        · show (if 606 * 7 ≤ 606 * (8 - 1 - i) + j ∧ 606 * (8 - 1 - i) + j < 606 * 7 + 606 then _ else (if 606 * (8 - 1 - i) + j < 4242 then I 228 (606 * (8 - 1 - i) + j + 606) else _)) = _
          rw [if_neg (by omega), if_pos (by omega), ← g.1 j hj]
          congr 1
          omega
        · show (if 37 * 7 ≤ 37 * (8 - 1 - i) + j ∧ 37 * (8 - 1 - i) + j < 37 * 7 + 37 then _ else (if 37 * (8 - 1 - i) + j < 259 then L 230 (37 * (8 - 1 - i) + j + 37) else _)) = _
          rw [if_neg (by omega), if_pos (by omega), ← g.2 j hj]
          congr 1
          omega
    · intro q hq
      refine ⟨?_, ?_⟩
      · unfold x_km x_kp x_sh
        rw [x_up_ne _ _ (by omega), x_up_ne _ _ (by omega), x_up_ne _ _ (by omega), x_up_ne _ _ (by omega)]
      · unfold x_kpl x_shl
        rw [x_up_ne _ _ (by omega), x_up_ne _ _ (by omega)]
  · have hk : kn < 8 := by omega
    refine ⟨_, _, c_X9_keeps (X := X) (L := L) hR hk h4, ⟨hR, h1, h2, by omega, ?_, ?_, h6, h7, h8⟩, rfl, rfl, ?_⟩
    · rw [Nat.min_eq_left (by omega)]
      show Int32.ofNat kn + 1 = _
      rw [n_inc]
    · intro i hi
      rw [Nat.min_eq_left (by omega)] at hi ⊢
      by_cases hi0 : i = 0
      · subst hi0
        refine ⟨fun j hj => ?_, fun j hj => ?_⟩
        · show (if 606 * kn ≤ 606 * (kn + 1 - 1 - 0) + j ∧ 606 * (kn + 1 - 1 - 0) + j < 606 * kn + 606 then I 226 (606 * (kn + 1 - 1 - 0) + j - 606 * kn) else _) = a j
          rw [if_pos ⟨by omega, by omega⟩, h1, show 606 * (kn + 1 - 1 - 0) + j - 606 * kn = j by omega]
        · show (if 37 * kn ≤ 37 * (kn + 1 - 1 - 0) + j ∧ 37 * (kn + 1 - 1 - 0) + j < 37 * kn + 37 then L 229 (37 * (kn + 1 - 1 - 0) + j - 37 * kn) else _) = b j
          rw [if_pos ⟨by omega, by omega⟩, h2, show 37 * (kn + 1 - 1 - 0) + j - 37 * kn = j by omega]
      · have g := h5 (i - 1) (by omega)
        have e : y_push a b ks i = ks (i - 1) := if_neg hi0
        rw [e]
        refine ⟨fun j hj => ?_, fun j hj => ?_⟩
        · show (if 606 * kn ≤ 606 * (kn + 1 - 1 - i) + j ∧ 606 * (kn + 1 - 1 - i) + j < 606 * kn + 606 then _ else I 228 (606 * (kn + 1 - 1 - i) + j)) = _
          rw [if_neg (by omega), ← g.1 j hj]
          congr 1
          omega
        · show (if 37 * kn ≤ 37 * (kn + 1 - 1 - i) + j ∧ 37 * (kn + 1 - 1 - i) + j < 37 * kn + 37 then _ else L 230 (37 * (kn + 1 - 1 - i) + j)) = _
          rw [if_neg (by omega), ← g.2 j hj]
          congr 1
          omega
    · intro q hq
      refine ⟨?_, ?_⟩
      · unfold x_km x_kp
        rw [x_up_ne _ _ (by omega), x_up_ne _ _ (by omega)]
      · unfold x_kpl
        rw [x_up_ne _ _ (by omega)]
/-! both -/
def y_In (N : Nat) (a : Nat → Int32) (b : Nat → Int64) (kn : Nat) (ks : Nat → (Nat → Int32) × (Nat → Int64)) (bf : Nat → Int32) (bn : Nat) : Prop := y_Inv N a b ∧ (∀ i, i < kn → y_Inv N (ks i).1 (ks i).2) ∧ (∀ j, j < bn → y_in (bf j) 0 255)
def y_T (N : Nat) (I : Nat → Nat → Int32) (L : Nat → Nat → Int64) (R : Nat → Nat → Option Nat) : Prop := ∃ a b kn ks bf bn ep, (∃ β δ γ ν, y_SB I L R β δ γ ν a b kn ks bf bn ep) ∧ y_SM I L R a b kn ks bf bn ep ∧ y_In N a b kn ks bf bn
theorem IB_m {N M : Nat} (h : N ≤ M) (g : y_IB N a) : y_IB M a := ⟨⟨g.1.1, Int.le_trans g.1.2 (by omega)⟩, g.2⟩
theorem Inv_m {N M : Nat} (h : N ≤ M) (g : y_Inv N a b) : y_Inv M a b := ⟨g.1, g.2.1, IB_m h g.2.2.1, g.2.2.2⟩
theorem In_m {N M : Nat} (h : N ≤ M) (g : y_In N a b kn ks bf bn) : y_In M a b kn ks bf bn := ⟨Inv_m h g.1, fun i hi => Inv_m h (g.2.1 i hi), g.2.2⟩
theorem In_p {N M : Nat} (h : N ≤ M) (g : y_In N a b kn ks bf bn) (g' : y_Inv M a' b') : y_In M a' b' (min (kn + 1) 8) (y_push a b ks) bf bn := by
  refine ⟨g', fun i hi => ?_, g.2.2⟩
  unfold y_push
  by_cases h0 : i = 0
  · rw [if_pos h0]; exact Inv_m h g.1
  · rw [if_neg h0]; exact Inv_m h (g.2.1 (i - 1) (by omega))
/-- the class's state doesn't look at the model's cells -/
theorem SB_f {β δ : Nat} {γ : Nat → Nat} {ν : Nat} (S : y_SB I L R β δ γ ν a b kn ks bf bn ep) (h : ∀ q, q < 225 → I' q = I q ∧ L' q = L q) : y_SB I' L' R β δ γ ν a b kn ks bf bn ep := by
  obtain ⟨⟨hR, hβ, hδ, hγ, h02, h03, h4, hbd, hgn, hgg⟩, hν, h31, hkn, h32, hrep, hks, hrd⟩ := S
  have f : ∀ β', x_sl β' → ∀ k, k < 22 → β' + k < 225 := fun β' hs k hk => by obtain ⟨m, hm, rfl⟩ := hs; omega
  refine ⟨⟨hR, hβ, hδ, hγ, h02, h03, h4, hbd, hgn, hgg⟩, hν, by rw [(h 3 (by decide)).1]; exact h31, hkn, by rw [(h 3 (by decide)).1]; exact h32, ?_, fun i hi => ?_, ?_⟩
  · exact Rep_c (fun k hk => (h _ (f β hβ k hk)).1) (fun k hk => (h _ (f β hβ k hk)).2) hrep
  · have hw : (ν + 8 - i) % 8 < 8 := Nat.mod_lt _ (by decide)
    exact Rep_c (fun k hk => (h _ (f _ (hγ _ hw) k hk)).1) (fun k hk => (h _ (f _ (hγ _ hw) k hk)).2) (hks i hi)
  · obtain ⟨d1, d2, d3, d4⟩ := hrd
    unfold y_RD
    rw [(h 1 (by decide)).1, (h 2 (by decide)).1]
    exact ⟨d1, d2, d3, d4⟩
theorem SM_f (S : y_SM I L R a b kn ks bf bn ep) {R' : Nat → Nat → Option Nat} (hR' : x_wf R') (h : ∀ q, 225 ≤ q → q < 232 → I' q = I q ∧ L' q = L q) : y_SM I' L' R' a b kn ks bf bn ep := by
  obtain ⟨hR, h1, h2, h3, h4, h5, h6, h7, h8⟩ := S
  have g := fun q h1 h2 => (h q h1 h2).1
  have l := fun q h1 h2 => (h q h1 h2).2
  unfold y_SM
  rw [g 226 (by decide) (by decide), l 229 (by decide) (by decide), g 225 (by decide) (by decide), g 228 (by decide) (by decide), l 230 (by decide) (by decide), g 231 (by decide) (by decide)]
  exact ⟨hR', h1, h2, h3, h4, h5, h6, h7, h8⟩
/-! what a call of both comes to -/
def y_OI (N : Nat) (X : x_X) (W : x_MI) (ws : List Value) (M : x_MI) (ms : List Value) (I : Nat → Nat → Int32) (L : Nat → Nat → Int64) (R : Nat → Nat → Option Nat) : Prop := ∃ (k : Int32) (I1 : Nat → Nat → Int32) (L1 : Nat → Nat → Int64) (R1 : Nat → Nat → Option Nat) (v : Int32) (I2 : Nat → Nat → Int32) (L2 : Nat → Nat → Int64), x_Cv X W ws (I, L, R) 233 (.inl (some (.int k)), (I1, L1, R1), 233) ∧ x_Cv X M ms (I1, L1, R1) 233 (.inl (some (.int v)), (I2, L2, R1), 233) ∧ I2 225 6 = k ∧ (k = 0 → L2 232 0 = v.toInt64) ∧ y_T (N + 1) I2 L2 R1
def y_OL (N : Nat) (X : x_X) (W : x_MI) (ws : List Value) (M : x_MI) (ms : List Value) (I : Nat → Nat → Int32) (L : Nat → Nat → Int64) (R : Nat → Nat → Option Nat) : Prop := ∃ (k : Int32) (I1 : Nat → Nat → Int32) (L1 : Nat → Nat → Int64) (R1 : Nat → Nat → Option Nat) (v : Int64) (I2 : Nat → Nat → Int32) (L2 : Nat → Nat → Int64), x_Cv X W ws (I, L, R) 233 (.inl (some (.int k)), (I1, L1, R1), 233) ∧ x_Cv X M ms (I1, L1, R1) 233 (.inl (some (.long v)), (I2, L2, R1), 233) ∧ I2 225 6 = k ∧ (k = 0 → L2 232 0 = v) ∧ y_T (N + 1) I2 L2 R1
def y_OV (N : Nat) (X : x_X) (W : x_MI) (ws : List Value) (M : x_MI) (ms : List Value) (I : Nat → Nat → Int32) (L : Nat → Nat → Int64) (R : Nat → Nat → Option Nat) : Prop := ∃ (k : Int32) (I1 : Nat → Nat → Int32) (L1 : Nat → Nat → Int64) (R1 : Nat → Nat → Option Nat) (I2 : Nat → Nat → Int32) (L2 : Nat → Nat → Int64), x_Cv X W ws (I, L, R) 233 (.inl (some (.int k)), (I1, L1, R1), 233) ∧ x_Cv X M ms (I1, L1, R1) 233 (.inl none, (I2, L2, R1), 233) ∧ I2 225 6 = k ∧ y_T (N + 1) I2 L2 R1
/-- a call without a check: the class's own, then the model's -/
def y_DI (N : Nat) (X : x_X) (W : x_MI) (ws : List Value) (M : x_MI) (ms : List Value) (I : Nat → Nat → Int32) (L : Nat → Nat → Int64) (R : Nat → Nat → Option Nat) : Prop := ∃ (v : Int32) (I2 : Nat → Nat → Int32) (L2 : Nat → Nat → Int64), x_Cv X W ws (I, L, R) 233 (.inl (some (.int v)), (I, L, R), 233) ∧ x_Cv X M ms (I, L, R) 233 (.inl (some (.int v)), (I2, L2, R), 233) ∧ y_T (N + 1) I2 L2 R
def y_DL (N : Nat) (X : x_X) (W : x_MI) (ws : List Value) (M : x_MI) (ms : List Value) (I : Nat → Nat → Int32) (L : Nat → Nat → Int64) (R : Nat → Nat → Option Nat) : Prop := ∃ (v : Int64) (I2 : Nat → Nat → Int32) (L2 : Nat → Nat → Int64), x_Cv X W ws (I, L, R) 233 (.inl (some (.long v)), (I, L, R), 233) ∧ x_Cv X M ms (I, L, R) 233 (.inl (some (.long v)), (I2, L2, R), 233) ∧ y_T (N + 1) I2 L2 R
variable {N : Nat}
theorem T_tw {t : Int32} (T : y_T N I L R) : y_T (N + 1) (x_tw I t) L R := by
  obtain ⟨a, b, kn, ks, bf, bn, ep, ⟨β, δ, γ, ν, hB⟩, hM, hI⟩ := T
  exact ⟨a, b, kn, ks, bf, bn, ep, ⟨β, δ, γ, ν, SB_f hB (fun q hq => fr_tw q (Or.inl hq))⟩, SM_tw hM, In_m (by omega) hI⟩
/-- the answer's cell isn't looked at -/
theorem T_o {v : Int64} (T : y_T N I L R) : y_T N I (va_up L 232 (va_up (L 232) 0 v)) R := by
  obtain ⟨a, b, kn, ks, bf, bn, ep, ⟨β, δ, γ, ν, hB⟩, hM, hI⟩ := T
  exact ⟨a, b, kn, ks, bf, bn, ep, ⟨β, δ, γ, ν, SB_f hB (fun q hq => ⟨rfl, x_up_ne _ _ (by omega)⟩)⟩, SM_f hM hM.1 (fun q h1 h2 => ⟨rfl, x_up_ne _ _ (by omega)⟩), hI⟩
theorem T_fac {B C : Int64} (T : y_T N I L R) : y_T N I (x_fac L B C) R := by
  obtain ⟨a, b, kn, ks, bf, bn, ep, ⟨β, δ, γ, ν, hB⟩, hM, hI⟩ := T
  exact ⟨a, b, kn, ks, bf, bn, ep, ⟨β, δ, γ, ν, SB_f hB (fun q hq => fr_fac q (Or.inl hq))⟩, SM_fac hM, hI⟩
section
variable {W M : x_MI} {ws ms : List Value} {k v : Int32} {w : Int64}
theorem OI_x (T : y_T N I L R) (hk : ¬ k = 0) (h1 : x_Cv X W ws (I, L, R) 233 (.inl (some (.int k)), (I, L, R), 233)) (h2 : x_Cv X M ms (I, L, R) 233 (.inl (some (.int v)), (x_tw I k, L, R), 233)) : y_OI N X W ws M ms I L R :=
  ⟨k, I, L, R, v, _, _, h1, h2, rfl, fun z => absurd z hk, T_tw T⟩
theorem OL_x (T : y_T N I L R) (hk : ¬ k = 0) (h1 : x_Cv X W ws (I, L, R) 233 (.inl (some (.int k)), (I, L, R), 233)) (h2 : x_Cv X M ms (I, L, R) 233 (.inl (some (.long w)), (x_tw I k, L, R), 233)) : y_OL N X W ws M ms I L R :=
  ⟨k, I, L, R, w, _, _, h1, h2, rfl, fun z => absurd z hk, T_tw T⟩
theorem OV_x (T : y_T N I L R) (h1 : x_Cv X W ws (I, L, R) 233 (.inl (some (.int k)), (I, L, R), 233)) (h2 : x_Cv X M ms (I, L, R) 233 (.inl none, (x_tw I k, L, R), 233)) : y_OV N X W ws M ms I L R :=
  ⟨k, I, L, R, _, _, h1, h2, rfl, T_tw T⟩
theorem OI_q (T : y_T N I L R) (h1 : x_Cv X W ws (I, L, R) 233 (.inl (some (.int 0)), (I, va_up L 232 (va_up (L 232) 0 v.toInt64), R), 233)) (h2 : x_Cv X M ms (I, va_up L 232 (va_up (L 232) 0 v.toInt64), R) 233 (.inl (some (.int v)), (x_tw I 0, va_up L 232 (va_up (L 232) 0 v.toInt64), R), 233)) : y_OI N X W ws M ms I L R :=
  ⟨0, _, _, R, v, _, _, h1, h2, rfl, fun _ => rfl, T_tw (T_o T)⟩
theorem OL_q (T : y_T N I L R) (h1 : x_Cv X W ws (I, L, R) 233 (.inl (some (.int 0)), (I, va_up L 232 (va_up (L 232) 0 w), R), 233)) (h2 : x_Cv X M ms (I, va_up L 232 (va_up (L 232) 0 w), R) 233 (.inl (some (.long w)), (x_tw I 0, va_up L 232 (va_up (L 232) 0 w), R), 233)) : y_OL N X W ws M ms I L R :=
  ⟨0, _, _, R, w, _, _, h1, h2, rfl, fun _ => rfl, T_tw (T_o T)⟩
theorem OL_f {B C : Int64} (T : y_T N I L R) (h1 : x_Cv X W ws (I, L, R) 233 (.inl (some (.int 0)), (I, va_up L 232 (va_up (L 232) 0 w), R), 233)) (h2 : x_Cv X M ms (I, va_up L 232 (va_up (L 232) 0 w), R) 233 (.inl (some (.long w)), (x_tw I 0, x_fac (va_up L 232 (va_up (L 232) 0 w)) B C, R), 233)) : y_OL N X W ws M ms I L R :=
  ⟨0, _, _, R, w, _, _, h1, h2, rfl, fun _ => rfl, T_fac (T_tw (T_o T))⟩
/-- a change: the class's own, the model's own -/
theorem OI_c {R1 : Nat → Nat → Option Nat} {I1 I2 : Nat → Nat → Int32} {L1 L2 : Nat → Nat → Int64} (h1 : x_Cv X W ws (I, L, R) 233 (.inl (some (.int 0)), (I1, va_up L1 232 (va_up (L1 232) 0 v.toInt64), R1), 233)) (hB : ∃ β δ γ ν, y_SB I1 L1 R1 β δ γ ν a' b' kn ks bf bn ep) (h2 : x_Cv X M ms (I1, va_up L1 232 (va_up (L1 232) 0 v.toInt64), R1) 233 (.inl (some (.int v)), (I2, L2, R1), 233)) (ht : I2 225 6 = 0) (hM : y_SM I2 L2 R1 a' b' kn ks bf bn ep) (hf : y_fr I1 I2 (va_up L1 232 (va_up (L1 232) 0 v.toInt64)) L2) (hI : y_In (N + 1) a' b' kn ks bf bn) : y_OI N X W ws M ms I L R := by
  obtain ⟨β, δ, γ, ν, hB⟩ := hB
  exact ⟨0, _, _, R1, v, I2, L2, h1, h2, ht, fun _ => by rw [(hf 232 (Or.inr rfl)).2]; rfl, a', b', kn, ks, bf, bn, ep, ⟨β, δ, γ, ν, SB_f hB (fun q hq => ⟨(hf q (Or.inl hq)).1, (hf q (Or.inl hq)).2.trans (x_up_ne _ _ (by omega))⟩)⟩, hM, hI⟩
theorem OL_c {R1 : Nat → Nat → Option Nat} {I1 I2 : Nat → Nat → Int32} {L1 L2 : Nat → Nat → Int64} (h1 : x_Cv X W ws (I, L, R) 233 (.inl (some (.int 0)), (I1, va_up L1 232 (va_up (L1 232) 0 w), R1), 233)) (hB : ∃ β δ γ ν, y_SB I1 L1 R1 β δ γ ν a' b' kn ks bf bn ep) (h2 : x_Cv X M ms (I1, va_up L1 232 (va_up (L1 232) 0 w), R1) 233 (.inl (some (.long w)), (I2, L2, R1), 233)) (ht : I2 225 6 = 0) (hM : y_SM I2 L2 R1 a' b' kn ks bf bn ep) (hf : y_fr I1 I2 (va_up L1 232 (va_up (L1 232) 0 w)) L2) (hI : y_In (N + 1) a' b' kn ks bf bn) : y_OL N X W ws M ms I L R := by
  obtain ⟨β, δ, γ, ν, hB⟩ := hB
  exact ⟨0, _, _, R1, w, I2, L2, h1, h2, ht, fun _ => by rw [(hf 232 (Or.inr rfl)).2]; rfl, a', b', kn, ks, bf, bn, ep, ⟨β, δ, γ, ν, SB_f hB (fun q hq => ⟨(hf q (Or.inl hq)).1, (hf q (Or.inl hq)).2.trans (x_up_ne _ _ (by omega))⟩)⟩, hM, hI⟩
theorem OV_c {R1 : Nat → Nat → Option Nat} {I1 I2 : Nat → Nat → Int32} {L1 L2 : Nat → Nat → Int64} (h1 : x_Cv X W ws (I, L, R) 233 (.inl (some (.int 0)), (I1, L1, R1), 233)) (hB : ∃ β δ γ ν, y_SB I1 L1 R1 β δ γ ν a' b' kn ks bf bn ep) (h2 : x_Cv X M ms (I1, L1, R1) 233 (.inl none, (I2, L2, R1), 233)) (ht : I2 225 6 = 0) (hM : y_SM I2 L2 R1 a' b' kn ks bf bn ep) (hf : y_fr I1 I2 L1 L2) (hI : y_In (N + 1) a' b' kn ks bf bn) : y_OV N X W ws M ms I L R := by
  obtain ⟨β, δ, γ, ν, hB⟩ := hB
  exact ⟨0, _, _, R1, I2, L2, h1, h2, ht, a', b', kn, ks, bf, bn, ep, ⟨β, δ, γ, ν, SB_f hB (fun q hq => hf q (Or.inl hq))⟩, hM, hI⟩
end
end

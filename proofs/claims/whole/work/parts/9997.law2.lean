/-! ===== the law, second: its cases (laid by wip/whole/src/law2.py) ===== -/
section
variable {X : x_X} {I : Nat → Nat → Int32} {L : Nat → Nat → Int64} {R : Nat → Nat → Option Nat} {N : Nat}
section
variable {M : x_MI} {pc : Nat} {ls : x_Ls} {st : List Value} {n c k : Nat} {r : x_O × x_Mem × Nat}
theorem e_tsI {x : Int32} {dflt lo hi off : Int} {offs : Array Int} {len j : Nat} (t : Nat) (hd : decode (x_mb M) pc = .ok (.tableswitch dflt lo hi offs, len)) (hl : x_lenOK (.tableswitch dflt lo hi offs) len = true) (hx : x.toInt = lo + j) (hh : lo + j ≤ hi) (ho : offs[j]? = some off) (ht : x_jm pc off = some t) (kk : x_Ev X M t ls st ((I, L, R), n, c, k) r) : x_Ev X M pc ls (.int x :: st) ((I, L, R), n, c, k) r := by
  refine e_step hd hl ?_ kk
  unfold x_step
  dsimp only
  rw [if_neg (by omega), show (x.toInt - lo).toNat = j by omega, ho]
  dsimp only
  rw [ht]
  rfl
theorem e_tsD {x : Int32} {dflt lo hi : Int} {offs : Array Int} {len : Nat} (t : Nat) (hd : decode (x_mb M) pc = .ok (.tableswitch dflt lo hi offs, len)) (hl : x_lenOK (.tableswitch dflt lo hi offs) len = true) (hx : x.toInt < lo ∨ hi < x.toInt) (ht : x_jm pc dflt = some t) (kk : x_Ev X M t ls st ((I, L, R), n, c, k) r) : x_Ev X M pc ls (.int x :: st) ((I, L, R), n, c, k) r := by
  refine e_step hd hl ?_ kk
  unfold x_step
  dsimp only
  rw [if_pos hx, ht]
  rfl
end
def y_OZ (N : Nat) (X : x_X) (W : x_MI) (ws : List Value) (M : x_MI) (ms : List Value) (I : Nat → Nat → Int32) (L : Nat → Nat → Int64) (R : Nat → Nat → Option Nat) : Prop := ∃ (k : Int32) (I1 : Nat → Nat → Int32) (L1 : Nat → Nat → Int64) (R1 : Nat → Nat → Option Nat) (v : Int32) (I2 : Nat → Nat → Int32) (L2 : Nat → Nat → Int64), (v = 0 ∨ v = 1) ∧ x_Cv X W ws (I, L, R) 233 (.inl (some (.int k)), (I1, L1, R1), 233) ∧ x_Cv X M ms (I1, L1, R1) 233 (.inl (some (.int v)), (I2, L2, R1), 233) ∧ I2 225 6 = k ∧ (k = 0 → L2 232 0 = v.toInt64) ∧ y_T (N + 1) I2 L2 R1
section
variable {W M : x_MI} {ws ms : List Value} {k v : Int32}
theorem OZ_x (T : y_T N I L R) (hk : ¬ k = 0) (h1 : x_Cv X W ws (I, L, R) 233 (.inl (some (.int k)), (I, L, R), 233)) (h2 : x_Cv X M ms (I, L, R) 233 (.inl (some (.int 0)), (x_tw I k, L, R), 233)) : y_OZ N X W ws M ms I L R :=
  ⟨k, I, L, R, 0, _, _, Or.inl rfl, h1, h2, rfl, fun z => absurd z hk, T_tw T⟩
theorem OZ_q (hv : v = 0 ∨ v = 1) (T : y_T N I L R) (h1 : x_Cv X W ws (I, L, R) 233 (.inl (some (.int 0)), (I, va_up L 232 (va_up (L 232) 0 v.toInt64), R), 233)) (h2 : x_Cv X M ms (I, va_up L 232 (va_up (L 232) 0 v.toInt64), R) 233 (.inl (some (.int v)), (x_tw I 0, va_up L 232 (va_up (L 232) 0 v.toInt64), R), 233)) : y_OZ N X W ws M ms I L R :=
  ⟨0, _, _, R, v, _, _, hv, h1, h2, rfl, fun _ => rfl, T_tw (T_o T)⟩
end
theorem sim_isAccurateZ (T : y_T N I L R) {v : Int32} {p : Int32} : y_OZ N X mL_isAccurate [.ref 0, .int v, .int p, .ref 232] mX9_isAccurate [.ref 225, .int v, .int p] I L R := by
  have T0 := T
  obtain ⟨a, b, kn, ks, bf, bn, ep, ⟨β, δ, γ, ν, hB⟩, hM, hI⟩ := T
  have H : y_CS N I L R β a b := ⟨hM.1, hB.1.2.1, hB.1.2.2.2.2.1, hB.2.2.2.2.2.1, hI.1⟩
  obtain ⟨Ns, Np, Nl, Nm, Z⟩ := Z_of hI.1
  have hR := hM.1
  have ha : I 226 = a := hM.2.1
  have hb : L 229 = b := hM.2.2.1
  subst ha
  subst hb
  obtain ⟨hNs, hn, hNp, hp, hNl, hl, hNm, hmm⟩ := id Z
  by_cases h0 : v = -1 ∨ (0 ≤ v ∧ v ≤ I 226 8 - 1)
  · skip
    by_cases h1 : 1 ≤ p ∧ p ≤ 20
    · skip
      by_cases h2 : 2 ≤ I 226 9
      · skip
        by_cases h : sp_acc (I 226) v p Np
        · exact OZ_q (v := 1) (Or.inr rfl) T0 (w_isAccurate_t (ko_isAccurate_t H Z h0 h1 h2 h)) (mo_isAccurate_t hR Z h0 h1 h2 h)
        · exact OZ_q (v := 0) (Or.inl rfl) T0 (w_isAccurate_f (ko_isAccurate_f H Z h0 h1 h2 h)) (mo_isAccurate_f hR Z h0 h1 h2 h)
      · exact OZ_x T0 (by decide) (w_isAccurate_x0 (kf_isAccurate_2 H Z h0 h1 h2)) (mf_isAccurate_2 hR Z h0 h1 h2)
    · exact OZ_x T0 (by decide) (w_isAccurate_x1 (kf_isAccurate_1 H Z h0 h1)) (mf_isAccurate_1 hR Z h0 h1)
  · exact OZ_x T0 (by decide) (w_isAccurate_x2 (kf_isAccurate_0 H Z h0)) (mf_isAccurate_0 hR Z h0)
def y_Nx (Lw : Nat) (xs : Nat → Int32) (N : Nat) (I : Nat → Nat → Int32) (L : Nat → Nat → Int64) (R : Nat → Nat → Option Nat) (c k : Nat) (w5 w6 w7 : Option Value) : Prop := ∃ I' L' R' v5 v6 v7 c' k', y_T (N + 1) I' L' R' ∧ c' ≤ c + 4 ∧ k' ≤ k + 24 ∧ ∀ r, x_Ev (Lw, xs) mL_law 23 [some (.ref 1000), some (.ref 0), some (.ref 225), some (.ref 232), some (.int (Int32.ofNat (7 * (N + 1)))), v5, v6, v7] [] ((I', L', R'), 233, c', k') r → x_Ev (Lw, xs) mL_law 40 [some (.ref 1000), some (.ref 0), some (.ref 225), some (.ref 232), some (.int (Int32.ofNat (7 * N))), w5, w6, w7] [.int (xs (7 * N) &&& 63)] ((I, L, R), 233, c, k) r
end

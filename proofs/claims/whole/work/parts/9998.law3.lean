/-! ===== the law, third: its loop, the goal (laid by wip/whole/src/law3.py) ===== -/
section
variable {X : x_X} {I : Nat → Nat → Int32} {L : Nat → Nat → Int64} {R : Nat → Nat → Option Nat} {N : Nat}
variable {Lw c k : Nat} {xs : Nat → Int32} {w5 w6 w7 : Option Value}
theorem m63 {x : Int32} : ∃ i, i < 64 ∧ x &&& 63 = Int32.ofNat i := by
  have e : (x &&& 63).toBitVec.toNat = x.toBitVec.toNat &&& 63 := by rw [Int32.toBitVec_and, BitVec.toNat_and]; rfl
  have l : x.toBitVec.toNat &&& 63 ≤ 63 := Nat.and_le_right
  have t : (x &&& 63).toInt = ((x &&& 63).toBitVec.toNat : Int) := by
    rw [← Int32.toInt_toBitVec]
    exact BitVec.toInt_eq_toNat_of_lt (by omega)
  refine ⟨x.toBitVec.toNat &&& 63, by omega, ?_⟩
  apply Int32.toInt_inj.mp
  rw [Int32.toInt_ofNat_of_lt (by omega), t, e]
theorem T_nx (T : y_T N I L R) : y_T (N + 1) I L R := by
  obtain ⟨a, b, kn, ks, bf, bn, ep, h1, h2, h3⟩ := T
  exact ⟨a, b, kn, ks, bf, bn, ep, h1, h2, In_m (Nat.le_succ N) h3⟩
theorem lk_d {i : Nat} (h48 : 48 ≤ i) (h64 : i < 64) (hlen : 7 * N + 7 ≤ Lw) (hLw : Lw ≤ 3584) (T : y_T N I L R) (hN : N < 512) (hc : c ≤ 233 + 4 * N) (hk : k ≤ 14655 + 24 * N) (hx : xs (7 * N) &&& 63 = Int32.ofNat i) : y_Nx Lw xs N I L R c k w5 w6 w7 := by
  refine ⟨I, L, R, w5, w6, w7, c, k, T_nx T, by omega, by omega, fun r hr => ?_⟩
  have hi : (xs (7 * N) &&& 63).toInt = (i : Int) := by rw [hx, Int32.toInt_ofNat_of_lt (by omega)]
  refine e_tsD 2888 dL_law_40 rfl (Or.inr (by omega)) rfl ?_
  refine f_iinc (M := mL_law) (ls' := [_, _, _, _, _, _, _, _]) 2891 dL_law_2888 ki_7 rfl rfl rfl rfl ?_
  refine f_goto (M := mL_law) 23 dL_law_2891 rfl ?_
  rw [show Int32.ofNat (7 * N) + 7 = Int32.ofNat (7 * (N + 1)) from ix_add rfl kn_7]; exact hr
theorem lk_all (hlen : 7 * N + 7 ≤ Lw) (hLw : Lw ≤ 3584) (T : y_T N I L R) (hN : N < 512) (hc : c ≤ 233 + 4 * N) (hk : k ≤ 14655 + 24 * N) : y_Nx Lw xs N I L R c k w5 w6 w7 := by
  obtain ⟨i, hi, hx⟩ := m63 (x := xs (7 * N))
  match i, hi, hx with
  | 0, _, hx => exact lk_0 hlen hLw T hN hc hk hx
  | 1, _, hx => exact lk_1 hlen hLw T hN hc hk hx
  | 2, _, hx => exact lk_2 hlen hLw T hN hc hk hx
  | 3, _, hx => exact lk_3 hlen hLw T hN hc hk hx
  | 4, _, hx => exact lk_4 hlen hLw T hN hc hk hx
  | 5, _, hx => exact lk_5 hlen hLw T hN hc hk hx
  | 6, _, hx => exact lk_6 hlen hLw T hN hc hk hx
  | 7, _, hx => exact lk_7 hlen hLw T hN hc hk hx
  | 8, _, hx => exact lk_8 hlen hLw T hN hc hk hx
  | 9, _, hx => exact lk_9 hlen hLw T hN hc hk hx
  | 10, _, hx => exact lk_10 hlen hLw T hN hc hk hx
  | 11, _, hx => exact lk_11 hlen hLw T hN hc hk hx
  | 12, _, hx => exact lk_12 hlen hLw T hN hc hk hx
  | 13, _, hx => exact lk_13 hlen hLw T hN hc hk hx
  | 14, _, hx => exact lk_14 hlen hLw T hN hc hk hx
  | 15, _, hx => exact lk_15 hlen hLw T hN hc hk hx
  | 16, _, hx => exact lk_16 hlen hLw T hN hc hk hx
  | 17, _, hx => exact lk_17 hlen hLw T hN hc hk hx
  | 18, _, hx => exact lk_18 hlen hLw T hN hc hk hx
  | 19, _, hx => exact lk_19 hlen hLw T hN hc hk hx
  | 20, _, hx => exact lk_20 hlen hLw T hN hc hk hx
  | 21, _, hx => exact lk_21 hlen hLw T hN hc hk hx
  | 22, _, hx => exact lk_22 hlen hLw T hN hc hk hx
  | 23, _, hx => exact lk_23 hlen hLw T hN hc hk hx
  | 24, _, hx => exact lk_24 hlen hLw T hN hc hk hx
  | 25, _, hx => exact lk_25 hlen hLw T hN hc hk hx
  | 26, _, hx => exact lk_26 hlen hLw T hN hc hk hx
  | 27, _, hx => exact lk_27 hlen hLw T hN hc hk hx
  | 28, _, hx => exact lk_28 hlen hLw T hN hc hk hx
  | 29, _, hx => exact lk_29 hlen hLw T hN hc hk hx
  | 30, _, hx => exact lk_30 hlen hLw T hN hc hk hx
  | 31, _, hx => exact lk_31 hlen hLw T hN hc hk hx
  | 32, _, hx => exact lk_32 hlen hLw T hN hc hk hx
  | 33, _, hx => exact lk_33 hlen hLw T hN hc hk hx
  | 34, _, hx => exact lk_34 hlen hLw T hN hc hk hx
  | 35, _, hx => exact lk_35 hlen hLw T hN hc hk hx
  | 36, _, hx => exact lk_36 hlen hLw T hN hc hk hx
  | 37, _, hx => exact lk_37 hlen hLw T hN hc hk hx
  | 38, _, hx => exact lk_38 hlen hLw T hN hc hk hx
  | 39, _, hx => exact lk_39 hlen hLw T hN hc hk hx
  | 40, _, hx => exact lk_40 hlen hLw T hN hc hk hx
  | 41, _, hx => exact lk_41 hlen hLw T hN hc hk hx
  | 42, _, hx => exact lk_42 hlen hLw T hN hc hk hx
  | 43, _, hx => exact lk_43 hlen hLw T hN hc hk hx
  | 44, _, hx => exact lk_44 hlen hLw T hN hc hk hx
  | 45, _, hx => exact lk_45 hlen hLw T hN hc hk hx
  | 46, _, hx => exact lk_46 hlen hLw T hN hc hk hx
  | 47, _, hx => exact lk_47 hlen hLw T hN hc hk hx
  | i + 48, hi, hx => exact lk_d (i := i + 48) (by omega) hi hlen hLw T hN hc hk hx
theorem lt7 {p : Nat} (h : Lw ≤ 3584) (hp : p ≤ 4000) : (Int32.ofNat Lw - 7 < Int32.ofNat p) ↔ Lw < p + 7 := by
  have e7 : (7 : Int32).toInt = 7 := by decide
  have eL : (Int32.ofNat Lw).toInt = (Lw : Int) := Int32.toInt_ofNat_of_lt (by omega)
  have ep : (Int32.ofNat p).toInt = (p : Int) := Int32.toInt_ofNat_of_lt (by omega)
  have es : (Int32.ofNat Lw - 7).toInt = (Lw : Int) - 7 := by rw [t_sub (by rw [eL, e7]; omega) (by rw [eL, e7]; omega), eL, e7]
  rw [Int32.lt_iff_toInt_lt, es, ep]
  omega
theorem law_x (h : Lw < 7 * N + 7) (hLw : Lw ≤ 3584) (hN : N ≤ 512) (hc : c ≤ 233 + 4 * N) (hk : k ≤ 14655 + 24 * N) : x_Ev (Lw, xs) mL_law 23 [some (.ref 1000), some (.ref 0), some (.ref 225), some (.ref 232), some (.int (Int32.ofNat (7 * N))), w5, w6, w7] [] ((I, L, R), 233, c, k) (.inl (some (.int 1)), (I, L, R), 233) := by
  refine f_iload (M := mL_law) 25 dL_law_23 rfl rfl ?_
  refine f_aload_n (M := mL_law) 26 dL_law_25 rfl rfl ?_
  refine e_lef (M := mL_law) (w := Lw) (f := xs) dL_law_26 (by omega) rfl ?_
  refine f_bipush (M := mL_law) 29 dL_law_27 kb_7 rfl ?_
  refine f_isub (M := mL_law) 30 dL_law_29 rfl ?_
  refine e_icmp_gtT (M := mL_law) 2894 dL_law_30 rfl ((lt7 hLw (by omega)).mpr h) ?_
  refine f_iconst (M := mL_law) 2895 dL_law_2894 ki_1 rfl ?_
  refine e_rb (M := mL_law) dL_law_2895 rfl (show c ≤ 601024 by omega) (show k ≤ 7293034 by omega) (by decide) ?_
  rfl
theorem law_s {r : x_O × x_Mem × Nat} (h : 7 * N + 7 ≤ Lw) (hLw : Lw ≤ 3584) (hN : N < 512) (kk : x_Ev (Lw, xs) mL_law 40 [some (.ref 1000), some (.ref 0), some (.ref 225), some (.ref 232), some (.int (Int32.ofNat (7 * N))), w5, w6, w7] [.int (xs (7 * N) &&& 63)] ((I, L, R), 233, c, k) r) : x_Ev (Lw, xs) mL_law 23 [some (.ref 1000), some (.ref 0), some (.ref 225), some (.ref 232), some (.int (Int32.ofNat (7 * N))), w5, w6, w7] [] ((I, L, R), 233, c, k) r := by
  refine f_iload (M := mL_law) 25 dL_law_23 rfl rfl ?_
  refine f_aload_n (M := mL_law) 26 dL_law_25 rfl rfl ?_
  refine e_lef (M := mL_law) (w := Lw) (f := xs) dL_law_26 (by omega) rfl ?_
  refine f_bipush (M := mL_law) 29 dL_law_27 kb_7 rfl ?_
  refine f_isub (M := mL_law) 30 dL_law_29 rfl ?_
  refine e_icmp_gtF (M := mL_law) 2894 dL_law_30 rfl (fun z => absurd ((lt7 hLw (by omega)).mp z) (by omega)) ?_
  refine f_aload_n (M := mL_law) 34 dL_law_33 rfl rfl ?_
  refine f_iload (M := mL_law) 36 dL_law_34 rfl rfl ?_
  refine e_iaf (M := mL_law) (w := Lw) (f := xs) (j := 7 * N) dL_law_36 (x_kk rfl) rfl rfl (by omega) (by omega) ?_
  refine f_bipush (M := mL_law) 39 dL_law_37 kb_63 rfl ?_
  refine f_iand (M := mL_law) 40 dL_law_39 rfl ?_
  exact kk
theorem law_l (hLw : Lw ≤ 3584) : ∀ d N I L R c k w5 w6 w7, N + d = 512 → y_T N I L R → c ≤ 233 + 4 * N → k ≤ 14655 + 24 * N → ∃ μ n, x_Ev (Lw, xs) mL_law 23 [some (.ref 1000), some (.ref 0), some (.ref 225), some (.ref 232), some (.int (Int32.ofNat (7 * N))), w5, w6, w7] [] ((I, L, R), 233, c, k) (.inl (some (.int 1)), μ, n) := by
  intro d
  induction d with
  | zero =>
    intro N I L R c k w5 w6 w7 hd T hc hk
    exact ⟨_, _, law_x (by omega) hLw (by omega) hc hk⟩
  | succ d ih =>
    intro N I L R c k w5 w6 w7 hd T hc hk
    by_cases h : 7 * N + 7 ≤ Lw
    · obtain ⟨I2, L2, R2, v5, v6, v7, c2, k2, T2, hc2, hk2, F⟩ := lk_all (w5 := w5) (w6 := w6) (w7 := w7) (xs := xs) h hLw T (by omega) hc hk
      obtain ⟨μ, n, E⟩ := ih (N + 1) I2 L2 R2 c2 k2 v5 v6 v7 (by omega) T2 (by omega) (by omega)
      exact ⟨μ, n, law_s h hLw (by omega) (F _ E)⟩
    · exact ⟨_, _, law_x (by omega) hLw (by omega) hc hk⟩
theorem x_goal : x_Goal := by
  intro Lw xs hLw
  obtain ⟨I, L, R, T, F⟩ := law_0 (X := (Lw, xs))
  obtain ⟨μ, n, E⟩ := law_l (xs := xs) hLw 512 0 I L R 233 14655 none none none rfl T (by omega) (by omega)
  rw [show Int32.ofNat (7 * 0) = 0 from by decide] at E
  obtain ⟨f, hf⟩ := F _ E
  exact ⟨f, μ, n, hf⟩
end

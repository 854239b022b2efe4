/-! ===== the common divisor's steps; bounds of the cruise's numbers ===== -/
section
theorem rem_i {v w : Int64} (hv : -9223372036854775807 ≤ v.toInt) (hw : ¬ w = 0) : (v - v / w * w).toInt = v.toInt.tmod w.toInt := by
  have h1 := Int64.toInt_lt v
  have e := Int.mul_tdiv_add_tmod v.toInt w.toInt
  have ed : (v / w).toInt = v.toInt.tdiv w.toInt := by
    refine Int64.toInt_div_of_ne_left _ _ (fun z => ?_)
    rw [z, show Int64.minValue.toInt = -9223372036854775808 from by decide] at hv
    omega
  rw [Int.mul_comm] at e
  by_cases h0 : 0 ≤ v.toInt
  · have t := Int.tmod_nonneg w.toInt h0
    have t2 : 0 ≤ v.toInt.tdiv w.toInt * w.toInt := by
      by_cases hw0 : 0 ≤ w.toInt
      · exact Int.mul_nonneg (Int.tdiv_nonneg h0 hw0) hw0
      · have := Int.tdiv_nonneg h0 (show 0 ≤ -w.toInt by omega)
        rw [Int.tdiv_neg] at this
        exact Int.mul_nonneg_of_nonpos_of_nonpos (by omega) (by omega)
    have em : (v / w * w).toInt = v.toInt.tdiv w.toInt * w.toInt := by rw [T_mul (by rw [ed]; omega) (by rw [ed]; omega), ed]
    rw [T_sub (by rw [em]; omega) (by rw [em]; omega), em]
    omega
  · have t := Int.tmod_nonneg w.toInt (show 0 ≤ -v.toInt by omega)
    rw [Int.neg_tmod] at t
    have t2 : v.toInt.tdiv w.toInt * w.toInt ≤ 0 := by
      by_cases hw0 : 0 ≤ w.toInt
      · have := Int.tdiv_nonneg (show 0 ≤ -v.toInt by omega) hw0
        rw [Int.neg_tdiv] at this
        exact Int.mul_nonpos_of_nonpos_of_nonneg (by omega) hw0
      · have := Int.tdiv_nonneg (show 0 ≤ -v.toInt by omega) (show 0 ≤ -w.toInt by omega)
        rw [Int.neg_tdiv, Int.tdiv_neg] at this
        exact Int.mul_nonpos_of_nonneg_of_nonpos (by omega) (by omega)
    have em : (v / w * w).toInt = v.toInt.tdiv w.toInt * w.toInt := by rw [T_mul (by rw [ed]; omega) (by rw [ed]; omega), ed]
    rw [T_sub (by rw [em]; omega) (by rw [em]; omega), em]
    omega
theorem mod_half {x y : Nat} (hy : 0 < y) (h : y ≤ x) : 2 * (x % y) < x := by
  have h1 := Nat.mod_lt x hy
  have h2 := Nat.div_add_mod x y
  have h3 : 1 ≤ x / y := (Nat.one_le_div_iff hy).mpr h
  have h4 : y * 1 ≤ y * (x / y) := Nat.mul_le_mul_left y h3
  omega
theorem w0_i {w : Int64} : w = 0 ↔ w.toInt = 0 := by rw [T_eq, show (0 : Int64).toInt = 0 from by decide]
theorem gst_h : ∀ (m : Nat) (v w : Int64), -9223372036854775807 ≤ v.toInt → w.toInt.natAbs < 2 ^ m → m ≤ 60 → x_gst (2 * m) v w
  | 0, v, w, _, h, _ => by
    show w = 0
    rw [w0_i]
    simp at h
    omega
  | m + 1, v, w, hv, h, hm => by
    have hp : 2 ^ (m + 1) ≤ 2 ^ 60 := Nat.pow_le_pow_right (by decide) hm
    show w = 0 ∨ x_gst (2 * m + 1) w (v - v / w * w)
    by_cases hw : w = 0
    · exact Or.inl hw
    · refine Or.inr ?_
      have r1 := rem_i hv hw
      have n1 : (v - v / w * w).toInt.natAbs = v.toInt.natAbs % w.toInt.natAbs := by rw [r1, Int.natAbs_tmod]
      have hwa : 0 < w.toInt.natAbs := by rw [w0_i] at hw; omega
      have l1 := Nat.mod_lt v.toInt.natAbs hwa
      generalize v - v / w * w = r at *
      show r = 0 ∨ x_gst (2 * m) r (w - w / r * r)
      by_cases hr : r = 0
      · exact Or.inl hr
      · refine Or.inr (gst_h m _ _ (by omega) ?_ (by omega))
        have r2 := rem_i (v := w) (by omega) hr
        have hra : 0 < r.toInt.natAbs := by rw [w0_i] at hr; omega
        rw [r2, Int.natAbs_tmod]
        have := mod_half hra (show r.toInt.natAbs ≤ w.toInt.natAbs by omega)
        rw [Nat.pow_succ] at h
        omega
theorem gcd_n : ∀ (n : Nat) (v w : Int64), x_gst n v w → (¬ v = 0 ∨ ¬ w = 0) → ¬ x_gcd n v w = 0
  | 0, v, w, h, g => g.elim id (fun z => absurd h z)
  | n + 1, v, w, h, g => by
    rw [x_gcd]
    by_cases hw : w = 0
    · rw [if_pos hw]; exact g.elim id (fun z => absurd hw z)
    · rw [if_neg hw]; exact gcd_n n _ _ (h.elim (fun z => absurd z hw) id) (Or.inl hw)
theorem gcd_ok {v w : Int64} (hv : -9223372036854775807 ≤ v.toInt) (h0 : 0 < w.toInt) (h1 : w.toInt ≤ 1000000000) : x_gst 100 v w ∧ ¬ x_gcd 100 v w = 0 := by
  have g := gst_h 50 v w hv (by have : (1000000001 : Nat) < 2 ^ 50 := by decide
                                omega) (by decide)
  exact ⟨g, gcd_n 100 v w g (Or.inr (fun z => by rw [w0_i] at z; omega))⟩
/-- products within bounds of both signs -/
theorem m_ab {x y A B : Int} (hx : -A ≤ x) (hxA : x ≤ A) (hy : -B ≤ y) (hyB : y ≤ B) : -(A * B) ≤ x * y ∧ x * y ≤ A * B := by
  have hA : 0 ≤ A := by omega
  have hB : 0 ≤ B := by omega
  have h1 : x.natAbs ≤ A.toNat := by omega
  have h2 : y.natAbs ≤ B.toNat := by omega
  have h3 : (x * y).natAbs ≤ A.toNat * B.toNat := by rw [Int.natAbs_mul]; exact Nat.mul_le_mul h1 h2
  have h4 : ((A.toNat * B.toNat : Nat) : Int) = A * B := by rw [Int.natCast_mul, Int.toNat_of_nonneg hA, Int.toNat_of_nonneg hB]
  omega
theorem T_ab {x y : Int64} {A B : Int} (hx : -A ≤ x.toInt ∧ x.toInt ≤ A) (hy : -B ≤ y.toInt ∧ y.toInt ≤ B) (h : A * B ≤ 9223372036854775807) : (x * y).toInt = x.toInt * y.toInt ∧ -(A * B) ≤ (x * y).toInt ∧ (x * y).toInt ≤ A * B := by
  have m := m_ab hx.1 hx.2 hy.1 hy.2
  have e : (x * y).toInt = x.toInt * y.toInt := T_mul (by omega) (by omega)
  rw [e]
  exact ⟨rfl, m⟩
variable {a : Nat → Int32}
theorem bd_spread (hI : y_IC a) {σ : Int32} (hσ : x_spec σ) {n : Nat} (hn : n ≤ 30) (h9 : a 9 = Int32.ofNat n) : -8100000000 ≤ (sp_spread a σ n).toInt ∧ (sp_spread a σ n).toInt ≤ 8100000000 := by
  have b1 := bd_sum hI hσ hn
  have b2 := bd_sq hI hσ hn
  have e9 : (a 9).toInt64.toInt = (n : Int) := by rw [T_w, h9, t_n (by omega)]
  have m1 := m_bd (show (0 : Int) ≤ (n : Int) by omega) (show (n : Int) ≤ 30 by omega) b2.1 b2.2
  have m2 := m_bd b1.1 b1.2 b1.1 b1.2
  have f1 : ((a 9).toInt64 * sp_sq a σ n).toInt = (n : Int) * (sp_sq a σ n).toInt := by rw [T_mul (by rw [e9]; omega) (by rw [e9]; omega), e9]
  have f2 : (sp_sum a σ n * sp_sum a σ n).toInt = (sp_sum a σ n).toInt * (sp_sum a σ n).toInt := T_mul (by omega) (by omega)
  unfold sp_spread
  rw [T_sub (by rw [f1, f2]; omega) (by rw [f1, f2]; omega), f1, f2]
  omega
theorem sp_of {σ : Int32} {n : Nat} (hn : n ≤ 6) (h8 : a 8 = Int32.ofNat n) (h : σ = -1 ∨ (0 ≤ σ ∧ σ ≤ a 8 - 1)) : x_spec σ := by
  rcases h with h | h
  · exact Or.inl h
  · obtain ⟨s, hs, e⟩ := in_of h8 (by omega) h
    exact Or.inr ⟨s, by omega, e⟩
theorem sz_i (hT : y_IT a) : 2 ≤ (a 1).toInt64.toInt ∧ (a 1).toInt64.toInt ≤ 200 := by rw [T_w]; exact hT.2.1
theorem est_g (hT : y_IT a) (hI : y_IC a) {σ : Int32} (hσ : x_spec σ) {n : Nat} (hn : n ≤ 30) (h9 : a 9 = Int32.ofNat n) (h0 : ¬ a 9 = 0) : x_gst 100 ((a 1).toInt64 * sp_sum a σ n) (a 9).toInt64 ∧ ¬ x_gcd 100 ((a 1).toInt64 * sp_sum a σ n) (a 9).toInt64 = 0 := by
  have b1 := bd_sum hI hσ hn
  have bs := sz_i hT
  have e9 : (a 9).toInt64.toInt = (n : Int) := by rw [T_w, h9, t_n (by omega)]
  have n0 : 0 < n := by
    rw [h9, kn_0, n_eq (by omega) (by omega)] at h0
    omega
  have m := T_ab (A := 200) (B := 90000) ⟨by omega, bs.2⟩ (show -90000 ≤ (sp_sum a σ n).toInt ∧ _ from ⟨by omega, b1.2⟩) (by decide)
  exact gcd_ok (by omega) (by omega) (by omega)
theorem se_g (hT : y_IT a) (hI : y_IC a) {σ : Int32} (hσ : x_spec σ) {n : Nat} (hn : n ≤ 30) (h9 : a 9 = Int32.ofNat n) (h2 : 2 ≤ a 9) : x_gst 100 ((a 1).toInt64 * ((a 1).toInt64 - (a 9).toInt64) * sp_spread a σ n) ((a 9).toInt64 * (a 9).toInt64 * ((a 9).toInt64 - 1)) ∧ ¬ x_gcd 100 ((a 1).toInt64 * ((a 1).toInt64 - (a 9).toInt64) * sp_spread a σ n) ((a 9).toInt64 * (a 9).toInt64 * ((a 9).toInt64 - 1)) = 0 := by
  have b1 := bd_spread hI hσ hn h9
  have bs := sz_i hT
  have e9 : (a 9).toInt64.toInt = (n : Int) := by rw [T_w, h9, t_n (by omega)]
  have n2 : 2 ≤ n := by
    rw [h9, kn_2, n_le (by omega) (by omega)] at h2
    exact h2
  have o1 : (1 : Int64).toInt = 1 := by decide
  have d1 : ((a 1).toInt64 - (a 9).toInt64).toInt = (a 1).toInt64.toInt - (n : Int) := by rw [T_sub (by rw [e9]; omega) (by rw [e9]; omega), e9]
  have d2 : ((a 9).toInt64 - 1).toInt = (n : Int) - 1 := by rw [T_sub (by rw [e9, o1]; omega) (by rw [e9, o1]; omega), e9, o1]
  have m1 := T_ab (x := (a 1).toInt64) (y := (a 1).toInt64 - (a 9).toInt64) (A := 200) (B := 200) ⟨by omega, bs.2⟩ ⟨by omega, by omega⟩ (by decide)
  have m2 := T_ab (x := (a 1).toInt64 * ((a 1).toInt64 - (a 9).toInt64)) (y := sp_spread a σ n) (A := 40000) (B := 8100000000) ⟨by omega, by omega⟩ b1 (by decide)
  have m3 := T_ab (x := (a 9).toInt64) (y := (a 9).toInt64) (A := 30) (B := 30) ⟨by omega, by omega⟩ ⟨by omega, by omega⟩ (by decide)
  have m4 := T_ab (x := (a 9).toInt64 * (a 9).toInt64) (y := (a 9).toInt64 - 1) (A := 900) (B := 30) ⟨by omega, by omega⟩ ⟨by omega, by omega⟩ (by decide)
  have p1 : 0 < (a 9).toInt64.toInt * (a 9).toInt64.toInt := Int.mul_pos (by omega) (by omega)
  have p2 : 0 < ((a 9).toInt64 * (a 9).toInt64).toInt * ((a 9).toInt64 - 1).toInt := Int.mul_pos (by rw [m3.1]; exact p1) (by omega)
  exact gcd_ok (by omega) (by rw [m4.1]; exact p2) (by omega)
end

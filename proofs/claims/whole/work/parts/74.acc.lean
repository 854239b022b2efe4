/-! ===== accuracy ===== -/
section
variable {a : Nat → Int32}
def sp_wide (a : Nat → Int32) (σ : Int32) (n : Nat) : Int64 := 40000 * sp_spread a σ n * (a 9).toInt64
def sp_narr (a : Nat → Int32) (σ p : Int32) (n : Nat) : Int64 := p.toInt64 * p.toInt64 * (a 1).toInt64 * sp_sum a σ n * sp_sum a σ n * ((a 9).toInt64 - 1)
abbrev sp_okm (a : Nat → Int32) (σ p : Int32) (n k : Nat) : Prop := sp_wide a σ n * (a 1 - Int32.ofNat k).toInt64 ≤ sp_narr a σ p n * (Int32.ofNat k).toInt64
abbrev sp_acc (a : Nat → Int32) (σ p : Int32) (n : Nat) : Prop := 40000 * ((a 1).toInt64 - (a 9).toInt64) * sp_spread a σ n ≤ p.toInt64 * p.toInt64 * (a 1).toInt64 * sp_sum a σ n * sp_sum a σ n * ((a 9).toInt64 - 1)
theorem n91 {n : Nat} (hn : n ≤ 30) (h9 : a 9 = Int32.ofNat n) : (a 9 - 1).toInt64 = (a 9).toInt64 - 1 := by
  have e9 : (a 9).toInt = (n : Int) := by rw [h9, t_n (by omega)]
  have o1 : (1 : Int64).toInt = 1 := by decide
  have o2 : (1 : Int32).toInt = 1 := by decide
  rw [T_eq, T_w, t_sub (by rw [e9, o2]; omega) (by rw [e9, o2]; omega), T_sub (by rw [T_w, e9, o1]; omega) (by rw [T_w, e9, o1]; omega), T_w, o1, o2]
/-- the numbers behind them -/
theorem acc_n (hT : y_IT a) (hI : y_IC a) {σ p : Int32} (hσ : x_spec σ) {n : Nat} (hn : n ≤ 30) (h9 : a 9 = Int32.ofNat n) (h2 : 2 ≤ n) (hp : 1 ≤ p ∧ p ≤ 20) :
    ∃ s t : Int, (-8100000000 ≤ s ∧ s ≤ 8100000000) ∧ (0 ≤ t ∧ t ≤ 648000000000000) ∧ (sp_spread a σ n).toInt = s ∧ (p.toInt64 * p.toInt64 * (a 1).toInt64 * sp_sum a σ n * sp_sum a σ n).toInt = t ∧ (sp_wide a σ n).toInt = 40000 * s * (n : Int) ∧ (sp_narr a σ p n).toInt = t * ((n : Int) - 1) := by
  have b1 := bd_spread hI hσ hn h9
  have b2 := bd_sum hI hσ hn
  have bs := sz_i hT
  have e9 : (a 9).toInt64.toInt = (n : Int) := by rw [T_w, h9, t_n (by omega)]
  have p1 := t_le.mp hp.1
  have p2 := t_le.mp hp.2
  rw [show (1 : Int32).toInt = 1 from by decide] at p1
  rw [show (20 : Int32).toInt = 20 from by decide] at p2
  have o1 : (1 : Int64).toInt = 1 := by decide
  have o4 : (40000 : Int64).toInt = 40000 := by decide
  have d2 : ((a 9).toInt64 - 1).toInt = (n : Int) - 1 := by rw [T_sub (by rw [e9, o1]; omega) (by rw [e9, o1]; omega), e9, o1]
  have m1 := T_ab (x := p.toInt64) (y := p.toInt64) (A := 20) (B := 20) (by rw [T_w]; omega) (by rw [T_w]; omega) (by decide)
  have q1 : 0 ≤ (p.toInt64 * p.toInt64).toInt := by rw [m1.1, T_w]; exact Int.mul_nonneg (by omega) (by omega)
  have m2 := T_ab (x := p.toInt64 * p.toInt64) (y := (a 1).toInt64) (A := 400) (B := 200) ⟨by omega, by omega⟩ ⟨by omega, by omega⟩ (by decide)
  have q2 : 0 ≤ (p.toInt64 * p.toInt64 * (a 1).toInt64).toInt := by rw [m2.1]; exact Int.mul_nonneg q1 (by omega)
  have m3 := T_ab (x := p.toInt64 * p.toInt64 * (a 1).toInt64) (y := sp_sum a σ n) (A := 80000) (B := 90000) ⟨by omega, by omega⟩ ⟨by omega, by omega⟩ (by decide)
  have q3 : 0 ≤ (p.toInt64 * p.toInt64 * (a 1).toInt64 * sp_sum a σ n).toInt := by rw [m3.1]; exact Int.mul_nonneg q2 (by omega)
  have m4 := T_ab (x := p.toInt64 * p.toInt64 * (a 1).toInt64 * sp_sum a σ n) (y := sp_sum a σ n) (A := 7200000000) (B := 90000) ⟨by omega, by omega⟩ ⟨by omega, by omega⟩ (by decide)
  have q4 : 0 ≤ (p.toInt64 * p.toInt64 * (a 1).toInt64 * sp_sum a σ n * sp_sum a σ n).toInt := by rw [m4.1]; exact Int.mul_nonneg q3 (by omega)
  have m5 := T_ab (x := p.toInt64 * p.toInt64 * (a 1).toInt64 * sp_sum a σ n * sp_sum a σ n) (y := (a 9).toInt64 - 1) (A := 648000000000000) (B := 29) ⟨by omega, by omega⟩ ⟨by omega, by omega⟩ (by decide)
  have w1 := T_ab (x := 40000) (y := sp_spread a σ n) (A := 40000) (B := 8100000000) (by rw [o4]; omega) b1 (by decide)
  have w2 := T_ab (x := 40000 * sp_spread a σ n) (y := (a 9).toInt64) (A := 324000000000000) (B := 30) ⟨by omega, by omega⟩ ⟨by omega, by omega⟩ (by decide)
  refine ⟨_, _, b1, ⟨q4, by omega⟩, rfl, rfl, ?_, ?_⟩
  · unfold sp_wide; rw [w2.1, w1.1, o4, e9]
  · unfold sp_narr; rw [m5.1, d2]
theorem okm_i (hT : y_IT a) (hI : y_IC a) {σ p : Int32} (hσ : x_spec σ) {n : Nat} (hn : n ≤ 30) (h9 : a 9 = Int32.ofNat n) (h2 : 2 ≤ n) (hp : 1 ≤ p ∧ p ≤ 20) {s t : Int} (hs : -8100000000 ≤ s ∧ s ≤ 8100000000) (ht : 0 ≤ t ∧ t ≤ 648000000000000) (hw : (sp_wide a σ n).toInt = 40000 * s * (n : Int)) (hr : (sp_narr a σ p n).toInt = t * ((n : Int) - 1)) {k : Nat} (hk : (k : Int) ≤ (a 1).toInt) : sp_okm a σ p n k ↔ 40000 * s * (n : Int) * ((a 1).toInt - (k : Int)) ≤ t * ((n : Int) - 1) * (k : Int) := by
  have bs := hT.2.1
  have b1 := bs.1
  have b2 := bs.2
  have ek : (Int32.ofNat k).toInt = (k : Int) := t_n (by omega)
  have ez : (a 1 - Int32.ofNat k).toInt = (a 1).toInt - (k : Int) := by rw [t_sub (by rw [ek]; omega) (by rw [ek]; omega), ek]
  have c1 := m_ab (x := 40000 * s) (y := (n : Int)) (A := 324000000000000) (B := 30) (by omega) (by omega) (by omega) (by omega)
  have c2 := m_ab (x := t) (y := (n : Int) - 1) (A := 648000000000000) (B := 29) (by omega) (by omega) (by omega) (by omega)
  have w := T_ab (x := sp_wide a σ n) (y := (a 1 - Int32.ofNat k).toInt64) (A := 9720000000000000) (B := 200) (by rw [hw]; omega) (by rw [T_w, ez]; omega) (by decide)
  have r := T_ab (x := sp_narr a σ p n) (y := (Int32.ofNat k).toInt64) (A := 18792000000000000) (B := 200) (by rw [hr]; omega) (by rw [T_w, ek]; omega) (by decide)
  show sp_wide a σ n * (a 1 - Int32.ofNat k).toInt64 ≤ sp_narr a σ p n * (Int32.ofNat k).toInt64 ↔ _
  rw [T_le, w.1, r.1, T_w, T_w, ez, ek, hw, hr]
theorem okm_z (hT : y_IT a) (hI : y_IC a) {σ p : Int32} (hσ : x_spec σ) {n : Nat} (hn : n ≤ 30) (h9 : a 9 = Int32.ofNat n) (h2 : 2 ≤ n) (hp : 1 ≤ p ∧ p ≤ 20) {z : Nat} (hz : z < 1000) (h1 : a 1 = Int32.ofNat z) : sp_okm a σ p n z := by
  obtain ⟨s, t, hs, ht, _, _, hw, hr⟩ := acc_n hT hI hσ hn h9 h2 hp
  have ez : (a 1).toInt = (z : Int) := by rw [h1, t_n (by omega)]
  rw [okm_i hT hI hσ hn h9 h2 hp hs ht hw hr (by omega), ez, Int.sub_self, Int.mul_zero]
  exact Int.mul_nonneg (Int.mul_nonneg ht.1 (by omega)) (by omega)
theorem acc_iff (hT : y_IT a) (hI : y_IC a) {σ p : Int32} (hσ : x_spec σ) {n : Nat} (hn : n ≤ 30) (h9 : a 9 = Int32.ofNat n) (h2 : 2 ≤ n) (hp : 1 ≤ p ∧ p ≤ 20) : sp_okm a σ p n n ↔ sp_acc a σ p n := by
  obtain ⟨s, t, hs, ht, es, et, hw, hr⟩ := acc_n hT hI hσ hn h9 h2 hp
  obtain ⟨n', hn', h9', hle⟩ := hI.1
  have hnn : n = n' := by
    rw [h9, n_eq (by omega) (by omega)] at h9'
    exact h9'
  subst hnn
  rw [okm_i hT hI hσ hn h9 h2 hp hs ht hw hr hle]
  have bs := sz_i hT
  have e9 : (a 9).toInt64.toInt = (n : Int) := by rw [T_w, h9, t_n (by omega)]
  have o1 : (1 : Int64).toInt = 1 := by decide
  have o4 : (40000 : Int64).toInt = 40000 := by decide
  have d1 : ((a 1).toInt64 - (a 9).toInt64).toInt = (a 1).toInt64.toInt - (n : Int) := by rw [T_sub (by rw [e9]; omega) (by rw [e9]; omega), e9]
  have m1 := T_ab (x := 40000) (y := (a 1).toInt64 - (a 9).toInt64) (A := 40000) (B := 200) (by rw [o4]; omega) ⟨by omega, by omega⟩ (by decide)
  have m2 := T_ab (x := 40000 * ((a 1).toInt64 - (a 9).toInt64)) (y := sp_spread a σ n) (A := 8000000) (B := 8100000000) ⟨by omega, by omega⟩ (by rw [es]; exact hs) (by decide)
  show _ ↔ 40000 * ((a 1).toInt64 - (a 9).toInt64) * sp_spread a σ n ≤ sp_narr a σ p n
  rw [T_le, m2.1, m1.1, d1, o4, es, hr, T_w]
  have hpos : (0 : Int) < (n : Int) := by omega
  rw [show 40000 * s * (n : Int) * ((a 1).toInt - (n : Int)) = (n : Int) * (40000 * ((a 1).toInt - (n : Int)) * s) from by ac_rfl, show t * ((n : Int) - 1) * (n : Int) = (n : Int) * (t * ((n : Int) - 1)) from by ac_rfl]
  exact ⟨fun h => Int.le_of_mul_le_mul_left h hpos, fun h => Int.mul_le_mul_of_nonneg_left h (Int.le_of_lt hpos)⟩
/-- the first m that is enough -/
def y_sch (C : Nat → Prop) [DecidablePred C] : Nat → Nat → Nat
  | 0, m => m
  | d + 1, m => if C m then m else y_sch C d (m + 1)
end

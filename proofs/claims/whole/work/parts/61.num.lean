/-! ===== numbers: no wrap-around, sums ===== -/
section
theorem t_add {x y : Int32} (h : -2147483648 ≤ x.toInt + y.toInt) (h2 : x.toInt + y.toInt ≤ 2147483647) : (x + y).toInt = x.toInt + y.toInt := by
  rw [Int32.toInt_add]; exact Int.bmod_eq_of_le (by omega) (by omega)
theorem t_sub {x y : Int32} (h : -2147483648 ≤ x.toInt - y.toInt) (h2 : x.toInt - y.toInt ≤ 2147483647) : (x - y).toInt = x.toInt - y.toInt := by
  rw [Int32.toInt_sub]; exact Int.bmod_eq_of_le (by omega) (by omega)
theorem t_mul {x y : Int32} (h : -2147483648 ≤ x.toInt * y.toInt) (h2 : x.toInt * y.toInt ≤ 2147483647) : (x * y).toInt = x.toInt * y.toInt := by
  rw [Int32.toInt_mul]; exact Int.bmod_eq_of_le (by omega) (by omega)
theorem t_neg {x : Int32} (h : -2147483647 ≤ x.toInt) : (-x).toInt = -x.toInt := by
  have h2 := Int32.toInt_lt x
  rw [Int32.toInt_neg]; exact Int.bmod_eq_of_le (by omega) (by omega)
theorem t_le {x y : Int32} : (x ≤ y) ↔ x.toInt ≤ y.toInt := Int32.le_iff_toInt_le
theorem t_lt {x y : Int32} : (x < y) ↔ x.toInt < y.toInt := Int32.lt_iff_toInt_lt
theorem t_eq {x y : Int32} : (x = y) ↔ x.toInt = y.toInt := Int32.toInt_inj.symm
theorem t_n {s : Nat} (h : s < 1000000000) : (Int32.ofNat s).toInt = (s : Int) := Int32.toInt_ofNat_of_lt (by omega)
theorem t_nat {x : Int32} (h : 0 ≤ x.toInt) : x = Int32.ofNat x.toInt.toNat := by
  have h2 := Int32.toInt_lt x
  rw [t_eq, Int32.toInt_ofNat_of_lt (by omega)]
  omega
theorem T_add {x y : Int64} (h : -9223372036854775808 ≤ x.toInt + y.toInt) (h2 : x.toInt + y.toInt ≤ 9223372036854775807) : (x + y).toInt = x.toInt + y.toInt := by
  rw [Int64.toInt_add]; exact Int.bmod_eq_of_le (by omega) (by omega)
theorem T_sub {x y : Int64} (h : -9223372036854775808 ≤ x.toInt - y.toInt) (h2 : x.toInt - y.toInt ≤ 9223372036854775807) : (x - y).toInt = x.toInt - y.toInt := by
  rw [Int64.toInt_sub]; exact Int.bmod_eq_of_le (by omega) (by omega)
theorem T_mul {x y : Int64} (h : -9223372036854775808 ≤ x.toInt * y.toInt) (h2 : x.toInt * y.toInt ≤ 9223372036854775807) : (x * y).toInt = x.toInt * y.toInt := by
  rw [Int64.toInt_mul]; exact Int.bmod_eq_of_le (by omega) (by omega)
theorem T_neg {x : Int64} (h : -9223372036854775807 ≤ x.toInt) : (-x).toInt = -x.toInt := by
  have h2 := Int64.toInt_lt x
  rw [Int64.toInt_neg]; exact Int.bmod_eq_of_le (by omega) (by omega)
theorem T_le {x y : Int64} : (x ≤ y) ↔ x.toInt ≤ y.toInt := Int64.le_iff_toInt_le
theorem T_lt {x y : Int64} : (x < y) ↔ x.toInt < y.toInt := Int64.lt_iff_toInt_lt
theorem T_eq {x y : Int64} : (x = y) ↔ x.toInt = y.toInt := Int64.toInt_inj.symm
theorem T_w {x : Int32} : x.toInt64.toInt = x.toInt := Int32.toInt_toInt64 x
theorem T_n {x : Int64} (h : -2147483648 ≤ x.toInt) (h2 : x.toInt ≤ 2147483647) : x.toInt32.toInt = x.toInt := by
  rw [Int64.toInt_toInt32]; exact Int.bmod_eq_of_le (by omega) (by omega)
/-- products within bounds -/
theorem m_bd {x y A B : Int} (hx : 0 ≤ x) (hxA : x ≤ A) (hy : 0 ≤ y) (hyB : y ≤ B) : 0 ≤ x * y ∧ x * y ≤ A * B :=
  ⟨Int.mul_nonneg hx hy, Int.mul_le_mul hxA hyB hy (Int.le_trans hx hxA)⟩
theorem T_mulp {x y : Int64} {A B : Int} (hx : 0 ≤ x.toInt) (hxA : x.toInt ≤ A) (hy : 0 ≤ y.toInt) (hyB : y.toInt ≤ B) (hAB : A * B ≤ 9223372036854775807) : (x * y).toInt = x.toInt * y.toInt := by
  have h := m_bd hx hxA hy hyB
  exact T_mul (by omega) (by omega)
theorem t_mulp {x y : Int32} {A B : Int} (hx : 0 ≤ x.toInt) (hxA : x.toInt ≤ A) (hy : 0 ≤ y.toInt) (hyB : y.toInt ≤ B) (hAB : A * B ≤ 2147483647) : (x * y).toInt = x.toInt * y.toInt := by
  have h := m_bd hx hxA hy hyB
  exact t_mul (by omega) (by omega)
/-! sums -/
theorem s64_c {f g : Nat → Int64} : ∀ {n : Nat}, (∀ i, i < n → f i = g i) → x_sum64 f n = x_sum64 g n
  | 0, _ => rfl
  | n + 1, h => by
    show x_sum64 f n + f n = x_sum64 g n + g n
    rw [s64_c (fun i hi => h i (by omega)), h n (by omega)]
theorem s32_c {f g : Nat → Int32} : ∀ {n : Nat}, (∀ i, i < n → f i = g i) → x_sum32 f n = x_sum32 g n
  | 0, _ => rfl
  | n + 1, h => by
    show x_sum32 f n + f n = x_sum32 g n + g n
    rw [s32_c (fun i hi => h i (by omega)), h n (by omega)]
theorem s64_t {f : Nat → Int64} {m : Nat} : ∀ {n : Nat}, m ≤ n → (∀ i, m ≤ i → i < n → f i = 0) → x_sum64 f n = x_sum64 f m
  | 0, hm, _ => by obtain rfl : m = 0 := by omega
                   rfl
  | n + 1, hm, h => by
    by_cases e : m = n + 1
    · rw [e]
    · show x_sum64 f n + f n = _
      rw [h n (by omega) (by omega), Int64.add_zero]
      exact s64_t (by omega) (fun i h1 h2 => h i h1 (by omega))
theorem s32_t {f : Nat → Int32} {m : Nat} : ∀ {n : Nat}, m ≤ n → (∀ i, m ≤ i → i < n → f i = 0) → x_sum32 f n = x_sum32 f m
  | 0, hm, _ => by obtain rfl : m = 0 := by omega
                   rfl
  | n + 1, hm, h => by
    by_cases e : m = n + 1
    · rw [e]
    · show x_sum32 f n + f n = _
      rw [h n (by omega) (by omega), Int32.add_zero]
      exact s32_t (by omega) (fun i h1 h2 => h i h1 (by omega))
theorem s32_b {f : Nat → Int32} {B : Int} (hB : 0 ≤ B) : ∀ {n : Nat}, (∀ i, i < n → 0 ≤ (f i).toInt ∧ (f i).toInt ≤ B) → (n : Int) * B ≤ 2147483647 → 0 ≤ (x_sum32 f n).toInt ∧ (x_sum32 f n).toInt ≤ (n : Int) * B
  | 0, _, _ => by
    show 0 ≤ (0 : Int32).toInt ∧ (0 : Int32).toInt ≤ _
    rw [show (0 : Int32).toInt = 0 from by decide]
    simp
  | n + 1, h, hb => by
    have e : ((n + 1 : Nat) : Int) * B = (n : Int) * B + B := by rw [Int.natCast_add, Int.add_mul]; simp
    rw [e] at hb ⊢
    have h1 := s32_b hB (n := n) (fun i hi => h i (by omega)) (by omega)
    have h2 := h n (by omega)
    show 0 ≤ (x_sum32 f n + f n).toInt ∧ (x_sum32 f n + f n).toInt ≤ _
    rw [t_add (by omega) (by omega)]
    omega
theorem s64_b {f : Nat → Int64} {B : Int} (hB : 0 ≤ B) : ∀ {n : Nat}, (∀ i, i < n → 0 ≤ (f i).toInt ∧ (f i).toInt ≤ B) → (n : Int) * B ≤ 9223372036854775807 → 0 ≤ (x_sum64 f n).toInt ∧ (x_sum64 f n).toInt ≤ (n : Int) * B
  | 0, _, _ => by
    show 0 ≤ (0 : Int64).toInt ∧ (0 : Int64).toInt ≤ _
    rw [show (0 : Int64).toInt = 0 from by decide]
    simp
  | n + 1, h, hb => by
    have e : ((n + 1 : Nat) : Int) * B = (n : Int) * B + B := by rw [Int.natCast_add, Int.add_mul]; simp
    rw [e] at hb ⊢
    have h1 := s64_b hB (n := n) (fun i hi => h i (by omega)) (by omega)
    have h2 := h n (by omega)
    show 0 ≤ (x_sum64 f n + f n).toInt ∧ (x_sum64 f n + f n).toInt ≤ _
    rw [T_add (by omega) (by omega)]
    omega
/-- a sum of ints, widened -/
theorem s_w {f : Nat → Int32} {B : Int} (hB : 0 ≤ B) : ∀ {n : Nat}, (∀ i, i < n → 0 ≤ (f i).toInt ∧ (f i).toInt ≤ B) → (n : Int) * B ≤ 2147483647 → (x_sum32 f n).toInt64 = x_sum64 (fun i => (f i).toInt64) n
  | 0, _, _ => by show (0 : Int32).toInt64 = 0; decide
  | n + 1, h, hb => by
    have e : ((n + 1 : Nat) : Int) * B = (n : Int) * B + B := by rw [Int.natCast_add, Int.add_mul]; simp
    rw [e] at hb
    have h1 := s32_b hB (n := n) (fun i hi => h i (by omega)) (by omega)
    have h2 := h n (by omega)
    have h3 := s_w hB (n := n) (fun i hi => h i (by omega)) (by omega)
    show (x_sum32 f n + f n).toInt64 = x_sum64 (fun i => (f i).toInt64) n + (f n).toInt64
    rw [← h3, T_eq, T_w, t_add (by omega) (by omega), T_add (by rw [T_w, T_w]; omega) (by rw [T_w, T_w]; omega), T_w, T_w]
/-! first of bids, counts, any: by equal parts -/
theorem any_c {f g : Nat → Bool} : ∀ {n : Nat}, (∀ i, i < n → f i = g i) → x_any f n = x_any g n
  | 0, _ => rfl
  | n + 1, h => by
    show (x_any f n || f n) = (x_any g n || g n)
    rw [any_c (fun i hi => h i (by omega)), h n (by omega)]
theorem fst_c {f f' : Nat → Prop} [DecidablePred f] [DecidablePred f'] {g g' : Nat → Nat → Prop} [DecidableRel g] [DecidableRel g'] : ∀ {n : Nat}, (∀ k, k < n → (f k ↔ f' k)) → (∀ k j, k < n → j < n → (g k j ↔ g' k j)) → sp_fst f g n = sp_fst f' g' n
  | 0, _, _ => rfl
  | n + 1, h1, h2 => by
    have ih := fst_c (n := n) (fun k hk => h1 k (by omega)) (fun k j hk hj => h2 k j (by omega) (by omega))
    rw [sp_fst, sp_fst, ← ih]
    cases hw : sp_fst f g n with
    | none =>
      dsimp only
      by_cases hf : f n
      · rw [if_pos hf, if_pos ((h1 n (by omega)).mp hf)]
      · rw [if_neg hf, if_neg (fun z => hf ((h1 n (by omega)).mpr z))]
    | some j =>
      have hj := sp_fst_lt hw
      dsimp only
      by_cases hf : f n ∧ g n j
      · rw [if_pos hf, if_pos ⟨(h1 n (by omega)).mp hf.1, (h2 n j (by omega) (by omega)).mp hf.2⟩]
      · rw [if_neg hf, if_neg (fun z => hf ⟨(h1 n (by omega)).mpr z.1, (h2 n j (by omega) (by omega)).mpr z.2⟩)]
theorem cnt_c {f f' : Nat → Prop} [DecidablePred f] [DecidablePred f'] : ∀ {n : Nat}, (∀ k, k < n → (f k ↔ f' k)) → x_cnt f n = x_cnt f' n
  | 0, _ => rfl
  | n + 1, h => by
    have ih := cnt_c (n := n) (fun k hk => h k (by omega))
    by_cases hf : f n
    · rw [x_cnt_1 hf, x_cnt_1 ((h n (by omega)).mp hf), ih]
    · rw [x_cnt_0 hf, x_cnt_0 (fun z => hf ((h n (by omega)).mpr z)), ih]
end

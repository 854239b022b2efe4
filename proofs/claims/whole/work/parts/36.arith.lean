/-! ===== small arithmetic of the walks ===== -/
/-- a truth as an int -/
def x_b (p : Prop) [Decidable p] : Int32 := if p then 1 else 0
theorem x_b1 {p : Prop} [Decidable p] (h : p) : x_b p = 1 := if_pos h
theorem x_b0 {p : Prop} [Decidable p] (h : ¬ p) : x_b p = 0 := if_neg h
theorem x_bE {p : Prop} [Decidable p] : (x_b p = 0) ↔ ¬ p := by
  unfold x_b
  by_cases h : p
  · rw [if_pos h]; exact ⟨fun q => absurd q (by decide), fun q => absurd h q⟩
  · rw [if_neg h]; exact ⟨fun _ => h, fun _ => rfl⟩
theorem x_bN {p : Prop} [Decidable p] : narrow .boolean (.int (x_b p)) = .int (x_b p) := by
  unfold x_b
  by_cases h : p
  · rw [if_pos h]; decide
  · rw [if_neg h]; decide
theorem r_b1 {p : Prop} [Decidable p] {μ : x_Mem} {n : Nat} (h : p) : ((.inl (some (.int 1)), μ, n) : x_O × x_Mem × Nat) = (.inl (some (.int (x_b p))), μ, n) := by rw [x_b1 h]
theorem r_b0 {p : Prop} [Decidable p] {μ : x_Mem} {n : Nat} (h : ¬ p) : ((.inl (some (.int 0)), μ, n) : x_O × x_Mem × Nat) = (.inl (some (.int (x_b p))), μ, n) := by rw [x_b0 h]
theorem r_bb {p q : Prop} [Decidable p] [Decidable q] {μ : x_Mem} {n : Nat} (h : p ↔ q) : ((.inl (some (.int (x_b p))), μ, n) : x_O × x_Mem × Nat) = (.inl (some (.int (x_b q))), μ, n) := by
  by_cases g : p
  · rw [x_b1 g, x_b1 (h.mp g)]
  · rw [x_b0 g, x_b0 (fun z => g (h.mpr z))]
theorem r_i {v w : Int32} {μ : x_Mem} {n : Nat} (h : v = w) : ((.inl (some (.int v)), μ, n) : x_O × x_Mem × Nat) = (.inl (some (.int w)), μ, n) := by rw [h]
theorem r_l {v w : Int64} {μ : x_Mem} {n : Nat} (h : v = w) : ((.inl (some (.long v)), μ, n) : x_O × x_Mem × Nat) = (.inl (some (.long w)), μ, n) := by rw [h]
/-! the comparison of longs -/
theorem lc_lt {x y : Int64} : (lg_cmp x y < 0) ↔ x < y := by
  unfold lg_cmp
  by_cases h : x > y
  · rw [if_pos h]
    constructor
    · intro q; exact absurd q (by decide)
    · intro q; rw [Int64.lt_iff_toInt_lt] at q; have h' : y < x := h; rw [Int64.lt_iff_toInt_lt] at h'; omega
  · rw [if_neg h]
    by_cases g : x = y
    · rw [if_pos g]
      constructor
      · intro q; exact absurd q (by decide)
      · intro q; rw [g, Int64.lt_iff_toInt_lt] at q; omega
    · rw [if_neg g]
      constructor
      · intro _
        have h' : ¬ y < x := h
        rw [Int64.lt_iff_toInt_lt] at h' ⊢
        have g' : ¬ x.toInt = y.toInt := fun q => g (Int64.toInt_inj.mp q)
        omega
      · intro _; decide
theorem lc_gt {x y : Int64} : ((0 : Int32) < lg_cmp x y) ↔ y < x := by
  unfold lg_cmp
  by_cases h : x > y
  · rw [if_pos h]; exact ⟨fun _ => h, fun _ => by decide⟩
  · rw [if_neg h]
    by_cases g : x = y
    · rw [if_pos g]; exact ⟨fun q => absurd q (by decide), fun q => absurd q h⟩
    · rw [if_neg g]; exact ⟨fun q => absurd q (by decide), fun q => absurd q h⟩
theorem lc_eq {x y : Int64} : (lg_cmp x y = 0) ↔ x = y := by
  unfold lg_cmp
  by_cases h : x > y
  · rw [if_pos h]
    constructor
    · intro q; exact absurd q (by decide)
    · intro q; have h' : y < x := h; rw [q, Int64.lt_iff_toInt_lt] at h'; omega
  · rw [if_neg h]
    by_cases g : x = y
    · rw [if_pos g]; exact ⟨fun _ => g, fun _ => rfl⟩
    · rw [if_neg g]; exact ⟨fun q => absurd q (by decide), fun q => absurd q g⟩
theorem lc_le {x y : Int64} : (lg_cmp x y ≤ 0) ↔ x ≤ y := by
  have h1 := @lc_gt x y
  rw [Int32.le_iff_toInt_le, Int64.le_iff_toInt_le]
  rw [Int32.lt_iff_toInt_lt, Int64.lt_iff_toInt_lt] at h1
  constructor
  · intro q; exact Int.not_lt.mp (fun z => absurd (h1.mpr z) (Int.not_lt.mpr q))
  · intro q; exact Int.not_lt.mp (fun z => absurd (h1.mp z) (Int.not_lt.mpr q))
theorem lc_ge {x y : Int64} : ((0 : Int32) ≤ lg_cmp x y) ↔ y ≤ x := by
  have h1 := @lc_lt x y
  rw [Int32.le_iff_toInt_le, Int64.le_iff_toInt_le]
  rw [Int32.lt_iff_toInt_lt, Int64.lt_iff_toInt_lt] at h1
  constructor
  · intro q; exact Int.not_lt.mp (fun z => absurd (h1.mpr z) (Int.not_lt.mpr q))
  · intro q; exact Int.not_lt.mp (fun z => absurd (h1.mp z) (Int.not_lt.mpr q))
theorem w_le {x y : Int32} : (x.toInt64 ≤ y.toInt64) ↔ x ≤ y := by
  rw [Int64.le_iff_toInt_le, Int32.le_iff_toInt_le, Int32.toInt_toInt64, Int32.toInt_toInt64]
theorem w_lt {x y : Int32} : (x.toInt64 < y.toInt64) ↔ x < y := by
  rw [Int64.lt_iff_toInt_lt, Int32.lt_iff_toInt_lt, Int32.toInt_toInt64, Int32.toInt_toInt64]
/-! not less -/
theorem i_nlt {x y : Int32} : (¬ x < y) ↔ y ≤ x := Int32.not_lt
theorem i_nle {x y : Int32} : (¬ x ≤ y) ↔ y < x := Int32.not_le
theorem l_nlt {x y : Int64} : (¬ x < y) ↔ y ≤ x := Int64.not_lt
theorem l_nle {x y : Int64} : (¬ x ≤ y) ↔ y < x := Int64.not_le
/-- sums over the first n -/
def x_sum32 (f : Nat → Int32) : Nat → Int32
  | 0 => 0
  | n + 1 => x_sum32 f n + f n
def x_sum64 (f : Nat → Int64) : Nat → Int64
  | 0 => 0
  | n + 1 => x_sum64 f n + f n
theorem n_ne1 {s : Nat} (h : s < 1000000000) : ¬ (Int32.ofNat s = -1) := by
  intro z
  have h2 := congrArg Int32.toInt z
  rw [Int32.toInt_ofNat_of_lt (by omega)] at h2
  have h3 : (-1 : Int32).toInt = -1 := by decide
  omega
theorem n_inc {s : Nat} : Int32.ofNat s + 1 = Int32.ofNat (s + 1) := by
  rw [Int32.ofNat_add]
  rfl
theorem x_bT {p : Prop} [Decidable p] (h : ¬ x_b p = 0) : p := Decidable.not_not.mp (fun z => h (x_bE.mpr z))
theorem x_bF {p : Prop} [Decidable p] (h : x_b p = 0) : ¬ p := x_bE.mp h
theorem x_bG {p : Prop} [Decidable p] (h : ¬ ¬ x_b p = 0) : ¬ p := x_bE.mp (Decidable.not_not.mp h)
theorem x_dn {p : Prop} [Decidable p] (h : ¬ ¬ p) : p := Decidable.not_not.mp h
theorem ix_div {m k : Nat} (hm : m < 1000000000) (hk : k < 1000000000) {a b : Int32} (ha : a = Int32.ofNat m) (hb : b = Int32.ofNat k) : a / b = Int32.ofNat (m / k) := by
  rw [ha, hb]
  apply Int32.toInt_inj.mp
  have h1 : m / k ≤ m := Nat.div_le_self m k
  rw [Int32.toInt_div, Int32.toInt_ofNat_of_lt (by omega), Int32.toInt_ofNat_of_lt (by omega), Int32.toInt_ofNat_of_lt (by omega)]
  have h2 : ((m : Int).tdiv (k : Int)) = ((m / k : Nat) : Int) := by
    rw [Int.tdiv_eq_ediv_of_nonneg (by omega)]
    exact (Int.natCast_ediv m k).symm
  rw [h2]
  clear h2
  generalize m / k = w at h1 ⊢
  exact Int.bmod_eq_of_le (by omega) (by omega)
theorem x_bn {p : Prop} [Decidable p] (h : p) : ¬ x_b p = 0 := fun z => x_bE.mp z h
theorem x_bnn {p : Prop} [Decidable p] (h : ¬ p) : ¬ ¬ x_b p = 0 := fun z => z (x_b0 h)
theorem ix_rem {m k : Nat} (hm : m < 1000000000) (hk : k < 1000000000) {a b : Int32} (ha : a = Int32.ofNat m) (hb : b = Int32.ofNat k) : a - a / b * b = Int32.ofNat (m % k) := by
  have h1 := ix_mul (ix_div hm hk ha hb) hb
  have h2 : m / k * k ≤ m := Nat.div_mul_le_self m k
  rw [ix_sub ha h1 h2]
  congr 1
  have h3 := Nat.div_add_mod m k
  rw [Nat.mul_comm] at h3
  omega

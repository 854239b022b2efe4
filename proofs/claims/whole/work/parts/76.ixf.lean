/-! ===== the least index ===== -/
section
variable {a : Nat → Int32}
theorem xor_p {x y : Int32} (hy : 0 ≤ y) : (0 ≤ x ^^^ y) ↔ 0 ≤ x := by
  rw [neg_b, neg_b, show (x ^^^ y).toBitVec = x.toBitVec ^^^ y.toBitVec from rfl, BitVec.msb_xor, neg_b.mp hy, Bool.xor_false]
theorem fd_i {x y : Int32} (hy : 0 < y.toInt) : (x_fdiv x y).toInt = x.toInt / y.toInt := by
  have h1 := Int32.toInt_lt x
  have h2 := Int32.le_toInt x
  have hd : (x / y).toInt = x.toInt.tdiv y.toInt := by
    refine Int32.toInt_div_of_ne_right _ _ (fun z => ?_)
    rw [z, show (-1 : Int32).toInt = -1 from by decide] at hy
    omega
  have h6 := Int.mul_tdiv_add_tmod x.toInt y.toInt
  rw [Int.mul_comm] at h6
  have hy0 : 0 ≤ y := t_le.mpr (by rw [show (0 : Int32).toInt = 0 from by decide]; omega)
  unfold x_fdiv
  by_cases hx : 0 ≤ x
  · rw [if_pos ((xor_p hy0).mpr hx), hd]
    have h0 : 0 ≤ x.toInt := by rw [t_le] at hx; exact hx
    exact Int.tdiv_eq_ediv_of_nonneg h0
  · rw [if_neg (fun z => hx ((xor_p hy0).mp z))]
    have h0 : x.toInt < 0 := by
      rw [t_le, show (0 : Int32).toInt = 0 from by decide] at hx
      omega
    have h7 := Int.tmod_nonneg y.toInt (show 0 ≤ -x.toInt by omega)
    rw [Int.neg_tmod] at h7
    have h8 : (x.toInt.tmod y.toInt).natAbs < y.toInt.natAbs := by rw [Int.natAbs_tmod]; exact Nat.mod_lt _ (by omega)
    have h9 := Int.tdiv_nonneg (show 0 ≤ -x.toInt by omega) (show 0 ≤ y.toInt by omega)
    rw [Int.neg_tdiv] at h9
    have h10 : x.toInt.tdiv y.toInt * y.toInt ≤ 0 := Int.mul_nonpos_of_nonpos_of_nonneg (by omega) (by omega)
    have h3 : (x / y * y).toInt = x.toInt.tdiv y.toInt * y.toInt := by rw [t_mul (by rw [hd]; omega) (by rw [hd]; omega), hd]
    by_cases hz : x / y * y = x
    · rw [if_pos hz, hd]
      rw [t_eq, h3] at hz
      exact (((Int.ediv_emod_unique hy).mpr ⟨show 0 + y.toInt * x.toInt.tdiv y.toInt = x.toInt by rw [Int.mul_comm]; omega, by omega, by omega⟩).1).symm
    · rw [if_neg hz]
      have hz' : ¬ x.toInt.tmod y.toInt = 0 := fun z => hz (by rw [t_eq, h3]; omega)
      have o1 : (1 : Int32).toInt = 1 := by decide
      have h11 : -2147483648 ≤ x.toInt.tdiv y.toInt - 1 := by
        have : x.toInt.tdiv y.toInt * y.toInt ≤ x.toInt.tdiv y.toInt * 1 := Int.mul_le_mul_of_nonpos_left (by omega) (by omega)
        omega
      rw [t_sub (by rw [hd, o1]; omega) (by rw [hd, o1]; omega), hd, o1]
      refine (((Int.ediv_emod_unique hy).mpr ⟨show (x.toInt.tmod y.toInt + y.toInt) + y.toInt * (x.toInt.tdiv y.toInt - 1) = x.toInt from ?_, by omega, by omega⟩).1).symm
      rw [Int.mul_sub, Int.mul_comm y.toInt (x.toInt.tdiv y.toInt), Int.mul_one]
      omega
theorem sch_m {C : Nat → Prop} [DecidablePred C] {t : Int} : ∀ (d m : Nat), (∀ k, m ≤ k → k < m + d → (C k ↔ t ≤ (k : Int))) → (t ≤ (m : Int) → y_sch C d m = m) ∧ ((m : Int) < t → t ≤ ((m + d : Nat) : Int) → ((y_sch C d m : Nat) : Int) = t) ∧ (((m + d : Nat) : Int) < t → y_sch C d m = m + d)
  | 0, m, _ => ⟨fun _ => rfl, fun h1 h2 => by omega, fun _ => rfl⟩
  | d + 1, m, h => by
    have ih := sch_m d (m + 1) (fun k h1 h2 => h k (by omega) (by omega))
    have h0 := h m (by omega) (by omega)
    rw [y_sch]
    refine ⟨fun g => ?_, fun g1 g2 => ?_, fun g => ?_⟩
    · rw [if_pos (h0.mpr g)]
    · rw [if_neg (fun z => by have := h0.mp z; omega)]
      by_cases e : t ≤ ((m + 1 : Nat) : Int)
      · rw [ih.1 e]; omega
      · exact ih.2.1 (by omega) (by omega)
    · rw [if_neg (fun z => by have := h0.mp z; omega)]
      rw [ih.2.2 (by omega)]
      omega
def sp_ixf (a : Nat → Int32) (s : Nat) (w : Int32) : Nat := y_sch (fun k => w ≤ sp_rateBy a s (Int32.ofNat k)) 10000 1
def y_ixr (n : Nat) : Int32 := if n ≤ 10000 then Int32.ofNat n else -1
theorem by_i (hT : y_IT a) {s k : Nat} (hs : s < 6) (hk : k ≤ 10000) : (sp_by a s (Int32.ofNat k)).toInt = ((k : Int) - (a (26 + s)).toInt) * (a 4).toInt / 100 := by
  have b1 := (hT.2.2.2.2.2.2.2.2.2 s hs).2
  have b11 := b1.1
  have b12 := b1.2
  have b2 := hT.2.2.2.2.1
  have b21 := b2.1
  have b22 := b2.2
  have ek : (Int32.ofNat k).toInt = (k : Int) := t_n (by omega)
  have e1 : (Int32.ofNat k - a (26 + s)).toInt = (k : Int) - (a (26 + s)).toInt := by rw [t_sub (by rw [ek]; omega) (by rw [ek]; omega), ek]
  have m := m_ab (x := (k : Int) - (a (26 + s)).toInt) (y := (a 4).toInt) (A := 10000) (B := 100) (by omega) (by omega) (by omega) (by omega)
  have e2 : ((Int32.ofNat k - a (26 + s)) * a 4).toInt = ((k : Int) - (a (26 + s)).toInt) * (a 4).toInt := by rw [t_mul (by rw [e1]; omega) (by rw [e1]; omega), e1]
  rw [show sp_by a s (Int32.ofNat k) = x_fdiv ((Int32.ofNat k - a (26 + s)) * a 4) 100 from by100.symm, fd_i (by decide), e2]
  rfl
/-- when an index is enough -/
theorem ix_C (hT : y_IT a) (hK : y_IK a) {s k : Nat} (hs : s < 6) (hk : k ≤ 10000) {w : Int32} : (w ≤ sp_rateBy a s (Int32.ofNat k)) ↔ (w.toInt ≤ (a (20 + s)).toInt ∨ (w.toInt - (a (288 + s)).toInt) * 100 ≤ ((k : Int) - (a (26 + s)).toInt) * (a 4).toInt) := by
  have b := by_i hT hs hk
  have b1 := (hT.2.2.2.2.2.2.2.2.2 s hs).2
  have b11 := b1.1
  have b12 := b1.2
  have b2 := hT.2.2.2.2.1
  have b21 := b2.1
  have b22 := b2.2
  have b3 := hK.2.2.1 s hs
  have b31 := b3.1
  have b32 := b3.2
  have m := m_ab (x := (k : Int) - (a (26 + s)).toInt) (y := (a 4).toInt) (A := 10000) (B := 100) (by omega) (by omega) (by omega) (by omega)
  generalize hX : ((k : Int) - (a (26 + s)).toInt) * (a 4).toInt = Y at *
  have e : (a (288 + s) + sp_by a s (Int32.ofNat k)).toInt = (a (288 + s)).toInt + Y / 100 := by rw [t_add (by rw [b]; omega) (by rw [b]; omega), b]
  unfold sp_rateBy
  by_cases h : a (20 + s) ≤ a (288 + s) + sp_by a s (Int32.ofNat k)
  · rw [if_pos h]
    rw [t_le, e] at h
    rw [t_le, e]
    omega
  · rw [if_neg h]
    rw [t_le, e] at h
    rw [t_le]
    omega
theorem ix_A (hT : y_IT a) (hK : y_IK a) {s : Nat} (hs : s < 6) {w : Int32} (h : w ≤ a (20 + s)) : sp_ixf a s w = 1 :=
  (sch_m (t := 1) 10000 1 (fun k h1 h2 => ⟨fun _ => by omega, fun _ => (ix_C hT hK hs (by omega)).mpr (Or.inl (t_le.mp h))⟩)).1 (by omega)
theorem ix_B (hT : y_IT a) (hK : y_IK a) {s : Nat} (hs : s < 6) {w : Int32} (h : ¬ w ≤ a (20 + s)) (h0 : a 4 = 0) : sp_ixf a s w = (if w.toInt ≤ (a (288 + s)).toInt then 1 else 10001) := by
  have z0 : (a 4).toInt = 0 := by rw [h0]; decide
  rw [t_le] at h
  by_cases g : w.toInt ≤ (a (288 + s)).toInt
  · rw [if_pos g]
    exact (sch_m (t := 1) 10000 1 (fun k h1 h2 => ⟨fun _ => by omega, fun _ => (ix_C hT hK hs (by omega)).mpr (Or.inr (by rw [z0, Int.mul_zero]; omega))⟩)).1 (by omega)
  · rw [if_neg g]
    exact (sch_m (t := 20000) 10000 1 (fun k h1 h2 => ⟨fun z => by
      have := (ix_C hT hK hs (by omega)).mp z
      rw [z0, Int.mul_zero] at this
      omega, fun z => by omega⟩)).2.2 (by omega)
theorem ceil_le {M sh j : Int} (h : 0 < sh) : (-(-M / sh) ≤ j) ↔ M ≤ j * sh := by
  have := Int.le_ediv_iff_mul_le (a := -j) (b := -M) h
  rw [Int.neg_mul] at this
  constructor
  · intro z; have := this.mp (by omega); omega
  · intro z; have := this.mpr (by omega); omega
theorem ix_D (hT : y_IT a) (hK : y_IK a) {s : Nat} (hs : s < 6) {w : Int32} (h : ¬ w ≤ a (20 + s)) (h0 : 0 < (a 4).toInt) : let t := (a (26 + s)).toInt + -((-((w.toInt - (a (288 + s)).toInt) * 100)) / (a 4).toInt); (t ≤ 1 → sp_ixf a s w = 1) ∧ (1 < t → t ≤ 10001 → ((sp_ixf a s w : Nat) : Int) = t) ∧ (10001 < t → sp_ixf a s w = 10001) := by
  intro t
  rw [t_le] at h
  have g := sch_m (C := fun k => w ≤ sp_rateBy a s (Int32.ofNat k)) (t := t) 10000 1 (fun k h1 h2 => by
    have c := ceil_le (M := (w.toInt - (a (288 + s)).toInt) * 100) (j := (k : Int) - (a (26 + s)).toInt) h0
    rw [ix_C hT hK hs (by omega)]
    constructor
    · rintro (z | z)
      · omega
      · have := c.mpr z
        show (a (26 + s)).toInt + -((-((w.toInt - (a (288 + s)).toInt) * 100)) / (a 4).toInt) ≤ _
        omega
    · intro z
      have z' : (a (26 + s)).toInt + -((-((w.toInt - (a (288 + s)).toInt) * 100)) / (a 4).toInt) ≤ (k : Int) := z
      exact Or.inr (c.mp (by omega)))
  exact ⟨g.1, g.2.1, g.2.2⟩
end

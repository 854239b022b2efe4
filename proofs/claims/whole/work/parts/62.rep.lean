/-! ===== what a sale of the class holds, by the model's rows; what is always so ===== -/
section
def y_in (x : Int32) (lo hi : Int) : Prop := lo ≤ x.toInt ∧ x.toInt ≤ hi
def y_IT (a : Nat → Int32) : Prop := (∃ P, P ≤ 8 ∧ a 0 = Int32.ofNat P) ∧ y_in (a 1) 2 200 ∧ y_in (a 2) 1 35 ∧ y_in (a 3) 0 50 ∧ y_in (a 4) 0 100 ∧ y_in (a 5) 0 20 ∧ y_in (a 6) 0 50 ∧ y_in (a 7) 0 1000000 ∧ (∃ n, n ≤ 6 ∧ a 8 = Int32.ofNat n) ∧ (∀ s, s < 6 → y_in (a (20 + s)) 0 100000 ∧ y_in (a (26 + s)) 0 10000)
def y_IC (a : Nat → Int32) : Prop := (∃ n, n ≤ 30 ∧ a 9 = Int32.ofNat n ∧ (n : Int) ≤ (a 1).toInt) ∧ (∀ j, j < 180 → y_in (a (44 + j)) 0 500)
def y_IB (N : Nat) (a : Nat → Int32) : Prop := y_in (a 10) 0 N ∧ (∀ q, q < 8 → (∀ s, s < 6 → y_in (a (224 + 8 * q + s)) 0 1000000) ∧ y_in (a (224 + 8 * q + 6)) 0 1000000000 ∧ y_in (a (224 + 8 * q + 7)) 0 (a 10).toInt) ∧ (∀ q j, q < 8 → j < 8 → ¬ q = j → 0 < a (224 + 8 * q + 7) → ¬ a (224 + 8 * q + 7) = a (224 + 8 * j + 7)) ∧ (a 0 = 0 → a 10 = 0 ∧ ∀ j, j < 64 → a (224 + j) = 0)
def y_IV (a : Nat → Int32) : Prop := (∀ s, s < 6 → y_in (a (32 + s)) 0 100000 ∧ y_in (a (38 + s)) 0 100000 ∧ ((a 8).toInt ≤ (s : Int) → a (32 + s) = 0 ∧ a (38 + s) = 0))
def y_IK (a : Nat → Int32) : Prop := (∃ m, m < 36 ∧ a 13 = Int32.ofNat m) ∧ y_in (a 15) 0 1000000000 ∧ (∀ s, s < 6 → y_in (a (288 + s)) 0 1000000) ∧ (∀ j, j < 72 → y_in (a (294 + j)) 0 10000) ∧ (3 ≤ a 0 → ∃ w, w < 8 ∧ a 11 = Int32.ofNat w) ∧ a 16 = (if a 0 = 4 then 1 else 0) ∧ (a 0 = 8 → ∃ w, w < 8 ∧ a 12 = Int32.ofNat w ∧ sp_win a (-1) 100 (a 8).toNatClampNeg 8 = some w)
def y_IL (a : Nat → Int32) : Prop := ∃ n, n ≤ 60 ∧ a 14 = Int32.ofNat n ∧ ∀ k, k < n → y_in (a (366 + 4 * k + 1)) 0 35 ∧ y_in (a (366 + 4 * k + 2)) 0 10000 ∧ y_in (a (366 + 4 * k + 3)) (-1) 10000
def y_Inv (N : Nat) (a : Nat → Int32) (b : Nat → Int64) : Prop := y_IT a ∧ y_IC a ∧ y_IB N a ∧ y_IV a ∧ y_IK a ∧ y_IL a ∧ (∀ j, 606 ≤ j → a j = 0) ∧ (∀ j, 37 ≤ j → b j = 0)
def y_RT (I : Nat → Nat → Int32) (β : Nat) (a : Nat → Int32) : Prop := I (β + 1) 0 = a 8 ∧ (∀ i, i < 7 → I (β + 2) i = a (1 + i)) ∧ (∀ s, s < 6 → I (β + 3) s = a (20 + s)) ∧ (∀ s, s < 6 → I (β + 4) s = a (26 + s))
def y_RC (I : Nat → Nat → Int32) (β : Nat) (a : Nat → Int32) : Prop := I (β + 5) 0 = a 9 ∧ (∀ j, j < 180 → I (β + 6) j = a (44 + j))
def y_RB (I : Nat → Nat → Int32) (β : Nat) (a : Nat → Int32) : Prop := (∀ s, s < 6 → I (β + 8) s = sp_vol a s) ∧ (∀ q, q < 8 → ∀ s, s < 6 → I (β + 9) (q * 6 + s) = a (224 + 8 * q + s)) ∧ (∀ q, q < 8 → I (β + 10) q = a (224 + 8 * q + 6)) ∧ (∀ q, q < 8 → I (β + 11) q = a (224 + 8 * q + 7)) ∧ I (β + 7) 4 = a 10 ∧ I (β + 7) 5 = (if 6 ≤ a 0 then a 11 else -1)
def y_RK (I : Nat → Nat → Int32) (L : Nat → Nat → Int64) (β : Nat) (a : Nat → Int32) (b : Nat → Int64) : Prop := (3 ≤ a 0 → ∀ s, s < 6 → I (β + 13) s = a (32 + s)) ∧ (∀ s, s < 6 → I (β + 14) s = a (288 + s)) ∧ (∀ s, s < 6 → ∀ q, q < 12 → I (β + 15) (s * 12 + q) = a (294 + 6 * q + s)) ∧ (3 ≤ a 0 → I (β + 12) 4 = a 11) ∧ I (β + 12) 5 = a 15 ∧ I (β + 12) 6 = a 13 ∧ (∀ m, m < 36 → L (β + 16) m = b (1 + m)) ∧ L (β + 12) 7 = b 0
def y_RL (I : Nat → Nat → Int32) (β : Nat) (a : Nat → Int32) : Prop := I (β + 17) 0 = a 14 ∧ (∀ k, k < (a 14).toNatClampNeg → I (β + 18) k = a (366 + 4 * k + 0) ∧ I (β + 19) k = a (366 + 4 * k + 1) ∧ I (β + 20) k = a (366 + 4 * k + 2) ∧ I (β + 21) k = a (366 + 4 * k + 3)) ∧ (I (β + 17) 1).toInt64 = sp_cs a 2 (a 14).toNatClampNeg ∧ (I (β + 17) 2).toInt64 = sp_cs a 3 (a 14).toNatClampNeg
def y_Rep (I : Nat → Nat → Int32) (L : Nat → Nat → Int64) (β : Nat) (a : Nat → Int32) (b : Nat → Int64) : Prop := I β 0 = a 0 ∧ y_RT I β a ∧ y_RC I β a ∧ y_RB I β a ∧ y_RK I L β a b ∧ y_RL I β a
/-! ===== the class's numbers are the model's ===== -/
variable {I : Nat → Nat → Int32} {L : Nat → Nat → Int64} {β : Nat} {a : Nat → Int32} {b : Nat → Int64}
theorem eq_in (hC : y_RC I β a) (hI : y_IC a) {σ : Int32} (hσ : x_spec σ) {p : Nat} (hp : p < 30) : cv_in (I (β + 6)) σ p = (sp_in a σ p).toInt64 := by
  rcases hσ with rfl | ⟨s, hs, rfl⟩
  · unfold cv_in sp_in
    rw [if_pos rfl, if_pos rfl]
    unfold sp_all
    rw [s_w (B := 500) (by decide) (fun i hi => ?_) (by decide)]
    · unfold cv_all
      refine s64_c (fun i hi => ?_)
      rw [hC.2 (p * 6 + i) (by omega), show 44 + (p * 6 + i) = 44 + 6 * p + i by omega]
    · have := hI.2 (6 * p + i) (by omega)
      rw [show 44 + (6 * p + i) = 44 + 6 * p + i by omega] at this
      exact this
  · unfold cv_in sp_in
    rw [if_neg (n_ne1 (by omega)), if_neg (n_ne1 (by omega)), n_cl (by omega), hC.2 (p * 6 + s) (by omega), show 44 + (p * 6 + s) = 44 + 6 * p + s by omega]
theorem bd_in (hI : y_IC a) {σ : Int32} (hσ : x_spec σ) {p : Nat} (hp : p < 30) : 0 ≤ (sp_in a σ p).toInt ∧ (sp_in a σ p).toInt ≤ 3000 := by
  rcases hσ with rfl | ⟨s, hs, rfl⟩
  · unfold sp_in
    rw [if_pos rfl]
    unfold sp_all
    have := s32_b (f := fun s => a (44 + 6 * p + s)) (B := 500) (by decide) (n := 6) (fun i hi => ?_) (by decide)
    · exact ⟨this.1, Int.le_trans this.2 (by decide)⟩
    · have := hI.2 (6 * p + i) (by omega)
      rw [show 44 + (6 * p + i) = 44 + 6 * p + i by omega] at this
      exact this
  · unfold sp_in
    rw [if_neg (n_ne1 (by omega)), n_cl (by omega)]
    have := hI.2 (6 * p + s) (by omega)
    rw [show 44 + (6 * p + s) = 44 + 6 * p + s by omega] at this
    exact ⟨this.1, Int.le_trans this.2 (by decide)⟩
theorem eq_sum (hC : y_RC I β a) (hI : y_IC a) {σ : Int32} (hσ : x_spec σ) {n : Nat} (hn : n ≤ 30) : cv_sum (I (β + 6)) σ n = sp_sum a σ n :=
  s64_c (fun _ hi => eq_in hC hI hσ (by omega))
theorem eq_sq (hC : y_RC I β a) (hI : y_IC a) {σ : Int32} (hσ : x_spec σ) {n : Nat} (hn : n ≤ 30) : cv_sq (I (β + 6)) σ n = sp_sq a σ n :=
  s64_c (fun i hi => by rw [eq_in hC hI hσ (show i < 30 by omega)])
theorem bd_sum (hI : y_IC a) {σ : Int32} (hσ : x_spec σ) {n : Nat} (hn : n ≤ 30) : 0 ≤ (sp_sum a σ n).toInt ∧ (sp_sum a σ n).toInt ≤ 90000 := by
  have h := s64_b (f := fun p => (sp_in a σ p).toInt64) (B := 3000) (by decide) (n := n) (fun i hi => by rw [T_w]; exact bd_in hI hσ (by omega)) (by omega)
  exact ⟨h.1, Int.le_trans h.2 (by omega)⟩
theorem bd_sq (hI : y_IC a) {σ : Int32} (hσ : x_spec σ) {n : Nat} (hn : n ≤ 30) : 0 ≤ (sp_sq a σ n).toInt ∧ (sp_sq a σ n).toInt ≤ 270000000 := by
  have h := s64_b (f := fun p => (sp_in a σ p).toInt64 * (sp_in a σ p).toInt64) (B := 9000000) (by decide) (n := n) (fun i hi => by
    have h := bd_in hI hσ (p := i) (by omega)
    have h2 := m_bd h.1 h.2 h.1 h.2
    rw [T_mul (by rw [T_w]; omega) (by rw [T_w]; omega), T_w]
    omega) (by omega)
  exact ⟨h.1, Int.le_trans h.2 (by omega)⟩
/-! bids -/
theorem vol_i (hV : y_IV a) {s : Nat} (hs : s < 6) : 0 ≤ (sp_vol a s).toInt ∧ (sp_vol a s).toInt ≤ 100000 := by
  unfold sp_vol
  by_cases h : 6 ≤ a 0
  · rw [if_pos h]; exact (hV s hs).2.1
  · rw [if_neg h]; exact (hV s hs).1
theorem vol_0 (hV : y_IV a) {s n : Nat} (hs : s < 6) (hn : n ≤ 6) (h8 : a 8 = Int32.ofNat n) (h : n ≤ s) : sp_vol a s = 0 := by
  have h0 := (hV s hs).2.2 (by rw [h8, t_n (by omega)]; omega)
  unfold sp_vol
  by_cases h : 6 ≤ a 0
  · rw [if_pos h]; exact h0.2
  · rw [if_neg h]; exact h0.1
theorem sp_part1 {q s : Nat} (hs : s < 6) {h : Int32} : sp_part a q (-1) h s = (sp_vol a s).toInt64 * (a (224 + 8 * q + s)).toInt64 := by
  unfold sp_part
  rw [if_neg (n_ne1 (by omega))]
theorem eq_val (hB : y_RB I β a) (hV : y_IV a) {n q : Nat} (hq : q < 8) (hn : n ≤ 6) (h8 : a 8 = Int32.ofNat n) : cv_val (I (β + 9)) (I (β + 8)) q 6 = sp_val a q (-1) 100 n := by
  unfold cv_val sp_val
  rw [s64_t (m := n) hn (fun i h1 h2 => ?_)]
  · refine s64_c (fun i hi => ?_)
    rw [sp_part1 (by omega), hB.2.1 q hq i (by omega), hB.1 i (by omega), Int64.mul_comm]
  · rw [hB.1 i h2, vol_0 hV h2 hn h8 h1]
    exact Int64.mul_zero
theorem bd_part {N : Nat} (hV : y_IV a) (hI : y_IB N a) {q s : Nat} (hq : q < 8) (hs : s < 6) : 0 ≤ (sp_part a q (-1) 100 s).toInt ∧ (sp_part a q (-1) 100 s).toInt ≤ 100000000000 := by
  rw [sp_part1 hs]
  have h1 := vol_i hV hs
  have h2 := (hI.2.1 q hq).1 s hs
  have h3 := m_bd h1.1 h1.2 h2.1 h2.2
  rw [T_mul (by rw [T_w, T_w]; omega) (by rw [T_w, T_w]; omega), T_w, T_w]
  omega
theorem bd_val {N : Nat} (hV : y_IV a) (hI : y_IB N a) {n q : Nat} (hq : q < 8) (hn : n ≤ 6) : 0 ≤ (sp_val a q (-1) 100 n).toInt ∧ (sp_val a q (-1) 100 n).toInt ≤ 600000000000 := by
  have h := s64_b (f := sp_part a q (-1) 100) (B := 100000000000) (by decide) (n := n) (fun i hi => bd_part hV hI hq (by omega)) (by omega)
  exact ⟨h.1, Int.le_trans h.2 (by omega)⟩
theorem eq_low (hT : y_RT I β a) (hB : y_RB I β a) {n q : Nat} (hq : q < 8) (hn : n ≤ 6) : x_any (cv_low (I (β + 9)) (I (β + 3)) q (-1)) n = x_any (sp_low a q) n :=
  any_c (fun i hi => by
    unfold cv_low sp_low
    rw [hB.2.1 q hq i (by omega), hT.2.2.1 i (by omega)]
    exact decide_eq_decide.mpr ⟨fun z => z.2, fun z => ⟨n_ne1 (by omega), z⟩⟩)
theorem eq_prob (hT : y_RT I β a) (hB : y_RB I β a) (hV : y_IV a) {n q : Nat} (hq : q < 8) (hn : n ≤ 6) (h8 : a 8 = Int32.ofNat n) : cv_prob I β q n = sp_prob a q n := by
  unfold cv_prob sp_prob
  rw [eq_low hT hB hq hn, eq_val hB hV hq hn h8, hB.2.2.2.1 q hq, hB.2.2.1 q hq, hT.2.1 2 (by decide), hB.2.2.2.2.2]
  by_cases h6 : 6 ≤ a 0
  · rw [if_pos h6]
    simp only [h6, true_and]
  · rw [if_neg h6]
    simp only [h6, false_and, if_false, n_ne1 (show q < 1000000000 by omega)]
theorem eq_bef {N : Nat} (hB : y_RB I β a) (hV : y_IV a) (hI : y_IB N a) {n q j : Nat} (hq : q < 8) (hj : j < 8) (hn : n ≤ 6) (h8 : a 8 = Int32.ofNat n) : cv_bef I β q j ↔ sp_bef a q j (-1) 100 n := by
  have b1 := bd_val hV hI hq hn
  have b2 := bd_val hV hI hj hn
  have e : cv_lead I β q j = sp_val a q (-1) 100 n - sp_val a j (-1) 100 n := by
    unfold cv_lead
    rw [eq_val hB hV hq hn h8, eq_val hB hV hj hn h8]
  show (0 < cv_lead I β q j ∨ (cv_lead I β q j = 0 ∧ I (β + 11) q < I (β + 11) j)) ↔ _
  rw [e, hB.2.2.2.1 q hq, hB.2.2.2.1 j hj]
  show _ ↔ (sp_val a j (-1) 100 n < sp_val a q (-1) 100 n ∨ (sp_val a q (-1) 100 n = sp_val a j (-1) 100 n ∧ a (224 + 8 * q + 7) < a (224 + 8 * j + 7)))
  rw [T_lt (x := 0), T_eq (y := 0), T_sub (by omega) (by omega), T_lt, T_eq, show (0 : Int64).toInt = 0 from by decide]
  constructor
  · rintro (h | ⟨h, g⟩)
    · exact Or.inl (by omega)
    · exact Or.inr ⟨by omega, g⟩
  · rintro (h | ⟨h, g⟩)
    · exact Or.inl (by omega)
    · exact Or.inr ⟨by omega, g⟩
theorem eq_win {N : Nat} (hT : y_RT I β a) (hB : y_RB I β a) (hV : y_IV a) (hI : y_IB N a) {n : Nat} (hn : n ≤ 6) (h8 : a 8 = Int32.ofNat n) : cv_win I β n 8 = sp_win a (-1) 100 n 8 :=
  fst_c (fun k hk => by rw [eq_prob hT hB hV hk hn h8]) (fun k j hk hj => eq_bef hB hV hI hk hj hn h8)
end

/-! ===== the class's numbers are the model's: loads, rates, charges ===== -/
section
variable {I : Nat → Nat → Int32} {L : Nat → Nat → Int64} {β : Nat} {a : Nat → Int32} {b : Nat → Int64}
theorem RL_k (hL : y_RL I β a) {n : Nat} (hn : n ≤ 60) (h14 : a 14 = Int32.ofNat n) {k : Nat} (hk : k < n) : I (β + 18) k = a (366 + 4 * k + 0) ∧ I (β + 19) k = a (366 + 4 * k + 1) ∧ I (β + 20) k = a (366 + 4 * k + 2) ∧ I (β + 21) k = a (366 + 4 * k + 3) :=
  hL.2.1 k (by rw [h14, n_cl (by omega)]; exact hk)
theorem eq_nets (hL : y_RL I β a) {n : Nat} (hn : n ≤ 60) (h14 : a 14 = Int32.ofNat n) {σ f t : Int32} (ht : 0 ≤ t.toInt) : cv_nets I β σ f t n = sp_nets a σ f t n :=
  s32_c (fun k hk => by
    obtain ⟨e0, e1, e2, _⟩ := RL_k hL hn h14 hk
    unfold cv_net sp_net
    have e : cv_cnt I β σ f t k ↔ sp_cnt a σ f t k := by
      show ((σ = -1 ∨ I (β + 18) k = σ) ∧ f ≤ I (β + 19) k ∧ I (β + 19) k < t) ↔ ((σ = -1 ∨ a (366 + 4 * k + 0) = σ) ∧ f ≤ a (366 + 4 * k + 1) ∧ a (366 + 4 * k + 1) ≤ t - 1)
      have ht2 := Int32.toInt_lt t
      rw [e0, e1, t_lt, t_le (x := a (366 + 4 * k + 1)), t_sub (by rw [show (1 : Int32).toInt = 1 from by decide]; omega) (by rw [show (1 : Int32).toInt = 1 from by decide]; omega), show (1 : Int32).toInt = 1 from by decide]
      constructor
      · rintro ⟨h1, h2, h3⟩; exact ⟨h1, h2, by omega⟩
      · rintro ⟨h1, h2, h3⟩; exact ⟨h1, h2, by omega⟩
    by_cases h : cv_cnt I β σ f t k
    · rw [if_pos h, if_pos (e.mp h), e2]
    · rw [if_neg h, if_neg (fun z => h (e.mpr z))])
theorem IL_k (hI : y_IL a) {n : Nat} (hn : n ≤ 60) (h14 : a 14 = Int32.ofNat n) {k : Nat} (hk : k < n) : y_in (a (366 + 4 * k + 1)) 0 35 ∧ y_in (a (366 + 4 * k + 2)) 0 10000 ∧ y_in (a (366 + 4 * k + 3)) (-1) 10000 := by
  obtain ⟨m, hm, h, hh⟩ := hI
  rw [h14, n_eq (by omega) (by omega)] at h
  exact hh k (by omega)
theorem bd_net (hI : y_IL a) {n : Nat} (hn : n ≤ 60) (h14 : a 14 = Int32.ofNat n) {σ f t : Int32} {k : Nat} (hk : k < n) : 0 ≤ (sp_net a σ f t k).toInt ∧ (sp_net a σ f t k).toInt ≤ 10000 := by
  unfold sp_net
  by_cases h : sp_cnt a σ f t k
  · rw [if_pos h]; exact (IL_k hI hn h14 hk).2.1
  · rw [if_neg h]; decide
theorem bd_nets (hI : y_IL a) {n : Nat} (hn : n ≤ 60) (h14 : a 14 = Int32.ofNat n) {σ f t : Int32} : 0 ≤ (sp_nets a σ f t n).toInt ∧ (sp_nets a σ f t n).toInt ≤ 600000 := by
  have h := s32_b (f := sp_net a σ f t) (B := 10000) (by decide) (n := n) (fun i hi => bd_net hI hn h14 hi) (by omega)
  exact ⟨h.1, Int.le_trans h.2 (by omega)⟩
/-! rates -/
theorem eq_idx (hT : y_RT I β a) (hK : y_RK I L β a b) {s : Nat} (hs : s < 6) : ∀ {n : Nat}, n ≤ 12 → cv_idx (I (β + 15)) (I (β + 4)) s n = sp_idx a s n
  | 0, _ => hT.2.2.2 s hs
  | n + 1, hn => by
    rw [cv_idx, sp_idx, eq_idx hT hK hs (by omega), hK.2.2.1 s hs n (by omega)]
theorem neg_b {x : Int32} : (0 ≤ x) ↔ x.toBitVec.msb = false := by
  rw [t_le, BitVec.msb_eq_toInt, decide_eq_false_iff_not, show (0 : Int32).toInt = 0 from by decide, Int32.toInt_toBitVec]
  omega
theorem xor_s {x : Int32} : (0 ≤ x ^^^ 100) ↔ 0 ≤ x := by
  rw [neg_b, neg_b, show (x ^^^ 100).toBitVec = x.toBitVec ^^^ (100 : Int32).toBitVec from rfl, BitVec.msb_xor, show (100 : Int32).toBitVec.msb = false from by decide, Bool.xor_false]
theorem div100 {x : Int32} : (x / 100).toInt = x.toInt.tdiv 100 := by
  rw [Int32.toInt_div_of_ne_right _ _ (by decide)]; rfl
theorem tm_np {x : Int} (h : x ≤ 0) : x.tmod 100 ≤ 0 := by
  have h1 := Int.tmod_nonneg 100 (show 0 ≤ -x by omega)
  rw [Int.neg_tmod] at h1
  omega
theorem by100 {x : Int32} : x_fdiv x 100 = (if x / 100 * 100 ≤ x then x / 100 else x / 100 + -1) := by
  have h1 := Int32.toInt_lt x
  have h2 := Int32.le_toInt x
  have h5 : (100 : Int32).toInt = 100 := by decide
  have h6 := Int.mul_tdiv_add_tmod x.toInt 100
  have h3 : (x / 100 * 100).toInt = x.toInt.tdiv 100 * 100 := by
    by_cases hx : 0 ≤ x.toInt
    · have h7 := Int.tmod_nonneg 100 hx
      have h8 := Int.tdiv_nonneg hx (show (0 : Int) ≤ 100 by decide)
      rw [t_mul (by rw [div100, h5]; omega) (by rw [div100, h5]; omega), div100, h5]
    · have h7 := tm_np (x := x.toInt) (by omega)
      have h8 := Int.tdiv_nonneg (show 0 ≤ -x.toInt by omega) (show (0 : Int) ≤ 100 by decide)
      rw [Int.neg_tdiv] at h8
      rw [t_mul (by rw [div100, h5]; omega) (by rw [div100, h5]; omega), div100, h5]
  unfold x_fdiv
  by_cases hx : 0 ≤ x
  · rw [if_pos (xor_s.mpr hx), if_pos]
    have h0 : 0 ≤ x.toInt := by rw [t_le] at hx; exact hx
    have h7 := Int.tmod_nonneg 100 h0
    rw [t_le, h3]
    omega
  · rw [if_neg (fun z => hx (xor_s.mp z))]
    have h0 : x.toInt < 0 := by
      rw [t_le, show (0 : Int32).toInt = 0 from by decide] at hx
      omega
    have h7 := tm_np (x := x.toInt) (by omega)
    by_cases hz : x / 100 * 100 = x
    · rw [if_pos hz, if_pos (by rw [hz]; exact Int32.le_refl _)]
    · rw [if_neg hz, if_neg]
      · rw [Int32.sub_eq_add_neg]
      · rw [t_le, h3]
        rw [t_eq, h3] at hz
        omega
theorem eq_adj (hT : y_RT I β a) (hK : y_RK I L β a b) {s : Nat} (hs : s < 6) {i : Int32} : cv_adj I β s i = a (288 + s) + sp_by a s i := by
  unfold cv_adj sp_by
  rw [by100, hK.2.1 s hs, hT.2.2.2 s hs, hT.2.1 3 (by decide)]
theorem eq_rate (hT : y_RT I β a) (hK : y_RK I L β a b) {s q : Nat} (hs : s < 6) (hq : q < 12) : cv_rate I β s q = sp_rateOf a s q := by
  unfold cv_rate sp_rateOf sp_rateBy
  rw [eq_idx hT hK hs (by omega), eq_adj hT hK hs, hT.2.2.1 s hs]
  by_cases h : a (20 + s) ≤ a (288 + s) + sp_by a s (sp_idx a s (q + 1))
  · rw [if_pos h, if_neg (i_nlt.mpr h)]
  · rw [if_neg h, if_pos (i_nle.mp h)]
/-! the factor -/
theorem bd_cs (hI : y_IL a) {n : Nat} (hn : n ≤ 60) (h14 : a 14 = Int32.ofNat n) {w : Nat} (hw : w = 2 ∨ w = 3) : 0 ≤ (sp_cs a w n).toInt ∧ (sp_cs a w n).toInt ≤ 600000 := by
  have h := s64_b (f := sp_chk a w) (B := 10000) (by decide) (n := n) (fun i hi => by
    have hk := IL_k hI hn h14 hi
    unfold sp_chk
    by_cases h : a (366 + 4 * i + 3) = -1
    · rw [if_pos h]; decide
    · rw [if_neg h, T_w]
      rcases hw with rfl | rfl
      · exact hk.2.1
      · have h3 := hk.2.2
        rw [t_eq, show (-1 : Int32).toInt = -1 from by decide] at h
        exact ⟨by have := h3.1; omega, h3.2⟩) (by omega)
  exact ⟨h.1, Int.le_trans h.2 (by omega)⟩
theorem eq_needs (hT : y_RT I β a) (hL : y_RL I β a) (hIT : y_IT a) (hI : y_IL a) {n : Nat} (hn : n ≤ 60) (h14 : a 14 = Int32.ofNat n) : cv_needs I β (I (β + 2) 4) ↔ sp_keeps a n := by
  have e1 : (I (β + 17) 1).toInt64 = sp_cs a 2 n := by have := hL.2.2.1; rw [h14, n_cl (by omega)] at this; exact this
  have e2 : (I (β + 17) 2).toInt64 = sp_cs a 3 n := by have := hL.2.2.2; rw [h14, n_cl (by omega)] at this; exact this
  have b1 := bd_cs hI hn h14 (w := 2) (Or.inl rfl)
  have b2 := bd_cs hI hn h14 (w := 3) (Or.inr rfl)
  have bt := hIT.2.2.2.2.2.1
  have f1 : (I (β + 17) 1).toInt = (sp_cs a 2 n).toInt := by rw [← e1, T_w]
  have f2 : (I (β + 17) 2).toInt = (sp_cs a 3 n).toInt := by rw [← e2, T_w]
  rw [hT.2.1 4 (by decide)]
  show (¬ I (β + 17) 1 = 0 ∧ ¬ I (β + 17) 2 = 0 ∧ I (β + 17) 1 * a 5 < (if 0 ≤ I (β + 17) 1 - I (β + 17) 2 then I (β + 17) 1 - I (β + 17) 2 else -(I (β + 17) 1 - I (β + 17) 2)) * 100) ↔ (0 < sp_cs a 2 n ∧ 0 < sp_cs a 3 n ∧ sp_cs a 2 n * (a 5).toInt64 < sp_apart (sp_cs a 2 n) (sp_cs a 3 n) * 100)
  have z0 : (0 : Int32).toInt = 0 := by decide
  have z1 : (100 : Int32).toInt = 100 := by decide
  have Z0 : (0 : Int64).toInt = 0 := by decide
  have Z1 : (100 : Int64).toInt = 100 := by decide
  generalize hS : sp_cs a 2 n = S at *
  generalize hC : sp_cs a 3 n = C at *
  have m1 := m_bd b1.1 b1.2 bt.1 bt.2
  have d1 : (I (β + 17) 1 - I (β + 17) 2).toInt = S.toInt - C.toInt := by rw [t_sub (by omega) (by omega), f1, f2]
  have k1 : (I (β + 17) 1 * a 5).toInt = S.toInt * (a 5).toInt := by rw [t_mul (by rw [f1]; omega) (by rw [f1]; omega), f1]
  have K1 : (S * (a 5).toInt64).toInt = S.toInt * (a 5).toInt := by rw [T_mul (by rw [T_w]; omega) (by rw [T_w]; omega), T_w]
  rw [t_eq, t_eq (x := I (β + 17) 2), z0, f1, f2, T_lt, T_lt (y := C), Z0]
  unfold sp_apart
  by_cases hd : S.toInt ≤ C.toInt
  · rw [if_pos (show S ≤ C from T_le.mpr hd)]
    have D1 : (C - S).toInt = C.toInt - S.toInt := T_sub (by omega) (by omega)
    have D2 : ((C - S) * 100).toInt = (C.toInt - S.toInt) * 100 := by rw [T_mul (by rw [D1, Z1]; omega) (by rw [D1, Z1]; omega), D1, Z1]
    have d2 : ((if 0 ≤ I (β + 17) 1 - I (β + 17) 2 then I (β + 17) 1 - I (β + 17) 2 else -(I (β + 17) 1 - I (β + 17) 2)) * 100).toInt = (C.toInt - S.toInt) * 100 := by
      by_cases h0 : (0 : Int32) ≤ I (β + 17) 1 - I (β + 17) 2
      · rw [if_pos h0]
        rw [t_le, d1, z0] at h0
        rw [t_mul (by rw [d1, z1]; omega) (by rw [d1, z1]; omega), d1, z1]
        omega
      · rw [if_neg h0]
        have n1 : (-(I (β + 17) 1 - I (β + 17) 2)).toInt = C.toInt - S.toInt := by rw [t_neg (by rw [d1]; omega), d1]; omega
        rw [t_mul (by rw [n1, z1]; omega) (by rw [n1, z1]; omega), n1, z1]
    rw [t_lt, k1, d2, T_lt, K1, D2]
    constructor
    · rintro ⟨h1, h2, h3⟩; exact ⟨by omega, by omega, h3⟩
    · rintro ⟨h1, h2, h3⟩; exact ⟨by omega, by omega, h3⟩
  · rw [if_neg (show ¬ S ≤ C from fun z => hd (T_le.mp z))]
    have D1 : (S - C).toInt = S.toInt - C.toInt := T_sub (by omega) (by omega)
    have D2 : ((S - C) * 100).toInt = (S.toInt - C.toInt) * 100 := by rw [T_mul (by rw [D1, Z1]; omega) (by rw [D1, Z1]; omega), D1, Z1]
    have d2 : ((if 0 ≤ I (β + 17) 1 - I (β + 17) 2 then I (β + 17) 1 - I (β + 17) 2 else -(I (β + 17) 1 - I (β + 17) 2)) * 100).toInt = (S.toInt - C.toInt) * 100 := by
      rw [if_pos (t_le.mpr (by rw [z0, d1]; omega)), t_mul (by rw [d1, z1]; omega) (by rw [d1, z1]; omega), d1, z1]
    rw [t_lt, k1, d2, T_lt, K1, D2]
    constructor
    · rintro ⟨h1, h2, h3⟩; exact ⟨by omega, by omega, h3⟩
    · rintro ⟨h1, h2, h3⟩; exact ⟨by omega, by omega, h3⟩
theorem eq_fB (hT : y_RT I β a) (hL : y_RL I β a) (hIT : y_IT a) (hI : y_IL a) {n : Nat} (hn : n ≤ 60) (h14 : a 14 = Int32.ofNat n) : cv_fB I β (I (β + 2) 4) = sp_fB a n := by
  have e := eq_needs hT hL hIT hI hn h14
  have e1 : (I (β + 17) 1).toInt64 = sp_cs a 2 n := by have := hL.2.2.1; rw [h14, n_cl (by omega)] at this; exact this
  unfold cv_fB sp_fB
  by_cases h : sp_keeps a n
  · rw [if_pos h, if_pos (e.mpr h), e1]
  · rw [if_neg h, if_neg (fun z => h (e.mp z))]
theorem eq_fC (hT : y_RT I β a) (hL : y_RL I β a) (hIT : y_IT a) (hI : y_IL a) {n : Nat} (hn : n ≤ 60) (h14 : a 14 = Int32.ofNat n) : cv_fC I β (I (β + 2) 4) = sp_fC a n := by
  have e := eq_needs hT hL hIT hI hn h14
  have e1 : (I (β + 17) 2).toInt64 = sp_cs a 3 n := by have := hL.2.2.2; rw [h14, n_cl (by omega)] at this; exact this
  unfold cv_fC sp_fC
  by_cases h : sp_keeps a n
  · rw [if_pos h, if_pos (e.mpr h), e1]
  · rw [if_neg h, if_neg (fun z => h (e.mp z))]
theorem bd_fB (hI : y_IL a) {n : Nat} (hn : n ≤ 60) (h14 : a 14 = Int32.ofNat n) : 0 < (sp_fB a n).toInt ∧ (sp_fB a n).toInt ≤ 600000 := by
  have b1 := bd_cs hI hn h14 (w := 2) (Or.inl rfl)
  unfold sp_fB
  by_cases h : sp_keeps a n
  · rw [if_pos h]
    have := T_lt.mp h.1
    rw [show (0 : Int64).toInt = 0 from by decide] at this
    exact ⟨this, b1.2⟩
  · rw [if_neg h]; decide
theorem fB_0 (hI : y_IL a) {n : Nat} (hn : n ≤ 60) (h14 : a 14 = Int32.ofNat n) : ¬ 10 * sp_fB a n = 0 := by
  have b := bd_fB hI hn h14
  rw [T_eq, T_mul (by rw [show (10 : Int64).toInt = 10 from by decide]; omega) (by rw [show (10 : Int64).toInt = 10 from by decide]; omega), show (10 : Int64).toInt = 10 from by decide, show (0 : Int64).toInt = 0 from by decide]
  omega
theorem eq_chg (hT : y_RT I β a) (hK : y_RK I L β a b) (hL : y_RL I β a) (hIT : y_IT a) (hI : y_IL a) {n : Nat} (hn : n ≤ 60) (h14 : a 14 = Int32.ofNat n) {m w : Nat} (hm : m < 36) (hw : w ≤ 6) : cv_chg I β m n w = sp_chg a m n w :=
  s64_c (fun s hs => by
    have ht : 0 ≤ (Int32.ofNat m + 1).toInt := by rw [n_inc, t_n (by omega)]; omega
    have bn := bd_nets hI hn h14 (σ := Int32.ofNat s) (f := Int32.ofNat m) (t := Int32.ofNat m + 1)
    unfold cv_chgAt sp_chgAt
    rw [eq_nets hL hn h14 ht, eq_rate hT hK (by omega) (by omega), eq_fB hT hL hIT hI hn h14, eq_fC hT hL hIT hI hn h14, Int64.mul_comm (sp_fB a n) 10]
    by_cases h : (sp_nets a (Int32.ofNat s) (Int32.ofNat m) (Int32.ofNat m + 1) n).toInt64 ≤ 0
    · rw [if_pos h]
      rw [T_le, T_w, show (0 : Int64).toInt = 0 from by decide] at h
      rw [show (sp_nets a (Int32.ofNat s) (Int32.ofNat m) (Int32.ofNat m + 1) n).toInt64 = 0 from T_eq.mpr (by rw [T_w, show (0 : Int64).toInt = 0 from by decide]; omega), Int64.zero_mul, Int64.zero_mul, Int64.zero_div]
    · rw [if_neg h])
theorem eq_rem (hK : y_RK I L β a b) (hL : y_RL I β a) (h3 : 3 ≤ a 0) {n : Nat} (hn : n ≤ 60) (h14 : a 14 = Int32.ofNat n) {s : Nat} (hs : s < 6) : cv_rem I β s n = sp_rem a s n := by
  unfold cv_rem sp_rem
  rw [eq_nets hL hn h14 (by decide), hK.1 h3 s hs, Int32.mul_comm]
theorem eq_rems (hK : y_RK I L β a b) (hL : y_RL I β a) (h3 : 3 ≤ a 0) {n : Nat} (hn : n ≤ 60) (h14 : a 14 = Int32.ofNat n) {m : Nat} (hm : m ≤ 6) : cv_rems I β n m = sp_rems a n m :=
  s32_c (fun _ hs => eq_rem hK hL h3 hn h14 (by omega))
end

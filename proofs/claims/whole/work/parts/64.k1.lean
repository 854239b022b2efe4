/-! ===== the class's readers by the model's rows (laid by wip/whole/src/k1.py) ===== -/
section
variable {X : x_X} {I : Nat → Nat → Int32} {L : Nat → Nat → Int64} {R : Nat → Nat → Option Nat}
def y_CS (N : Nat) (I : Nat → Nat → Int32) (L : Nat → Nat → Int64) (R : Nat → Nat → Option Nat) (β : Nat) (a : Nat → Int32) (b : Nat → Int64) : Prop := x_wf R ∧ x_sl β ∧ R 0 2 = some β ∧ y_Rep I L β a b ∧ y_Inv N a b
def y_Z (a : Nat → Int32) (Ns Np Nl Nm : Nat) : Prop := Ns ≤ 6 ∧ a 8 = Int32.ofNat Ns ∧ Np ≤ 30 ∧ a 9 = Int32.ofNat Np ∧ Nl ≤ 60 ∧ a 14 = Int32.ofNat Nl ∧ Nm < 36 ∧ a 13 = Int32.ofNat Nm
theorem Z_of {N : Nat} {a : Nat → Int32} {b : Nat → Int64} (h : y_Inv N a b) : ∃ Ns Np Nl Nm, y_Z a Ns Np Nl Nm := by
  obtain ⟨hT, hC, _, _, hK, hL, _⟩ := h
  obtain ⟨Ns, h1, h2⟩ := hT.2.2.2.2.2.2.2.2.1
  obtain ⟨Np, h3, h4, _⟩ := hC.1
  obtain ⟨Nl, h5, h6, _⟩ := hL
  obtain ⟨Nm, h7, h8⟩ := hK.1
  exact ⟨Ns, Np, Nl, Nm, h1, h2, h3, h4, h5, h6, h7, h8⟩
theorem h_R {N β : Nat} {a : Nat → Int32} {b : Nat → Int64} (H : y_CS N I L R β a b) : x_wf R := H.1
theorem h_β {N β : Nat} {a : Nat → Int32} {b : Nat → Int64} (H : y_CS N I L R β a b) : x_sl β := H.2.1
theorem h_S {N β : Nat} {a : Nat → Int32} {b : Nat → Int64} (H : y_CS N I L R β a b) : R 0 2 = some β := H.2.2.1
theorem h_ph {N β : Nat} {a : Nat → Int32} {b : Nat → Int64} (H : y_CS N I L R β a b) : I β 0 = a 0 := H.2.2.2.1.1
theorem h_T {N β : Nat} {a : Nat → Int32} {b : Nat → Int64} (H : y_CS N I L R β a b) : y_RT I β a := H.2.2.2.1.2.1
theorem h_C {N β : Nat} {a : Nat → Int32} {b : Nat → Int64} (H : y_CS N I L R β a b) : y_RC I β a := H.2.2.2.1.2.2.1
theorem h_B {N β : Nat} {a : Nat → Int32} {b : Nat → Int64} (H : y_CS N I L R β a b) : y_RB I β a := H.2.2.2.1.2.2.2.1
theorem h_K {N β : Nat} {a : Nat → Int32} {b : Nat → Int64} (H : y_CS N I L R β a b) : y_RK I L β a b := H.2.2.2.1.2.2.2.2.1
theorem h_L {N β : Nat} {a : Nat → Int32} {b : Nat → Int64} (H : y_CS N I L R β a b) : y_RL I β a := H.2.2.2.1.2.2.2.2.2
theorem h_IT {N β : Nat} {a : Nat → Int32} {b : Nat → Int64} (H : y_CS N I L R β a b) : y_IT a := H.2.2.2.2.1
theorem h_IC {N β : Nat} {a : Nat → Int32} {b : Nat → Int64} (H : y_CS N I L R β a b) : y_IC a := H.2.2.2.2.2.1
theorem h_IB {N β : Nat} {a : Nat → Int32} {b : Nat → Int64} (H : y_CS N I L R β a b) : y_IB N a := H.2.2.2.2.2.2.1
theorem h_IV {N β : Nat} {a : Nat → Int32} {b : Nat → Int64} (H : y_CS N I L R β a b) : y_IV a := H.2.2.2.2.2.2.2.1
theorem h_IK {N β : Nat} {a : Nat → Int32} {b : Nat → Int64} (H : y_CS N I L R β a b) : y_IK a := H.2.2.2.2.2.2.2.2.1
theorem h_IL {N β : Nat} {a : Nat → Int32} {b : Nat → Int64} (H : y_CS N I L R β a b) : y_IL a := H.2.2.2.2.2.2.2.2.2.1
theorem k_isSpecies {N β : Nat} {a : Nat → Int32} {b : Nat → Int64} (H : y_CS N I L R β a b) {v : Int32} : x_Cv X mX8_isSpecies [.ref 0, .int v] (I, L, R) 233 (.inl (some (.int (x_b (0 ≤ v ∧ v ≤ a 8 - 1)))), (I, L, R), 233) := by
  have e := c_X8_isSpecies (X := X) (L := L) (I := I) (v := v) (h_R H) (h_β H) (h_S H)
  rw [(h_T H).1] at e
  exact e
theorem k_isAny {N β : Nat} {a : Nat → Int32} {b : Nat → Int64} (H : y_CS N I L R β a b) {v : Int32} : x_Cv X mX8_isSpeciesOrNone [.ref 0, .int v] (I, L, R) 233 (.inl (some (.int (x_b (v = -1 ∨ (0 ≤ v ∧ v ≤ a 8 - 1))))), (I, L, R), 233) := by
  have e := c_X8_isSpeciesOrNone (X := X) (L := L) (I := I) (v := v) (h_R H) (h_β H) (h_S H)
  rw [(h_T H).1] at e
  exact e
theorem k_isLoad {N β : Nat} {a : Nat → Int32} {b : Nat → Int64} (H : y_CS N I L R β a b) {v : Int32} : x_Cv X mX8_isLoad [.ref 0, .int v] (I, L, R) 233 (.inl (some (.int (x_b (0 ≤ v ∧ v ≤ a 14 - 1)))), (I, L, R), 233) := by
  have e := c_X8_isLoad (X := X) (L := L) (I := I) (v := v) (h_R H) (h_β H) (h_S H)
  rw [(h_L H).1] at e
  exact e
theorem k_isBidding {N β : Nat} {a : Nat → Int32} {b : Nat → Int64} (H : y_CS N I L R β a b) : x_Cv X mX6_isBidding [.ref β] (I, L, R) 233 (.inl (some (.int (x_b (a 0 = 1 ∨ a 0 = 6)))), (I, L, R), 233) := by
  have e := c_X6_isBidding (X := X) (L := L) (I := I) (h_R H) (h_β H)
  rw [(h_ph H)] at e
  exact e
theorem ph_of {N : Nat} {a : Nat → Int32} {b : Nat → Int64} (h : y_Inv N a b) : ∃ P, P ≤ 8 ∧ a 0 = Int32.ofNat P := h.1.1
theorem opn {N : Nat} {a : Nat → Int32} {b : Nat → Int64} (h : y_Inv N a b) : (¬ a 0 = 0 ∧ ¬ (a 0 = 1 ∨ a 0 = 6)) ↔ (1 < a 0 ∧ ¬ a 0 = 6) := by
  obtain ⟨P, hP, e⟩ := h.1.1
  rw [e, kn_0, kn_1, kn_6, n_eq (by omega) (by omega), n_eq (by omega) (by omega), n_eq (by omega) (by omega), n_lt (by omega) (by omega)]
  omega
theorem x_bq {p q : Prop} [Decidable p] [Decidable q] (h : p ↔ q) : x_b p = x_b q := by
  by_cases g : p
  · rw [x_b1 g, x_b1 (h.mp g)]
  · rw [x_b0 g, x_b0 (fun z => g (h.mpr z))]
theorem k_hasOpenBids {N β : Nat} {a : Nat → Int32} {b : Nat → Int64} (H : y_CS N I L R β a b) : x_Cv X mX6_hasOpenBids [.ref β] (I, L, R) 233 (.inl (some (.int (x_b (1 < a 0 ∧ ¬ a 0 = 6)))), (I, L, R), 233) := by
  have e := c_X6_hasOpenBids (X := X) (L := L) (I := I) (h_R H) (h_β H)
  rw [(h_ph H)] at e
  rw [x_bq (opn H.2.2.2.2)] at e
  exact e
theorem k_hasContract {N β : Nat} {a : Nat → Int32} {b : Nat → Int64} (H : y_CS N I L R β a b) : x_Cv X mX6_hasContract [.ref β] (I, L, R) 233 (.inl (some (.int (x_b (3 ≤ a 0)))), (I, L, R), 233) := by
  have e := c_X6_hasContract (X := X) (L := L) (I := I) (h_R H) (h_β H)
  rw [(h_ph H)] at e
  exact e
theorem k_isSealed {N β : Nat} {a : Nat → Int32} {b : Nat → Int64} (H : y_CS N I L R β a b) {q : Nat} (hq : q < 8) : x_Cv X mX0_isSealed [.ref (β + 7), .int (Int32.ofNat q)] (I, L, R) 233 (.inl (some (.int (x_b (0 < a (224 + 8 * q + 7))))), (I, L, R), 233) := by
  have e := c_X0_isSealed (X := X) (L := L) (I := I) (h_R H) (h_β H) hq
  rw [(h_B H).2.2.2.1 q hq] at e
  exact e
theorem k_total {N β : Nat} {a : Nat → Int32} {b : Nat → Int64} (H : y_CS N I L R β a b) {Np : Nat} (hNp : Np ≤ 30) (hp : a 9 = Int32.ofNat Np) {σ : Int32} (hσ : x_spec σ) : x_Cv X mX2_total [.ref (β + 5), .int σ] (I, L, R) 233 (.inl (some (.long (sp_sum a σ Np))), (I, L, R), 233) := by
  have e := c_X2_total (X := X) (L := L) (I := I) (h_R H) (h_β H) hNp (show I (β + 5) 0 = Int32.ofNat Np by rw [(h_C H).1]; exact hp) hσ
  rw [eq_sum (h_C H) (h_IC H) hσ hNp] at e
  exact e
theorem k_volumeIn {N β : Nat} {a : Nat → Int32} {b : Nat → Int64} (H : y_CS N I L R β a b) {p : Nat} (hp : p < 30) {σ : Int32} (hσ : x_spec σ) : x_Cv X mX2_volumeIn [.ref (β + 5), .int (Int32.ofNat p), .int σ] (I, L, R) 233 (.inl (some (.long ((sp_in a σ p).toInt64))), (I, L, R), 233) := by
  have e := c_X2_volumeIn (X := X) (L := L) (I := I) (h_R H) (h_β H) hp hσ
  rw [eq_in (h_C H) (h_IC H) hσ hp] at e
  exact e
theorem k_spread {N β : Nat} {a : Nat → Int32} {b : Nat → Int64} (H : y_CS N I L R β a b) {Np : Nat} (hNp : Np ≤ 30) (hp : a 9 = Int32.ofNat Np) {σ : Int32} (hσ : x_spec σ) : x_Cv X mX2_spread [.ref (β + 5), .int σ] (I, L, R) 233 (.inl (some (.long (sp_spread a σ Np))), (I, L, R), 233) := by
  have e := c_X2_spread (X := X) (L := L) (I := I) (h_R H) (h_β H) hNp (show I (β + 5) 0 = Int32.ofNat Np by rw [(h_C H).1]; exact hp) hσ
  rw [eq_sum (h_C H) (h_IC H) hσ hNp, eq_sq (h_C H) (h_IC H) hσ hNp, (h_C H).1] at e
  exact e
theorem k_weightedError {N β : Nat} {a : Nat → Int32} {b : Nat → Int64} (H : y_CS N I L R β a b) {Np : Nat} (hNp : Np ≤ 30) (hp : a 9 = Int32.ofNat Np) {σ : Int32} (hσ : x_spec σ) : x_Cv X mX2_weightedError [.ref (β + 5), .int σ] (I, L, R) 233 (.inl (some (.long (40000 * sp_spread a σ Np * (a 9).toInt64))), (I, L, R), 233) := by
  have e := c_X2_weightedError (X := X) (L := L) (I := I) (h_R H) (h_β H) hNp (show I (β + 5) 0 = Int32.ofNat Np by rw [(h_C H).1]; exact hp) hσ
  rw [eq_sum (h_C H) (h_IC H) hσ hNp, eq_sq (h_C H) (h_IC H) hσ hNp, (h_C H).1] at e
  exact e
theorem k_allowance {N β : Nat} {a : Nat → Int32} {b : Nat → Int64} (H : y_CS N I L R β a b) {Np : Nat} (hNp : Np ≤ 30) (hp : a 9 = Int32.ofNat Np) {σ : Int32} (hσ : x_spec σ) {p z : Int32} : x_Cv X mX2_allowance [.ref (β + 5), .int σ, .int p, .int z] (I, L, R) 233 (.inl (some (.long (p.toInt64 * p.toInt64 * z.toInt64 * sp_sum a σ Np * sp_sum a σ Np * (a 9 - 1).toInt64))), (I, L, R), 233) := by
  have e := c_X2_allowance (X := X) (L := L) (I := I) (p := p) (z := z) (h_R H) (h_β H) hNp (show I (β + 5) 0 = Int32.ofNat Np by rw [(h_C H).1]; exact hp) hσ
  rw [eq_sum (h_C H) (h_IC H) hσ hNp, (h_C H).1] at e
  exact e
theorem k_valueOf {N β : Nat} {a : Nat → Int32} {b : Nat → Int64} (H : y_CS N I L R β a b) {q : Nat} (hq : q < 8) {Ns : Nat} (hNs : Ns ≤ 6) (hn : a 8 = Int32.ofNat Ns) : x_Cv X mX0_valueOf [.ref (β + 7), .int (Int32.ofNat q)] (I, L, R) 233 (.inl (some (.long (sp_val a q (-1) 100 Ns))), (I, L, R), 233) := by
  have e := c_X0_valueOf (X := X) (L := L) (I := I) (h_R H) (h_β H) hq
  rw [eq_val (h_B H) (h_IV H) hq hNs hn] at e
  exact e
theorem k_rateOf {N β : Nat} {a : Nat → Int32} {b : Nat → Int64} (H : y_CS N I L R β a b) {q : Nat} (hq : q < 8) {s : Nat} (hs : s < 6) : x_Cv X mX0_rateOf [.ref (β + 7), .int (Int32.ofNat q), .int (Int32.ofNat s)] (I, L, R) 233 (.inl (some (.int (a (224 + 8 * q + s)))), (I, L, R), 233) := by
  have e := c_X0_rateOf (X := X) (L := L) (I := I) (h_R H) (h_β H) hq hs
  rw [(h_B H).2.1 q hq s hs] at e
  exact e
theorem k_problemOf {N β : Nat} {a : Nat → Int32} {b : Nat → Int64} (H : y_CS N I L R β a b) {q : Nat} (hq : q < 8) {Ns : Nat} (hNs : Ns ≤ 6) (hn : a 8 = Int32.ofNat Ns) : x_Cv X mX0_problemOf [.ref (β + 7), .int (Int32.ofNat q), .ref (β + 1)] (I, L, R) 233 (.inl (some (.int (sp_prob a q Ns))), (I, L, R), 233) := by
  have e := c_X0_problemOf (X := X) (L := L) (I := I) (h_R H) (h_β H) hq hNs (show I (β + 1) 0 = Int32.ofNat Ns by rw [(h_T H).1]; exact hn)
  rw [eq_prob (h_T H) (h_B H) (h_IV H) hq hNs hn] at e
  exact e
theorem k_isValid {N β : Nat} {a : Nat → Int32} {b : Nat → Int64} (H : y_CS N I L R β a b) {q : Nat} (hq : q < 8) {Ns : Nat} (hNs : Ns ≤ 6) (hn : a 8 = Int32.ofNat Ns) : x_Cv X mX0_isValid [.ref (β + 7), .int (Int32.ofNat q), .ref (β + 1)] (I, L, R) 233 (.inl (some (.int (x_b (sp_prob a q Ns = 0)))), (I, L, R), 233) := by
  have e := c_X0_isValid (X := X) (L := L) (I := I) (h_R H) (h_β H) hq hNs (show I (β + 1) 0 = Int32.ofNat Ns by rw [(h_T H).1]; exact hn)
  rw [eq_prob (h_T H) (h_B H) (h_IV H) hq hNs hn] at e
  exact e
theorem k_winner {N β : Nat} {a : Nat → Int32} {b : Nat → Int64} (H : y_CS N I L R β a b) {Ns : Nat} (hNs : Ns ≤ 6) (hn : a 8 = Int32.ofNat Ns) : x_Cv X mX0_winner [.ref (β + 7), .ref (β + 1)] (I, L, R) 233 (.inl (some (.int (x_on (sp_win a (-1) 100 Ns 8)))), (I, L, R), 233) := by
  have e := c_X0_winner (X := X) (L := L) (I := I) (h_R H) (h_β H) hNs (show I (β + 1) 0 = Int32.ofNat Ns by rw [(h_T H).1]; exact hn)
  rw [eq_win (h_T H) (h_B H) (h_IV H) (h_IB H) hNs hn] at e
  exact e
theorem k_validBids {N β : Nat} {a : Nat → Int32} {b : Nat → Int64} (H : y_CS N I L R β a b) {Ns : Nat} (hNs : Ns ≤ 6) (hn : a 8 = Int32.ofNat Ns) : x_Cv X mX0_validBids [.ref (β + 7), .ref (β + 1)] (I, L, R) 233 (.inl (some (.int (Int32.ofNat (x_cnt (fun q => sp_prob a q Ns = 0) 8)))), (I, L, R), 233) := by
  have e := c_X0_validBids (X := X) (L := L) (I := I) (h_R H) (h_β H) hNs (show I (β + 1) 0 = Int32.ofNat Ns by rw [(h_T H).1]; exact hn)
  rw [cnt_c (f' := fun q => sp_prob a q Ns = 0) (fun q hq => by rw [eq_prob (h_T H) (h_B H) (h_IV H) hq hNs hn])] at e
  exact e
theorem k_rankOf_1 {N β : Nat} {a : Nat → Int32} {b : Nat → Int64} (H : y_CS N I L R β a b) {q : Nat} (hq : q < 8) {Ns : Nat} (hNs : Ns ≤ 6) (hn : a 8 = Int32.ofNat Ns) (h : sp_prob a q Ns = 0) : x_Cv X mX0_rankOf [.ref (β + 7), .int (Int32.ofNat q), .ref (β + 1)] (I, L, R) 233 (.inl (some (.int (Int32.ofNat (x_cnt (fun k => (¬ k = q ∧ sp_prob a k Ns = 0) ∧ sp_bef a k q (-1) 100 Ns) 8 + 1)))), (I, L, R), 233) := by
  have e := c_X0_rankOf_1 (X := X) (L := L) (I := I) (h_R H) (h_β H) hq hNs (show I (β + 1) 0 = Int32.ofNat Ns by rw [(h_T H).1]; exact hn) (by rw [eq_prob (h_T H) (h_B H) (h_IV H) hq hNs hn]; exact h)
  rw [cnt_c (f' := fun k => (¬ k = q ∧ sp_prob a k Ns = 0) ∧ sp_bef a k q (-1) 100 Ns) (fun k hk => by rw [eq_prob (h_T H) (h_B H) (h_IV H) hk hNs hn, eq_bef (h_B H) (h_IV H) (h_IB H) hk hq hNs hn])] at e
  exact e
theorem k_rankOf_0 {N β : Nat} {a : Nat → Int32} {b : Nat → Int64} (H : y_CS N I L R β a b) {q : Nat} (hq : q < 8) {Ns : Nat} (hNs : Ns ≤ 6) (hn : a 8 = Int32.ofNat Ns) (h : ¬ sp_prob a q Ns = 0) : x_Cv X mX0_rankOf [.ref (β + 7), .int (Int32.ofNat q), .ref (β + 1)] (I, L, R) 233 (.inl (some (.int (0))), (I, L, R), 233) := by
  have e := c_X0_rankOf_0 (X := X) (L := L) (I := I) (h_R H) (h_β H) hq hNs (show I (β + 1) 0 = Int32.ofNat Ns by rw [(h_T H).1]; exact hn) (by rw [eq_prob (h_T H) (h_B H) (h_IV H) hq hNs hn]; exact h)
  exact e
theorem k_netSum {N β : Nat} {a : Nat → Int32} {b : Nat → Int64} (H : y_CS N I L R β a b) {Nl : Nat} (hNl : Nl ≤ 60) (hl : a 14 = Int32.ofNat Nl) {σ f t : Int32} (ht : 0 ≤ t.toInt) : x_Cv X mX4_netSum [.ref (β + 17), .int σ, .int f, .int t] (I, L, R) 233 (.inl (some (.int (sp_nets a σ f t Nl))), (I, L, R), 233) := by
  have e := c_X4_netSum (X := X) (L := L) (I := I) (σ := σ) (f := f) (t := t) (h_R H) (h_β H) hNl (show I (β + 17) 0 = Int32.ofNat Nl by rw [(h_L H).1]; exact hl)
  rw [eq_nets (h_L H) hNl hl ht] at e
  exact e
theorem k_adjustedRate {N β : Nat} {a : Nat → Int32} {b : Nat → Int64} (H : y_CS N I L R β a b) {s : Nat} (hs : s < 6) {Q : Nat} (hQ : Q < 12) : x_Cv X mX1_adjustedRate [.ref (β + 12), .int (Int32.ofNat s), .int (Int32.ofNat Q), .ref (β + 1)] (I, L, R) 233 (.inl (some (.int (sp_rateOf a s Q))), (I, L, R), 233) := by
  have e := c_X1_adjustedRate (X := X) (L := L) (I := I) (h_R H) (h_β H) hs hQ
  rw [eq_rate (h_T H) (h_K H) hs hQ] at e
  exact e
theorem k_factorDividend {N β : Nat} {a : Nat → Int32} {b : Nat → Int64} (H : y_CS N I L R β a b) {Nl : Nat} (hNl : Nl ≤ 60) (hl : a 14 = Int32.ofNat Nl) : x_Cv X mX4_factorDividend [.ref (β + 17), .int (I (β + 2) 4)] (I, L, R) 233 (.inl (some (.long (sp_fC a Nl))), (I, L, R), 233) := by
  have e := c_X4_factorDividend (X := X) (L := L) (I := I) (t := I (β + 2) 4) (h_R H) (h_β H)
  rw [eq_fC (h_T H) (h_L H) (h_IT H) (h_IL H) hNl hl] at e
  exact e
theorem k_factorDivisor {N β : Nat} {a : Nat → Int32} {b : Nat → Int64} (H : y_CS N I L R β a b) {Nl : Nat} (hNl : Nl ≤ 60) (hl : a 14 = Int32.ofNat Nl) : x_Cv X mX4_factorDivisor [.ref (β + 17), .int (I (β + 2) 4)] (I, L, R) 233 (.inl (some (.long (sp_fB a Nl))), (I, L, R), 233) := by
  have e := c_X4_factorDivisor (X := X) (L := L) (I := I) (t := I (β + 2) 4) (h_R H) (h_β H)
  rw [eq_fB (h_T H) (h_L H) (h_IT H) (h_IL H) hNl hl] at e
  exact e
theorem k_chargeOf {N β : Nat} {a : Nat → Int32} {b : Nat → Int64} (H : y_CS N I L R β a b) {Nl : Nat} (hNl : Nl ≤ 60) (hl : a 14 = Int32.ofNat Nl) {Ns : Nat} (hNs : Ns ≤ 6) (hn : a 8 = Int32.ofNat Ns) {m : Nat} (hm : m < 36) : x_Cv X mX6_chargeOf [.ref β, .int (Int32.ofNat m)] (I, L, R) 233 (.inl (some (.long (sp_chg a m Nl Ns))), (I, L, R), 233) := by
  have e := c_X6_chargeOf (X := X) (L := L) (I := I) (h_R H) (h_β H) hNl (show I (β + 17) 0 = Int32.ofNat Nl by rw [(h_L H).1]; exact hl) hNs (show I (β + 1) 0 = Int32.ofNat Ns by rw [(h_T H).1]; exact hn) (by rw [eq_fB (h_T H) (h_L H) (h_IT H) (h_IL H) hNl hl, Int64.mul_comm]; exact fB_0 (h_IL H) hNl hl) hm
  rw [eq_chg (h_T H) (h_K H) (h_L H) (h_IT H) (h_IL H) hNl hl hm hNs] at e
  exact e
theorem k_remainingOf {N β : Nat} {a : Nat → Int32} {b : Nat → Int64} (H : y_CS N I L R β a b) {Nl : Nat} (hNl : Nl ≤ 60) (hl : a 14 = Int32.ofNat Nl) (h3 : 3 ≤ a 0) {s : Nat} (hs : s < 6) : x_Cv X mX6_remainingOf [.ref β, .int (Int32.ofNat s)] (I, L, R) 233 (.inl (some (.int (sp_rem a s Nl))), (I, L, R), 233) := by
  have e := c_X6_remainingOf (X := X) (L := L) (I := I) (h_R H) (h_β H) hNl (show I (β + 17) 0 = Int32.ofNat Nl by rw [(h_L H).1]; exact hl) hs
  rw [eq_rem (h_K H) (h_L H) h3 hNl hl hs] at e
  exact e
theorem k_remainingSum {N β : Nat} {a : Nat → Int32} {b : Nat → Int64} (H : y_CS N I L R β a b) {Nl : Nat} (hNl : Nl ≤ 60) (hl : a 14 = Int32.ofNat Nl) {Ns : Nat} (hNs : Ns ≤ 6) (hn : a 8 = Int32.ofNat Ns) (h3 : 3 ≤ a 0) : x_Cv X mX6_remainingSum [.ref β] (I, L, R) 233 (.inl (some (.int (sp_rems a Nl Ns))), (I, L, R), 233) := by
  have e := c_X6_remainingSum (X := X) (L := L) (I := I) (h_R H) (h_β H) hNl (show I (β + 17) 0 = Int32.ofNat Nl by rw [(h_L H).1]; exact hl) hNs (show I (β + 1) 0 = Int32.ofNat Ns by rw [(h_T H).1]; exact hn)
  rw [eq_rems (h_K H) (h_L H) h3 hNl hl hNs] at e
  exact e
theorem k_withInterest {N β : Nat} {a : Nat → Int32} {b : Nat → Int64} (H : y_CS N I L R β a b) {v : Int64} : x_Cv X mX6_withInterest [.ref β, .long v] (I, L, R) 233 (.inl (some (.long (if v ≤ 0 then v else v + v * (a 6).toInt64 / 1000))), (I, L, R), 233) := by
  have e := c_X6_withInterest (X := X) (L := L) (I := I) (v := v) (h_R H) (h_β H)
  rw [(h_T H).2.1 5 (by decide)] at e
  exact e
theorem k_isChecked {N β : Nat} {a : Nat → Int32} {b : Nat → Int64} (H : y_CS N I L R β a b) {Nl : Nat} (hNl : Nl ≤ 60) (hl : a 14 = Int32.ofNat Nl) {q : Nat} (hq : q < Nl) : x_Cv X mX4_isChecked [.ref (β + 17), .int (Int32.ofNat q)] (I, L, R) 233 (.inl (some (.int (x_b (¬ a (366 + 4 * q + 3) = -1)))), (I, L, R), 233) := by
  have e := c_X4_isChecked (X := X) (L := L) (I := I) (h_R H) (h_β H) (show q < 60 by omega)
  rw [(RL_k (h_L H) hNl hl hq).2.2.2] at e
  exact e
end

/-! ===== the class's whole state; the history's keeping ===== -/
section
def y_push (a : Nat → Int32) (b : Nat → Int64) (ks : Nat → (Nat → Int32) × (Nat → Int64)) : Nat → (Nat → Int32) × (Nat → Int64) := fun i => if i = 0 then (a, b) else ks (i - 1)
def y_SR (R : Nat → Nat → Option Nat) (β δ : Nat) (γ : Nat → Nat) : Prop := x_wf R ∧ x_sl β ∧ x_sl δ ∧ (∀ j, j < 8 → x_sl (γ j)) ∧ R 0 2 = some β ∧ R 0 3 = some δ ∧ (∀ j, j < 8 → R 4 j = some (γ j)) ∧ ¬ β = δ ∧ (∀ j, j < 8 → ¬ γ j = β ∧ ¬ γ j = δ) ∧ (∀ i j, i < 8 → j < 8 → ¬ i = j → ¬ γ i = γ j)
def y_RD (I : Nat → Nat → Int32) (bf : Nat → Int32) (bn : Nat) (ep : Int32) : Prop := bn ≤ 800 ∧ I 1 1 = Int32.ofNat bn ∧ (∀ j, j < bn → I 2 j = (bf j).toInt8.toInt32) ∧ I 1 2 = ep
def y_SB (I : Nat → Nat → Int32) (L : Nat → Nat → Int64) (R : Nat → Nat → Option Nat) (β δ : Nat) (γ : Nat → Nat) (ν : Nat) (a : Nat → Int32) (b : Nat → Int64) (kn : Nat) (ks : Nat → (Nat → Int32) × (Nat → Int64)) (bf : Nat → Int32) (bn : Nat) (ep : Int32) : Prop := y_SR R β δ γ ∧ ν < 8 ∧ I 3 1 = Int32.ofNat ν ∧ kn ≤ 8 ∧ I 3 2 = Int32.ofNat kn ∧ y_Rep I L β a b ∧ (∀ i, i < kn → y_Rep I L (γ ((ν + 8 - i) % 8)) (ks i).1 (ks i).2) ∧ y_RD I bf bn ep
variable {X : x_X} {I I' : Nat → Nat → Int32} {L L' : Nat → Nat → Int64} {R : Nat → Nat → Option Nat}
theorem Rep_c {β : Nat} {a : Nat → Int32} {b : Nat → Int64} (hI : ∀ k, k < 22 → I' (β + k) = I (β + k)) (hL : ∀ k, k < 22 → L' (β + k) = L (β + k)) (h : y_Rep I L β a b) : y_Rep I' L' β a b := by
  have e0 : I' β = I β := hI 0 (by decide)
  have e1 := hI 1 (by decide)
  have e2 := hI 2 (by decide)
  have e3 := hI 3 (by decide)
  have e4 := hI 4 (by decide)
  have e5 := hI 5 (by decide)
  have e6 := hI 6 (by decide)
  have e7 := hI 7 (by decide)
  have e8 := hI 8 (by decide)
  have e9 := hI 9 (by decide)
  have e10 := hI 10 (by decide)
  have e11 := hI 11 (by decide)
  have e12 := hI 12 (by decide)
  have e13 := hI 13 (by decide)
  have e14 := hI 14 (by decide)
  have e15 := hI 15 (by decide)
  have e17 := hI 17 (by decide)
  have e18 := hI 18 (by decide)
  have e19 := hI 19 (by decide)
  have e20 := hI 20 (by decide)
  have e21 := hI 21 (by decide)
  have l12 := hL 12 (by decide)
  have l16 := hL 16 (by decide)
  unfold y_Rep y_RT y_RC y_RB y_RK y_RL at h ⊢
  rw [e0, e1, e2, e3, e4, e5, e6, e7, e8, e9, e10, e11, e12, e13, e14, e15, e17, e18, e19, e20, e21, l12, l16]
  exact h
theorem Rep_cp {β γ : Nat} {a : Nat → Int32} {b : Nat → Int64} (hβ : x_sl β) (hγ : x_sl γ) (g : ¬ β = γ) (h60 : (a 14).toNatClampNeg ≤ 60) (h : y_Rep I L γ a b) : y_Rep (cp6_I I β γ) (cp6_L L β γ) β a b := by
  obtain ⟨h0, ⟨t1, t2, t3, t4⟩, ⟨c1, c2⟩, ⟨b1, b2, b3, b4, b5, b6⟩, ⟨k1, k2, k3, k4, k5, k6, k7, k8⟩, ⟨l1, l2, l3, l4⟩⟩ := h
  refine ⟨(cp_0_0 hβ hγ g).trans h0, ⟨(cp_1_0 hβ hγ g).trans t1, fun i hi => (cp_2 hβ hγ g hi).trans (t2 i hi), fun i hi => (cp_3 hβ hγ g hi).trans (t3 i hi), fun i hi => (cp_4 hβ hγ g hi).trans (t4 i hi)⟩, ⟨(cp_5_0 hβ hγ g).trans c1, fun i hi => (cp_6 hβ hγ g hi).trans (c2 i hi)⟩, ⟨fun i hi => (cp_8 hβ hγ g hi).trans (b1 i hi), fun q hq s hs => (cp_9 hβ hγ g (by omega)).trans (b2 q hq s hs), fun i hi => (cp_10 hβ hγ g hi).trans (b3 i hi), fun i hi => (cp_11 hβ hγ g hi).trans (b4 i hi), (cp_7_4 hβ hγ g).trans b5, (cp_7_5 hβ hγ g).trans b6⟩, ⟨fun z i hi => (cp_13 hβ hγ g hi).trans (k1 z i hi), fun i hi => (cp_14 hβ hγ g hi).trans (k2 i hi), fun s hs q hq => (cp_15 hβ hγ g (by omega)).trans (k3 s hs q hq), fun z => (cp_12_4 hβ hγ g).trans (k4 z), (cp_12_5 hβ hγ g).trans k5, (cp_12_6 hβ hγ g).trans k6, fun i hi => (cp_L16 hβ hγ g hi).trans (k7 i hi), (cp_L12 hβ hγ g).trans k8⟩, ⟨(cp_17_0 hβ hγ g).trans l1, fun k hk => ?_, ?_, ?_⟩⟩
  · obtain ⟨z1, z2, z3, z4⟩ := l2 k hk
    exact ⟨(cp_18 hβ hγ g (by omega)).trans z1, (cp_19 hβ hγ g (by omega)).trans z2, (cp_20 hβ hγ g (by omega)).trans z3, (cp_21 hβ hγ g (by omega)).trans z4⟩
  · rw [cp_17_1 hβ hγ g]; exact l3
  · rw [cp_17_2 hβ hγ g]; exact l4
theorem keep_ok {β δ : Nat} {γ : Nat → Nat} {ν : Nat} {a : Nat → Int32} {b : Nat → Int64} {kn : Nat} {ks : Nat → (Nat → Int32) × (Nat → Int64)} {bf : Nat → Int32} {bn : Nat} {ep : Int32} (S : y_SB I L R β δ γ ν a b kn ks bf bn ep) (h60 : (a 14).toNatClampNeg ≤ 60) : ∃ I1 L1, x_Cv X mX3_keep [.ref 3, .ref β] (I, L, R) 233 (.inl none, (I1, L1, R), 233) ∧ y_SB I1 L1 R β δ γ ((ν + 1) % 8) a b (min (kn + 1) 8) (y_push a b ks) bf bn ep ∧ (∀ q, 225 ≤ q → I1 q = I q ∧ L1 q = L q) ∧ (∀ k, k < 22 → I1 (β + k) = I (β + k) ∧ L1 (β + k) = L (β + k)) := by
  obtain ⟨⟨hR, hβ, hδ, hγ, h02, h03, h4, hbd, hgn, hgg⟩, hν, h31, hkn, h32, hrep, hks, hrd⟩ := S
  have hm : (ν + 1) % 8 < 8 := Nat.mod_lt _ (by decide)
  have hK := c_X3_keep (X := X) (I := I) (L := L) hR hβ (hγ _ hm) hν h31 (h4 _ hm)
  have x3 : cp6_I (kp_1 I ((ν + 1) % 8)) (γ ((ν + 1) % 8)) β 3 2 = Int32.ofNat kn := by
    rw [cp_o (fun j hj => sl_far (hγ _ hm) (Or.inl (by decide)) hj)]
    exact h32
  have x4 : x_min (cp6_I (kp_1 I ((ν + 1) % 8)) (γ ((ν + 1) % 8)) β 3 2 + 1) 8 = Int32.ofNat (min (kn + 1) 8) := by
    rw [x3, n_inc]
    unfold x_min
    by_cases h8 : kn = 8
    · subst h8; decide
    · rw [if_neg (by rw [kn_8, n_lt (by omega) (by omega)]; omega), Nat.min_eq_left (by omega)]
  have f1 : ∀ q, ¬ q = 3 → (∀ j, j < 22 → ¬ q = γ ((ν + 1) % 8) + j) → kp_2 (cp6_I (kp_1 I ((ν + 1) % 8)) (γ ((ν + 1) % 8)) β) (x_min (cp6_I (kp_1 I ((ν + 1) % 8)) (γ ((ν + 1) % 8)) β 3 2 + 1) 8) q = I q := by
    intro q h3 hj
    unfold kp_2
    rw [x_up_ne _ _ h3, cp_o hj]
    unfold kp_1
    rw [x_up_ne _ _ h3]
  have f2 : ∀ β', x_sl β' → ¬ β' = γ ((ν + 1) % 8) → ∀ k, k < 22 → kp_2 (cp6_I (kp_1 I ((ν + 1) % 8)) (γ ((ν + 1) % 8)) β) (x_min (cp6_I (kp_1 I ((ν + 1) % 8)) (γ ((ν + 1) % 8)) β 3 2 + 1) 8) (β' + k) = I (β' + k) ∧ cp6_L L (γ ((ν + 1) % 8)) β (β' + k) = L (β' + k) := by
    intro β' hs hne k hk
    have hj : ∀ j, j < 22 → ¬ β' + k = γ ((ν + 1) % 8) + j := fun j hj => sl_ne (hγ _ hm) hs (fun z => hne z.symm) hk hj
    exact ⟨f1 _ (fun z => sl_far hs (Or.inl (by decide)) hk z.symm) hj, cp_Lo hj⟩
  refine ⟨_, _, hK, ⟨⟨hR, hβ, hδ, hγ, h02, h03, h4, hbd, hgn, hgg⟩, hm, ?_, by omega, ?_, ?_, ?_, ?_⟩, ?_, ?_⟩
  · show kp_2 _ _ 3 1 = _
    unfold kp_2
    rw [x_up_self, x_up_ne _ _ (by decide), cp_o (fun j hj => sl_far (hγ _ hm) (Or.inl (by decide)) hj)]
    unfold kp_1
    rw [x_up_self, x_up_self]
  · rw [x4]
    show kp_2 _ _ 3 2 = _
    unfold kp_2
    rw [x_up_self, x_up_self]
  · exact Rep_c (fun k hk => (f2 β hβ (fun z => (hgn _ hm).1 z.symm) k hk).1) (fun k hk => (f2 β hβ (fun z => (hgn _ hm).1 z.symm) k hk).2) hrep
  · intro i hi
    by_cases hi0 : i = 0
    · subst hi0
      rw [show ((ν + 1) % 8 + 8 - 0) % 8 = (ν + 1) % 8 by omega]
      show y_Rep _ _ _ (y_push a b ks 0).1 (y_push a b ks 0).2
      unfold y_push
      rw [if_pos rfl]
      have r1 : y_Rep (kp_1 I ((ν + 1) % 8)) L β a b := Rep_c (fun k hk => by unfold kp_1; exact x_up_ne _ _ (fun z => sl_far hβ (Or.inl (by decide)) hk z.symm)) (fun k hk => rfl) hrep
      have r2 := Rep_cp (hγ _ hm) hβ (hgn _ hm).1 h60 r1
      exact Rep_c (fun k hk => by unfold kp_2; exact x_up_ne _ _ (fun z => sl_far (hγ _ hm) (Or.inl (by decide)) hk z.symm)) (fun k hk => rfl) r2
    · have hi8 : i < 8 := by omega
      have hw : ((ν + 1) % 8 + 8 - i) % 8 < 8 := Nat.mod_lt _ (by decide)
      have hne : ¬ γ (((ν + 1) % 8 + 8 - i) % 8) = γ ((ν + 1) % 8) := hgg _ _ hw hm (by omega)
      have hr := hks (i - 1) (by omega)
      rw [show (ν + 8 - (i - 1)) % 8 = ((ν + 1) % 8 + 8 - i) % 8 by omega] at hr
      show y_Rep _ _ _ (y_push a b ks i).1 (y_push a b ks i).2
      unfold y_push
      rw [if_neg hi0]
      exact Rep_c (fun k hk => (f2 _ (hγ _ hw) hne k hk).1) (fun k hk => (f2 _ (hγ _ hw) hne k hk).2) hr
  · obtain ⟨d1, d2, d3, d4⟩ := hrd
    have g1 := f1 1 (by decide) (fun j hj => sl_far (hγ _ hm) (Or.inl (by decide)) hj)
    have g2 := f1 2 (by decide) (fun j hj => sl_far (hγ _ hm) (Or.inl (by decide)) hj)
    unfold y_RD
    rw [g1, g2]
    exact ⟨d1, d2, d3, d4⟩
  · intro q hq
    have hj : ∀ j, j < 22 → ¬ q = γ ((ν + 1) % 8) + j := fun j hj => sl_far (hγ _ hm) (Or.inr hq) hj
    exact ⟨f1 q (by omega) hj, cp_Lo hj⟩
  · exact f2 β hβ (fun z => (hgn _ hm).1 z.symm)
/-- the sale at β changes, nothing else -/
theorem SB_u {β δ : Nat} {γ : Nat → Nat} {ν : Nat} {a a' : Nat → Int32} {b b' : Nat → Int64} {kn : Nat} {ks : Nat → (Nat → Int32) × (Nat → Int64)} {bf : Nat → Int32} {bn : Nat} {ep : Int32} (S : y_SB I L R β δ γ ν a b kn ks bf bn ep) (hI : ∀ q, (∀ j, j < 22 → ¬ q = β + j) → I' q = I q ∧ L' q = L q) (hrep' : y_Rep I' L' β a' b') : y_SB I' L' R β δ γ ν a' b' kn ks bf bn ep := by
  obtain ⟨⟨hR, hβ, hδ, hγ, h02, h03, h4, hbd, hgn, hgg⟩, hν, h31, hkn, h32, hrep, hks, hrd⟩ := S
  have f : ∀ q, q < 5 → I' q = I q := fun q hq => (hI q (fun j hj => sl_far hβ (Or.inl hq) hj)).1
  refine ⟨⟨hR, hβ, hδ, hγ, h02, h03, h4, hbd, hgn, hgg⟩, hν, by rw [f 3 (by decide)]; exact h31, hkn, by rw [f 3 (by decide)]; exact h32, hrep', fun i hi => ?_, ?_⟩
  · have hw : (ν + 8 - i) % 8 < 8 := Nat.mod_lt _ (by decide)
    exact Rep_c (fun k hk => (hI _ (fun j hj => sl_ne hβ (hγ _ hw) (fun z => (hgn _ hw).1 z.symm) hk hj)).1) (fun k hk => (hI _ (fun j hj => sl_ne hβ (hγ _ hw) (fun z => (hgn _ hw).1 z.symm) hk hj)).2) (hks i hi)
  · obtain ⟨d1, d2, d3, d4⟩ := hrd
    unfold y_RD
    rw [f 1 (by decide), f 2 (by decide)]
    exact ⟨d1, d2, d3, d4⟩
end

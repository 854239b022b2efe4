/-! ===== changes of both, twelfth: advertise, undo (laid by wip/whole/src/w12.py) ===== -/
section
variable {X : x_X} {I : Nat → Nat → Int32} {L : Nat → Nat → Int64} {R : Nat → Nat → Option Nat} {N : Nat}
section
variable {a : Nat → Int32} {b : Nat → Int64} {β : Nat} {g : Nat → Int32} {m n : Nat} {x : Int32}
theorem ad_j {j : Nat} (h0 : ¬ j = 0) (h10 : ¬ j = 10) (hm : ¬ (m ≤ j ∧ j < m + n)) (hz : ¬ (224 ≤ j ∧ j < 224 + 64)) : (va_up (va_up (y_z (y_put a m g n) 224 64) 10 0) 0 x) j = a j := by rw [x_up_ne _ _ h0, x_up_ne _ _ h10, z_o hz, pt_o hm]
theorem ad_0 : (va_up (va_up (y_z (y_put a m g n) 224 64) 10 0) 0 x) 0 = x := x_up_self _ _ _
theorem ad_10 : (va_up (va_up (y_z (y_put a m g n) 224 64) 10 0) 0 x) 10 = 0 := by rw [x_up_ne _ _ (by decide), x_up_self]
theorem ad_b {j : Nat} (h : 224 ≤ j ∧ j < 224 + 64) : (va_up (va_up (y_z (y_put a m g n) 224 64) 10 0) 0 x) j = 0 := by rw [x_up_ne _ _ (by omega), x_up_ne _ _ (by omega), z_i h]
theorem ad_m {s : Nat} (hs : s < n) (hm : 16 ≤ m) (hm2 : m + s < 224) : (va_up (va_up (y_z (y_put a m g n) 224 64) 10 0) 0 x) (m + s) = g s := by rw [x_up_ne _ _ (by omega), x_up_ne _ _ (by omega), z_o (by omega), pt_i hs]
theorem IB_ad {M : Nat} (hx : ¬ x = 0) : y_IB M (va_up (va_up (y_z (y_put a m g n) 224 64) 10 0) 0 x) := by
  have z0 : (0 : Int32).toInt = 0 := by decide
  unfold y_IB
  rw [ad_10, ad_0]
  refine ⟨⟨by decide, by rw [z0]; omega⟩, fun q hq => ?_, fun q j hq hj hne hp => ?_, fun z => absurd z hx⟩
  · rw [ad_b (show 224 ≤ 224 + 8 * q + 6 ∧ _ by omega), ad_b (show 224 ≤ 224 + 8 * q + 7 ∧ _ by omega)]
    exact ⟨fun s hs => by rw [ad_b (by omega)]; exact ⟨by decide, by decide⟩, ⟨by decide, by decide⟩, ⟨by decide, by decide⟩⟩
  · rw [ad_b (show 224 ≤ 224 + 8 * q + 7 ∧ _ by omega)] at hp
    exact absurd hp (by decide)
theorem IV_ad (h : y_IV a) (h8 : a 8 = Int32.ofNat n) (hn : n ≤ 6) (hm : m = 32 ∨ m = 38) (hg : ∀ s, s < 6 → y_in (g s) 0 100000) : y_IV (va_up (va_up (y_z (y_put a m g n) 224 64) 10 0) 0 x) := by
  intro s hs
  obtain ⟨h1, h2, h3⟩ := h s hs
  rw [ad_j (show ¬ 8 = 0 by decide) (by decide) (by omega) (by omega)]
  have e8 : (a 8).toInt = (n : Int) := by rw [h8, t_n (by omega)]
  rw [e8] at h3 ⊢
  rcases hm with rfl | rfl
  · rw [show (va_up (va_up (y_z (y_put a 32 g n) 224 64) 10 0) 0 x) (38 + s) = a (38 + s) from ad_j (by omega) (by omega) (by omega) (by omega)]
    by_cases c : s < n
    · rw [ad_m c (by omega) (by omega)]
      exact ⟨hg s hs, h2, fun z => by omega⟩
    · rw [ad_j (by omega) (by omega) (by omega) (by omega)]
      exact ⟨h1, h2, h3⟩
  · rw [show (va_up (va_up (y_z (y_put a 38 g n) 224 64) 10 0) 0 x) (32 + s) = a (32 + s) from ad_j (by omega) (by omega) (by omega) (by omega)]
    by_cases c : s < n
    · rw [ad_m c (by omega) (by omega)]
      exact ⟨h1, hg s hs, fun z => by omega⟩
    · rw [ad_j (by omega) (by omega) (by omega) (by omega)]
      exact ⟨h1, h2, h3⟩
theorem Inv_ad {M P : Nat} (hP : P ≤ 8) (hx : x = Int32.ofNat P) (h0 : ¬ x = 0) (hx3 : 3 ≤ x → 3 ≤ a 0) (hx4 : x = 4 ↔ a 0 = 4) (hx8 : ¬ x = 8) (h8 : a 8 = Int32.ofNat n) (hn : n ≤ 6) (hm : m = 32 ∨ m = 38) (hg : ∀ s, s < 6 → y_in (g s) 0 100000) (h : y_Inv N a b) : y_Inv M (va_up (va_up (y_z (y_put a m g n) 224 64) 10 0) 0 x) b := by
  obtain ⟨hT, hC, hB, hV, hK, hL, ha, hb⟩ := h
  exact ⟨IT_c ⟨P, hP, by rw [ad_0]; exact hx⟩ (fun j hj => ad_j (by omega) (by omega) (by omega) (by omega)) hT, IC_c (fun j hj => ad_j (by omega) (by omega) (by omega) (by omega)) hC, IB_ad h0, IV_ad hV h8 hn hm hg, IK_ph (fun j hj => ad_j (by omega) (by omega) (by omega) (by omega)) (by rw [ad_0]; exact hx3) (by rw [ad_0]; exact hx4) (by rw [ad_0]; exact hx8) hK, IL_c (fun j hj => ad_j (by omega) (by omega) (by omega) (by omega)) hL, fun j hj => (ad_j (by omega) (by omega) (by omega) (by omega)).trans (ha j hj), hb⟩
theorem Rep_ad0 (h0 : a 0 = 0) (h60 : (a 14).toNatClampNeg ≤ 60) (hn : n ≤ 6) (hB0 : y_IB N a) (h : y_Rep I L β a b) : y_Rep (va_up (va_up I (β + 8) (x_mix g (I (β + 8)) n)) β (va_up (I β) 0 1)) L β (va_up (va_up (y_z (y_put a 32 g n) 224 64) 10 0) 0 1) b := by
  obtain ⟨_, hT, hC, hB, hK, hL⟩ := h
  have u : ∀ k, 1 ≤ k → ¬ k = 8 → (va_up (va_up I (β + 8) (x_mix g (I (β + 8)) n)) β (va_up (I β) 0 1)) (β + k) = I (β + k) := fun k h1 h2 => by rw [x_up_ne _ _ (by omega), x_up_ne _ _ (by omega)]
  have e8 : (va_up (va_up I (β + 8) (x_mix g (I (β + 8)) n)) β (va_up (I β) 0 1)) (β + 8) = x_mix g (I (β + 8)) n := by rw [x_up_ne _ _ (by omega), x_up_self]
  have zz := hB0.2.2.2 h0
  have n6 : ¬ 6 ≤ a 0 := by rw [h0]; decide
  refine ⟨by rw [x_up_self, x_up_self, ad_0], RT_c (fun k z1 z2 => u k (by omega) (by omega)) (fun j hj => ad_j (by omega) (by omega) (by omega) (by omega)) hT, RC_c (fun k z1 z2 => u k (by omega) (by omega)) (fun j hj => ad_j (by omega) (by omega) (by omega) (by omega)) hC, ?_, ?_, RL_c (fun k z1 z2 => u k (by omega) (by omega)) (fun j hj => ad_j (by omega) (by omega) (by omega) (by omega)) h60 hL⟩
  · obtain ⟨b1, b2, b3, b4, b5, b6⟩ := hB
    unfold y_RB
    rw [e8, u 7 (by omega) (by omega), u 9 (by omega) (by omega), u 10 (by omega) (by omega), u 11 (by omega) (by omega), ad_10, ad_0, if_neg (show ¬ (6 : Int32) ≤ 1 by decide)]
    rw [if_neg n6] at b6
    refine ⟨fun s hs => ?_, fun q hq s hs => ?_, fun q hq => ?_, fun q hq => ?_, b5.trans zz.1, b6⟩
    · have ev : sp_vol (va_up (va_up (y_z (y_put a 32 g n) 224 64) 10 0) 0 1) s = (va_up (va_up (y_z (y_put a 32 g n) 224 64) 10 0) 0 1) (32 + s) := by
        unfold sp_vol
        rw [ad_0, if_neg (show ¬ (6 : Int32) ≤ 1 by decide)]
      rw [ev]
      by_cases c : s < n
      · rw [ad_m c (by omega) (by omega)]; exact if_pos c
      · rw [ad_j (by omega) (by omega) (by omega) (by omega), mix_ge (by omega), b1 s hs]
        unfold sp_vol
        rw [if_neg n6]
    · rw [ad_b (by omega), b2 q hq s hs]
      have := zz.2 (8 * q + s) (by omega)
      rw [show 224 + (8 * q + s) = 224 + 8 * q + s by omega] at this
      exact this
    · rw [ad_b (by omega), b3 q hq]
      have := zz.2 (8 * q + 6) (by omega)
      rw [show 224 + (8 * q + 6) = 224 + 8 * q + 6 by omega] at this
      exact this
    · rw [ad_b (by omega), b4 q hq]
      have := zz.2 (8 * q + 7) (by omega)
      rw [show 224 + (8 * q + 7) = 224 + 8 * q + 7 by omega] at this
      exact this
  · obtain ⟨k1, k2, k3, k4, k5, k6, k7, k8⟩ := hK
    unfold y_RK
    rw [u 12 (by omega) (by omega), u 13 (by omega) (by omega), u 14 (by omega) (by omega), u 15 (by omega) (by omega), ad_0, ad_j (show ¬ 15 = 0 by decide) (by decide) (by omega) (by omega), ad_j (show ¬ 13 = 0 by decide) (by decide) (by omega) (by omega)]
    exact ⟨fun z => absurd z (by decide), fun s hs => by rw [ad_j (by omega) (by omega) (by omega) (by omega)]; exact k2 s hs, fun s hs q hq => by rw [ad_j (by omega) (by omega) (by omega) (by omega)]; exact k3 s hs q hq, fun z => absurd z (by decide), k5, k6, k7, k8⟩
theorem Rep_ad5 (h5 : a 0 = 5) (h60 : (a 14).toNatClampNeg ≤ 60) (hn : n ≤ 6) (h8 : a 8 = Int32.ofNat n) (hV : y_IV a) (h : y_Rep I L β a b) : y_Rep (va_up (va_up (va_up (va_up (va_up (va_up (va_up (va_up I (β + 8) (y_z (I (β + 8)) 0 6)) (β + 9) (y_z (I (β + 9)) 0 48)) (β + 10) (y_z (I (β + 10)) 0 8)) (β + 11) (y_z (I (β + 11)) 0 8)) (β + 7) (va_up (va_up (I (β + 7)) 4 0) 5 (-1))) (β + 8) (x_mix g ((va_up (va_up (va_up (va_up (va_up I (β + 8) (y_z (I (β + 8)) 0 6)) (β + 9) (y_z (I (β + 9)) 0 48)) (β + 10) (y_z (I (β + 10)) 0 8)) (β + 11) (y_z (I (β + 11)) 0 8)) (β + 7) (va_up (va_up (I (β + 7)) 4 0) 5 (-1))) (β + 8)) n)) (β + 7) (va_up ((va_up (va_up (va_up (va_up (va_up I (β + 8) (y_z (I (β + 8)) 0 6)) (β + 9) (y_z (I (β + 9)) 0 48)) (β + 10) (y_z (I (β + 10)) 0 8)) (β + 11) (y_z (I (β + 11)) 0 8)) (β + 7) (va_up (va_up (I (β + 7)) 4 0) 5 (-1))) (β + 7)) 5 (a 11))) β (va_up ((va_up (va_up (va_up (va_up (va_up I (β + 8) (y_z (I (β + 8)) 0 6)) (β + 9) (y_z (I (β + 9)) 0 48)) (β + 10) (y_z (I (β + 10)) 0 8)) (β + 11) (y_z (I (β + 11)) 0 8)) (β + 7) (va_up (va_up (I (β + 7)) 4 0) 5 (-1))) β) 0 6)) L β (va_up (va_up (y_z (y_put a 38 g n) 224 64) 10 0) 0 6) b := by
  obtain ⟨_, hT, hC, hB, hK, hL⟩ := h
  have u : ∀ k, 1 ≤ k → k < 7 ∨ 11 < k → (va_up (va_up (va_up (va_up (va_up (va_up (va_up (va_up I (β + 8) (y_z (I (β + 8)) 0 6)) (β + 9) (y_z (I (β + 9)) 0 48)) (β + 10) (y_z (I (β + 10)) 0 8)) (β + 11) (y_z (I (β + 11)) 0 8)) (β + 7) (va_up (va_up (I (β + 7)) 4 0) 5 (-1))) (β + 8) (x_mix g ((va_up (va_up (va_up (va_up (va_up I (β + 8) (y_z (I (β + 8)) 0 6)) (β + 9) (y_z (I (β + 9)) 0 48)) (β + 10) (y_z (I (β + 10)) 0 8)) (β + 11) (y_z (I (β + 11)) 0 8)) (β + 7) (va_up (va_up (I (β + 7)) 4 0) 5 (-1))) (β + 8)) n)) (β + 7) (va_up ((va_up (va_up (va_up (va_up (va_up I (β + 8) (y_z (I (β + 8)) 0 6)) (β + 9) (y_z (I (β + 9)) 0 48)) (β + 10) (y_z (I (β + 10)) 0 8)) (β + 11) (y_z (I (β + 11)) 0 8)) (β + 7) (va_up (va_up (I (β + 7)) 4 0) 5 (-1))) (β + 7)) 5 (a 11))) β (va_up ((va_up (va_up (va_up (va_up (va_up I (β + 8) (y_z (I (β + 8)) 0 6)) (β + 9) (y_z (I (β + 9)) 0 48)) (β + 10) (y_z (I (β + 10)) 0 8)) (β + 11) (y_z (I (β + 11)) 0 8)) (β + 7) (va_up (va_up (I (β + 7)) 4 0) 5 (-1))) β) 0 6)) (β + k) = I (β + k) := fun k h1 h2 => by rw [x_up_ne _ _ (by omega), x_up_ne _ _ (by omega), x_up_ne _ _ (by omega), x_up_ne _ _ (by omega), x_up_ne _ _ (by omega), x_up_ne _ _ (by omega), x_up_ne _ _ (by omega), x_up_ne _ _ (by omega)]
  have n5 : ¬ 6 ≤ a 0 := by rw [h5]; decide
  refine ⟨by rw [x_up_self, x_up_self, ad_0], RT_c (fun k z1 z2 => u k (by omega) (by omega)) (fun j hj => ad_j (by omega) (by omega) (by omega) (by omega)) hT, RC_c (fun k z1 z2 => u k (by omega) (by omega)) (fun j hj => ad_j (by omega) (by omega) (by omega) (by omega)) hC, ?_, RK_c (fun k z1 z2 => u k (by omega) (by omega)) rfl rfl (fun _ => by rw [h5]; decide) (fun j hj => ad_j (by omega) (by omega) (by omega) (by omega)) hK, RL_c (fun k z1 z2 => u k (by omega) (by omega)) (fun j hj => ad_j (by omega) (by omega) (by omega) (by omega)) h60 hL⟩
  have e8 : (va_up (va_up (va_up (va_up (va_up (va_up (va_up (va_up I (β + 8) (y_z (I (β + 8)) 0 6)) (β + 9) (y_z (I (β + 9)) 0 48)) (β + 10) (y_z (I (β + 10)) 0 8)) (β + 11) (y_z (I (β + 11)) 0 8)) (β + 7) (va_up (va_up (I (β + 7)) 4 0) 5 (-1))) (β + 8) (x_mix g ((va_up (va_up (va_up (va_up (va_up I (β + 8) (y_z (I (β + 8)) 0 6)) (β + 9) (y_z (I (β + 9)) 0 48)) (β + 10) (y_z (I (β + 10)) 0 8)) (β + 11) (y_z (I (β + 11)) 0 8)) (β + 7) (va_up (va_up (I (β + 7)) 4 0) 5 (-1))) (β + 8)) n)) (β + 7) (va_up ((va_up (va_up (va_up (va_up (va_up I (β + 8) (y_z (I (β + 8)) 0 6)) (β + 9) (y_z (I (β + 9)) 0 48)) (β + 10) (y_z (I (β + 10)) 0 8)) (β + 11) (y_z (I (β + 11)) 0 8)) (β + 7) (va_up (va_up (I (β + 7)) 4 0) 5 (-1))) (β + 7)) 5 (a 11))) β (va_up ((va_up (va_up (va_up (va_up (va_up I (β + 8) (y_z (I (β + 8)) 0 6)) (β + 9) (y_z (I (β + 9)) 0 48)) (β + 10) (y_z (I (β + 10)) 0 8)) (β + 11) (y_z (I (β + 11)) 0 8)) (β + 7) (va_up (va_up (I (β + 7)) 4 0) 5 (-1))) β) 0 6)) (β + 8) = x_mix g (y_z (I (β + 8)) 0 6) n := by
    rw [x_up_ne _ _ (show β + 8 ≠ β by omega), x_up_ne _ _ (show β + 8 ≠ β + 7 by omega), x_up_self]
    congr 1
    rw [x_up_ne _ _ (show β + 8 ≠ β + 7 by omega), x_up_ne _ _ (show β + 8 ≠ β + 11 by omega), x_up_ne _ _ (show β + 8 ≠ β + 10 by omega), x_up_ne _ _ (show β + 8 ≠ β + 9 by omega), x_up_self]
  have e9 : (va_up (va_up (va_up (va_up (va_up (va_up (va_up (va_up I (β + 8) (y_z (I (β + 8)) 0 6)) (β + 9) (y_z (I (β + 9)) 0 48)) (β + 10) (y_z (I (β + 10)) 0 8)) (β + 11) (y_z (I (β + 11)) 0 8)) (β + 7) (va_up (va_up (I (β + 7)) 4 0) 5 (-1))) (β + 8) (x_mix g ((va_up (va_up (va_up (va_up (va_up I (β + 8) (y_z (I (β + 8)) 0 6)) (β + 9) (y_z (I (β + 9)) 0 48)) (β + 10) (y_z (I (β + 10)) 0 8)) (β + 11) (y_z (I (β + 11)) 0 8)) (β + 7) (va_up (va_up (I (β + 7)) 4 0) 5 (-1))) (β + 8)) n)) (β + 7) (va_up ((va_up (va_up (va_up (va_up (va_up I (β + 8) (y_z (I (β + 8)) 0 6)) (β + 9) (y_z (I (β + 9)) 0 48)) (β + 10) (y_z (I (β + 10)) 0 8)) (β + 11) (y_z (I (β + 11)) 0 8)) (β + 7) (va_up (va_up (I (β + 7)) 4 0) 5 (-1))) (β + 7)) 5 (a 11))) β (va_up ((va_up (va_up (va_up (va_up (va_up I (β + 8) (y_z (I (β + 8)) 0 6)) (β + 9) (y_z (I (β + 9)) 0 48)) (β + 10) (y_z (I (β + 10)) 0 8)) (β + 11) (y_z (I (β + 11)) 0 8)) (β + 7) (va_up (va_up (I (β + 7)) 4 0) 5 (-1))) β) 0 6)) (β + 9) = y_z (I (β + 9)) 0 48 := by rw [x_up_ne _ _ (show β + 9 ≠ β by omega), x_up_ne _ _ (show β + 9 ≠ β + 7 by omega), x_up_ne _ _ (show β + 9 ≠ β + 8 by omega), x_up_ne _ _ (show β + 9 ≠ β + 7 by omega), x_up_ne _ _ (show β + 9 ≠ β + 11 by omega), x_up_ne _ _ (show β + 9 ≠ β + 10 by omega), x_up_self]
  have e10 : (va_up (va_up (va_up (va_up (va_up (va_up (va_up (va_up I (β + 8) (y_z (I (β + 8)) 0 6)) (β + 9) (y_z (I (β + 9)) 0 48)) (β + 10) (y_z (I (β + 10)) 0 8)) (β + 11) (y_z (I (β + 11)) 0 8)) (β + 7) (va_up (va_up (I (β + 7)) 4 0) 5 (-1))) (β + 8) (x_mix g ((va_up (va_up (va_up (va_up (va_up I (β + 8) (y_z (I (β + 8)) 0 6)) (β + 9) (y_z (I (β + 9)) 0 48)) (β + 10) (y_z (I (β + 10)) 0 8)) (β + 11) (y_z (I (β + 11)) 0 8)) (β + 7) (va_up (va_up (I (β + 7)) 4 0) 5 (-1))) (β + 8)) n)) (β + 7) (va_up ((va_up (va_up (va_up (va_up (va_up I (β + 8) (y_z (I (β + 8)) 0 6)) (β + 9) (y_z (I (β + 9)) 0 48)) (β + 10) (y_z (I (β + 10)) 0 8)) (β + 11) (y_z (I (β + 11)) 0 8)) (β + 7) (va_up (va_up (I (β + 7)) 4 0) 5 (-1))) (β + 7)) 5 (a 11))) β (va_up ((va_up (va_up (va_up (va_up (va_up I (β + 8) (y_z (I (β + 8)) 0 6)) (β + 9) (y_z (I (β + 9)) 0 48)) (β + 10) (y_z (I (β + 10)) 0 8)) (β + 11) (y_z (I (β + 11)) 0 8)) (β + 7) (va_up (va_up (I (β + 7)) 4 0) 5 (-1))) β) 0 6)) (β + 10) = y_z (I (β + 10)) 0 8 := by rw [x_up_ne _ _ (show β + 10 ≠ β by omega), x_up_ne _ _ (show β + 10 ≠ β + 7 by omega), x_up_ne _ _ (show β + 10 ≠ β + 8 by omega), x_up_ne _ _ (show β + 10 ≠ β + 7 by omega), x_up_ne _ _ (show β + 10 ≠ β + 11 by omega), x_up_self]
  have e11 : (va_up (va_up (va_up (va_up (va_up (va_up (va_up (va_up I (β + 8) (y_z (I (β + 8)) 0 6)) (β + 9) (y_z (I (β + 9)) 0 48)) (β + 10) (y_z (I (β + 10)) 0 8)) (β + 11) (y_z (I (β + 11)) 0 8)) (β + 7) (va_up (va_up (I (β + 7)) 4 0) 5 (-1))) (β + 8) (x_mix g ((va_up (va_up (va_up (va_up (va_up I (β + 8) (y_z (I (β + 8)) 0 6)) (β + 9) (y_z (I (β + 9)) 0 48)) (β + 10) (y_z (I (β + 10)) 0 8)) (β + 11) (y_z (I (β + 11)) 0 8)) (β + 7) (va_up (va_up (I (β + 7)) 4 0) 5 (-1))) (β + 8)) n)) (β + 7) (va_up ((va_up (va_up (va_up (va_up (va_up I (β + 8) (y_z (I (β + 8)) 0 6)) (β + 9) (y_z (I (β + 9)) 0 48)) (β + 10) (y_z (I (β + 10)) 0 8)) (β + 11) (y_z (I (β + 11)) 0 8)) (β + 7) (va_up (va_up (I (β + 7)) 4 0) 5 (-1))) (β + 7)) 5 (a 11))) β (va_up ((va_up (va_up (va_up (va_up (va_up I (β + 8) (y_z (I (β + 8)) 0 6)) (β + 9) (y_z (I (β + 9)) 0 48)) (β + 10) (y_z (I (β + 10)) 0 8)) (β + 11) (y_z (I (β + 11)) 0 8)) (β + 7) (va_up (va_up (I (β + 7)) 4 0) 5 (-1))) β) 0 6)) (β + 11) = y_z (I (β + 11)) 0 8 := by rw [x_up_ne _ _ (show β + 11 ≠ β by omega), x_up_ne _ _ (show β + 11 ≠ β + 7 by omega), x_up_ne _ _ (show β + 11 ≠ β + 8 by omega), x_up_ne _ _ (show β + 11 ≠ β + 7 by omega), x_up_self]
  have e7 : (va_up (va_up (va_up (va_up (va_up (va_up (va_up (va_up I (β + 8) (y_z (I (β + 8)) 0 6)) (β + 9) (y_z (I (β + 9)) 0 48)) (β + 10) (y_z (I (β + 10)) 0 8)) (β + 11) (y_z (I (β + 11)) 0 8)) (β + 7) (va_up (va_up (I (β + 7)) 4 0) 5 (-1))) (β + 8) (x_mix g ((va_up (va_up (va_up (va_up (va_up I (β + 8) (y_z (I (β + 8)) 0 6)) (β + 9) (y_z (I (β + 9)) 0 48)) (β + 10) (y_z (I (β + 10)) 0 8)) (β + 11) (y_z (I (β + 11)) 0 8)) (β + 7) (va_up (va_up (I (β + 7)) 4 0) 5 (-1))) (β + 8)) n)) (β + 7) (va_up ((va_up (va_up (va_up (va_up (va_up I (β + 8) (y_z (I (β + 8)) 0 6)) (β + 9) (y_z (I (β + 9)) 0 48)) (β + 10) (y_z (I (β + 10)) 0 8)) (β + 11) (y_z (I (β + 11)) 0 8)) (β + 7) (va_up (va_up (I (β + 7)) 4 0) 5 (-1))) (β + 7)) 5 (a 11))) β (va_up ((va_up (va_up (va_up (va_up (va_up I (β + 8) (y_z (I (β + 8)) 0 6)) (β + 9) (y_z (I (β + 9)) 0 48)) (β + 10) (y_z (I (β + 10)) 0 8)) (β + 11) (y_z (I (β + 11)) 0 8)) (β + 7) (va_up (va_up (I (β + 7)) 4 0) 5 (-1))) β) 0 6)) (β + 7) = va_up (va_up (va_up (I (β + 7)) 4 0) 5 (-1)) 5 (a 11) := by
    rw [x_up_ne _ _ (show β + 7 ≠ β by omega), x_up_self]
    congr 1
    rw [x_up_self]
  unfold y_RB
  rw [e7, e8, e9, e10, e11, ad_10, ad_0, if_pos (show (6 : Int32) ≤ 6 by decide), x_up_self, x_up_ne _ _ (show (4 : Nat) ≠ 5 by decide), x_up_ne _ _ (show (4 : Nat) ≠ 5 by decide), x_up_self, ad_j (show ¬ 11 = 0 by decide) (by decide) (by omega) (by omega)]
  refine ⟨fun s hs => ?_, fun q hq s hs => ?_, fun q hq => ?_, fun q hq => ?_, rfl, rfl⟩
  · have ev : sp_vol (va_up (va_up (y_z (y_put a 38 g n) 224 64) 10 0) 0 6) s = (va_up (va_up (y_z (y_put a 38 g n) 224 64) 10 0) 0 6) (38 + s) := by
      unfold sp_vol
      rw [ad_0, if_pos (show (6 : Int32) ≤ 6 by decide)]
    rw [ev]
    by_cases c : s < n
    · rw [ad_m c (by omega) (by omega)]; exact if_pos c
    · rw [ad_j (by omega) (by omega) (by omega) (by omega), mix_ge (by omega), z_i (by omega)]
      exact ((hV s hs).2.2 (by rw [h8, t_n (by omega)]; omega)).2.symm
  · rw [ad_b (by omega), z_i (by omega)]
  · rw [ad_b (by omega), z_i (by omega)]
  · rw [ad_b (by omega), z_i (by omega)]
end
theorem sim_advertise (T : y_T N I L R) : y_OI N X mL_advertise [.ref 0, .ref 232] mX9_advertise [.ref 225] I L R := by
  have T0 := T
  obtain ⟨a, b, kn, ks, bf, bn, ep, ⟨β, δ, γ, ν, hB⟩, hM, hI⟩ := T
  have H : y_CS N I L R β a b := ⟨hM.1, hB.1.2.1, hB.1.2.2.2.2.1, hB.2.2.2.2.2.1, hI.1⟩
  obtain ⟨Ns, Np, Nl, Nm, Z⟩ := Z_of hI.1
  have hR := hM.1
  have ha : I 226 = a := hM.2.1
  have hb : L 229 = b := hM.2.2.1
  subst ha
  subst hb
  obtain ⟨hNs, hn, hNp, hp, hNl, hl, hNm, hmm⟩ := id Z
  by_cases h0 : I 226 0 = 0 ∨ I 226 0 = 5
  · skip
    by_cases h1 : I 226 8 = 0
    · exact OI_x T0 (by decide) (w_advertise_x0 (kf_advertise_1 H Z h0 h1)) (mf_advertise_1 hR Z h0 h1)
    · rcases id h0 with h2 | h2
      · obtain ⟨I0, L0, hk, S1, fr, sm⟩ := keep_ok (X := X) hB (h60_of (h_IL H))
        have H1 : y_CS N I0 L0 R β (I 226) (L 229) := ⟨hR, h_β H, h_S H, S1.2.2.2.2.2.1, hI.1⟩
        have hβ := h_β H
        have k1 := w_advertise (kx_advertise_0 H Z hk H1 h2 h1)
        have out : ∀ cc, (∀ j, j < 22 → ¬ cc = β + j) → (va_up (va_up I0 (β + 8) (x_mix (sp_est (I 226) Np) (I0 (β + 8)) Ns)) β (va_up (I0 β) 0 1)) cc = I0 cc ∧ L0 cc = L0 cc := fun cc ho => ⟨(by rw [x_up_ne _ _ (show cc ≠ β from ho 0 (by decide)), x_up_ne _ _ (ho 8 (by decide))]), rfl⟩
        have M1 := SM_f (I' := (va_up (va_up I0 (β + 8) (x_mix (sp_est (I 226) Np) (I0 (β + 8)) Ns)) β (va_up (I0 β) 0 1))) (L' := va_up L0 232 (va_up (L0 232) 0 (x_sum32 (sp_est (I 226) Np) Ns).toInt64)) hM hR (fun cc z1 z2 => ⟨(out cc (fun j hj => sl_far hβ (Or.inr z1) hj)).1.trans (fr cc z1).1, (x_up_ne _ _ (by omega)).trans ((out cc (fun j hj => sl_far hβ (Or.inr z1) hj)).2.trans (fr cc z1).2)⟩)
        obtain ⟨I2, L2, hk9, M2, t6, l25, fr9⟩ := keeps_ok (X := X) (SM_tw (t := 0) M1)
        have m1 := mx_advertise_0 hR M1.2.1 Z hk9 M2.2.1 h2 h1
        refine OI_c (a' := (va_up (va_up (y_z (y_put (I 226) 32 (sp_est (I 226) Np) Ns) 224 64) 10 0) 0 1)) (b' := (L 229)) k1 ⟨β, δ, γ, _, SB_u S1 out ?_⟩ m1 ?_ (SM_a M2) (fr_t fr_tw (fr_t fr9 fr_a)) (In_p (by omega) hI ?_)
        · exact Rep_ad0 h2 (h60_of (h_IL H)) hNs (h_IB H) H1.2.2.2.1
        · exact t6
        · exact Inv_ad (P := 1) (by decide) (by decide) (by decide) (fun z => absurd z (by decide)) (by rw [h2]; decide) (by decide) hn hNs (Or.inl rfl) (fun s hs => est_i (h_IT H) (h_IC H) hNp hp hs) hI.1
      · obtain ⟨I0, L0, hk, S1, fr, sm⟩ := keep_ok (X := X) hB (h60_of (h_IL H))
        have H1 : y_CS N I0 L0 R β (I 226) (L 229) := ⟨hR, h_β H, h_S H, S1.2.2.2.2.2.1, hI.1⟩
        have hβ := h_β H
        have k1 := w_advertise (kx_advertise_5 H Z hk H1 h2 h1)
        have out : ∀ cc, (∀ j, j < 22 → ¬ cc = β + j) → (va_up (va_up (va_up (va_up (va_up (va_up (va_up (va_up I0 (β + 8) (y_z (I0 (β + 8)) 0 6)) (β + 9) (y_z (I0 (β + 9)) 0 48)) (β + 10) (y_z (I0 (β + 10)) 0 8)) (β + 11) (y_z (I0 (β + 11)) 0 8)) (β + 7) (va_up (va_up (I0 (β + 7)) 4 0) 5 (-1))) (β + 8) (x_mix (fun s => sp_rem (I 226) s Nl) ((va_up (va_up (va_up (va_up (va_up I0 (β + 8) (y_z (I0 (β + 8)) 0 6)) (β + 9) (y_z (I0 (β + 9)) 0 48)) (β + 10) (y_z (I0 (β + 10)) 0 8)) (β + 11) (y_z (I0 (β + 11)) 0 8)) (β + 7) (va_up (va_up (I0 (β + 7)) 4 0) 5 (-1))) (β + 8)) Ns)) (β + 7) (va_up ((va_up (va_up (va_up (va_up (va_up I0 (β + 8) (y_z (I0 (β + 8)) 0 6)) (β + 9) (y_z (I0 (β + 9)) 0 48)) (β + 10) (y_z (I0 (β + 10)) 0 8)) (β + 11) (y_z (I0 (β + 11)) 0 8)) (β + 7) (va_up (va_up (I0 (β + 7)) 4 0) 5 (-1))) (β + 7)) 5 (I 226 11))) β (va_up ((va_up (va_up (va_up (va_up (va_up I0 (β + 8) (y_z (I0 (β + 8)) 0 6)) (β + 9) (y_z (I0 (β + 9)) 0 48)) (β + 10) (y_z (I0 (β + 10)) 0 8)) (β + 11) (y_z (I0 (β + 11)) 0 8)) (β + 7) (va_up (va_up (I0 (β + 7)) 4 0) 5 (-1))) β) 0 6)) cc = I0 cc ∧ L0 cc = L0 cc := fun cc ho => ⟨(by rw [x_up_ne _ _ (show cc ≠ β from ho 0 (by decide)), x_up_ne _ _ (ho 7 (by decide)), x_up_ne _ _ (ho 8 (by decide)), x_up_ne _ _ (ho 7 (by decide)), x_up_ne _ _ (ho 11 (by decide)), x_up_ne _ _ (ho 10 (by decide)), x_up_ne _ _ (ho 9 (by decide)), x_up_ne _ _ (ho 8 (by decide))]), rfl⟩
        have M1 := SM_f (I' := (va_up (va_up (va_up (va_up (va_up (va_up (va_up (va_up I0 (β + 8) (y_z (I0 (β + 8)) 0 6)) (β + 9) (y_z (I0 (β + 9)) 0 48)) (β + 10) (y_z (I0 (β + 10)) 0 8)) (β + 11) (y_z (I0 (β + 11)) 0 8)) (β + 7) (va_up (va_up (I0 (β + 7)) 4 0) 5 (-1))) (β + 8) (x_mix (fun s => sp_rem (I 226) s Nl) ((va_up (va_up (va_up (va_up (va_up I0 (β + 8) (y_z (I0 (β + 8)) 0 6)) (β + 9) (y_z (I0 (β + 9)) 0 48)) (β + 10) (y_z (I0 (β + 10)) 0 8)) (β + 11) (y_z (I0 (β + 11)) 0 8)) (β + 7) (va_up (va_up (I0 (β + 7)) 4 0) 5 (-1))) (β + 8)) Ns)) (β + 7) (va_up ((va_up (va_up (va_up (va_up (va_up I0 (β + 8) (y_z (I0 (β + 8)) 0 6)) (β + 9) (y_z (I0 (β + 9)) 0 48)) (β + 10) (y_z (I0 (β + 10)) 0 8)) (β + 11) (y_z (I0 (β + 11)) 0 8)) (β + 7) (va_up (va_up (I0 (β + 7)) 4 0) 5 (-1))) (β + 7)) 5 (I 226 11))) β (va_up ((va_up (va_up (va_up (va_up (va_up I0 (β + 8) (y_z (I0 (β + 8)) 0 6)) (β + 9) (y_z (I0 (β + 9)) 0 48)) (β + 10) (y_z (I0 (β + 10)) 0 8)) (β + 11) (y_z (I0 (β + 11)) 0 8)) (β + 7) (va_up (va_up (I0 (β + 7)) 4 0) 5 (-1))) β) 0 6))) (L' := va_up L0 232 (va_up (L0 232) 0 (x_sum32 (fun s => sp_rem (I 226) s Nl) Ns).toInt64)) hM hR (fun cc z1 z2 => ⟨(out cc (fun j hj => sl_far hβ (Or.inr z1) hj)).1.trans (fr cc z1).1, (x_up_ne _ _ (by omega)).trans ((out cc (fun j hj => sl_far hβ (Or.inr z1) hj)).2.trans (fr cc z1).2)⟩)
        obtain ⟨I2, L2, hk9, M2, t6, l25, fr9⟩ := keeps_ok (X := X) (SM_tw (t := 0) M1)
        have m1 := mx_advertise_5 hR M1.2.1 Z hk9 M2.2.1 h2 h1
        refine OI_c (a' := (va_up (va_up (y_z (y_put (I 226) 38 (fun s => sp_rem (I 226) s Nl) Ns) 224 64) 10 0) 0 6)) (b' := (L 229)) k1 ⟨β, δ, γ, _, SB_u S1 out ?_⟩ m1 ?_ (SM_a M2) (fr_t fr_tw (fr_t fr9 fr_a)) (In_p (by omega) hI ?_)
        · exact Rep_ad5 h2 (h60_of (h_IL H)) hNs hn (h_IV H) H1.2.2.2.1
        · exact t6
        · exact Inv_ad (P := 6) (by decide) (by decide) (by decide) (fun _ => by rw [h2]; decide) (by rw [h2]; decide) (by decide) hn hNs (Or.inr rfl) (fun s hs => remv_i (h_IV H) (h_IL H) hNl hl hs) hI.1
  · exact OI_x T0 (by decide) (w_advertise_x0 (kf_advertise_0 H Z h0)) (mf_advertise_0 hR Z h0)
end

/-! ===== the text's row: what it holds (laid by wip/whole/src/rd6.py) ===== -/
section
variable {X : x_X} {I : Nat → Nat → Int32} {L : Nat → Nat → Int64} {R : Nat → Nat → Option Nat} {N : Nat}
section
variable {g : Nat → Int32} {n : Nat}
theorem em2 : (-2 : Int32) < 0 := by decide
theorem em3 : (-3 : Int32) < 0 := by decide
theorem em4 : (-4 : Int32) < 0 := by decide
theorem zin {b : Int} (hb : 0 ≤ b) : y_in 0 0 b := ⟨by decide, hb⟩
theorem n1_r {lo hi s : Nat} {w : Nat × Nat} (h : y_n1 g n lo hi s = .inr w) : lo ≤ w.1 ∧ w.1 ≤ hi := by
  unfold y_n1 at h
  by_cases c : y_rg g n 48 57 s
  · rw [if_pos c] at h
    by_cases d : y_okn g n lo hi s
    · rw [if_pos d] at h
      obtain rfl := Sum.inr.inj h
      exact d
    · rw [if_neg d] at h; cases h
  · rw [if_neg c] at h; cases h
theorem n1_e {lo hi s : Nat} {e : Int32 × Nat} (h : y_n1 g n lo hi s = .inl e) : e.1 < 0 := by
  unfold y_n1 at h
  by_cases c : y_rg g n 48 57 s
  · rw [if_pos c] at h
    by_cases d : y_okn g n lo hi s
    · rw [if_pos d] at h; cases h
    · rw [if_neg d] at h
      obtain rfl := Sum.inl.inj h
      exact em3
  · rw [if_neg c] at h
    obtain rfl := Sum.inl.inj h
    exact em2
theorem ns_inv {lo hi t : Nat → Nat} (P : (Nat → Int32) → Nat → Prop) (hP : ∀ i a v, P a i → lo i ≤ v → v ≤ hi i → P (va_up a (t i) (Int32.ofNat v)) (i + 1)) : ∀ d i s a w, y_ns g n lo hi t d i s a = .inr w → P a i → P w.2 (i + d)
  | 0, i, s, a, w, h, p => by
    unfold y_ns at h
    obtain rfl := Sum.inr.inj h
    exact p
  | d + 1, i, s, a, w, h, p => by
    unfold y_ns at h
    cases e : y_n1 g n (lo i) (hi i) s with
    | inl q => rw [e] at h; cases h
    | inr q =>
      rw [e] at h
      have r := n1_r e
      have := ns_inv P hP d (i + 1) q.2 _ w h (hP i a q.1 p r.1 r.2)
      rw [show i + (d + 1) = i + 1 + d by omega]
      exact this
theorem ns_e {lo hi t : Nat → Nat} : ∀ d i s a e, y_ns g n lo hi t d i s a = .inl e → e.1 < 0
  | 0, i, s, a, e, h => by unfold y_ns at h; cases h
  | d + 1, i, s, a, e, h => by
    unfold y_ns at h
    cases q : y_n1 g n (lo i) (hi i) s with
    | inl q2 =>
      rw [q] at h
      obtain rfl := Sum.inl.inj h
      exact n1_e q
    | inr q2 => rw [q] at h; exact ns_e d (i + 1) q2.2 _ e h
theorem bd_r {r : y_PR} {f : Nat → (Nat → Int32) → y_PR} {w : Nat × (Nat → Int32)} (h : y_bd r f = .inr w) : ∃ v, r = .inr v ∧ f v.1 v.2 = .inr w := by
  cases r with
  | inl e => cases h
  | inr v => exact ⟨v, rfl, h⟩
theorem bd_l {r : y_PR} {f : Nat → (Nat → Int32) → y_PR} {e : Int32 × Nat} (h : y_bd r f = .inl e) : r = .inl e ∨ ∃ v, r = .inr v ∧ f v.1 v.2 = .inl e := by
  cases r with
  | inl q => exact Or.inl h
  | inr v => exact Or.inr ⟨v, rfl, h⟩
theorem sm_r {s : Nat} {a : Nat → Int32} {w : Nat × (Nat → Int32)} (h : y_sm g n s a = .inr w) : w.2 = a := by
  unfold y_sm at h
  by_cases c : y_rg g n 59 59 s
  · rw [if_pos c] at h; obtain rfl := Sum.inr.inj h; rfl
  · rw [if_neg c] at h; cases h
theorem sm_e {s : Nat} {a : Nat → Int32} {e : Int32 × Nat} (h : y_sm g n s a = .inl e) : e.1 < 0 := by
  unfold y_sm at h
  by_cases c : y_rg g n 59 59 s
  · rw [if_pos c] at h; cases h
  · rw [if_neg c] at h; obtain rfl := Sum.inl.inj h; exact em2
/-- the places that a text sets -/
def y_Z0 (a : Nat → Int32) : Prop := ∀ j, ¬ (1 ≤ j ∧ j ≤ 9) → ¬ (20 ≤ j ∧ j ≤ 31) → ¬ (44 ≤ j ∧ j < 224) → a j = 0
def y_PN (a : Nat → Int32) (m : Nat) : Prop := ∀ i, i < m → ∃ v, y_l7 i ≤ v ∧ v ≤ y_h7 i ∧ a (1 + i) = Int32.ofNat v
def y_PS (a : Nat → Int32) (m : Nat) : Prop := m ≤ 6 ∧ a 8 = Int32.ofNat m ∧ ∀ s, s < 6 → y_in (a (20 + s)) 0 100000 ∧ y_in (a (26 + s)) 0 10000
def y_PC (a : Nat → Int32) (m : Nat) : Prop := a 9 = Int32.ofNat m ∧ ∀ j, j < 180 → y_in (a (44 + j)) 0 500
theorem Z0_u {a : Nat → Int32} {k : Nat} {v : Int32} (h : y_Z0 a) (hk : (1 ≤ k ∧ k ≤ 9) ∨ (20 ≤ k ∧ k ≤ 31) ∨ (44 ≤ k ∧ k < 224)) : y_Z0 (va_up a k v) := fun j h1 h2 h3 => by
  rw [x_up_ne _ _ (fun z => by subst z; omega)]
  exact h j h1 h2 h3
theorem in_n {v b : Nat} {B : Int} (h : v ≤ b) (hb : b < 1000000000) (hB : (b : Int) = B) : y_in (Int32.ofNat v) 0 B := by
  unfold y_in
  rw [t_n (by omega)]
  omega
theorem PN_u {a : Nat → Int32} {m k : Nat} {v : Int32} (h : y_PN a m) (hk : ∀ i, i < m → ¬ k = 1 + i) : y_PN (va_up a k v) m := fun i hi => by
  obtain ⟨x, h1, h2, h3⟩ := h i hi
  exact ⟨x, h1, h2, by rw [x_up_ne _ _ (fun z => hk i hi z.symm)]; exact h3⟩
theorem PS_u {a : Nat → Int32} {m k : Nat} {v : Int32} (h : y_PS a m) (h8 : ¬ k = 8) (hk : ¬ (20 ≤ k ∧ k ≤ 31)) : y_PS (va_up a k v) m := by
  obtain ⟨h1, h2, h3⟩ := h
  refine ⟨h1, by rw [x_up_ne _ _ (fun z => h8 z.symm)]; exact h2, fun s hs => ?_⟩
  rw [x_up_ne _ _ (by omega), x_up_ne _ _ (by omega)]
  exact h3 s hs
theorem PC_u {a : Nat → Int32} {m k : Nat} {v : Int32} (h : y_PC a m) (h9 : ¬ k = 9) (hk : ¬ (44 ≤ k ∧ k < 224)) : y_PC (va_up a k v) m := by
  obtain ⟨h1, h2⟩ := h
  refine ⟨by rw [x_up_ne _ _ (fun z => h9 z.symm)]; exact h1, fun j hj => ?_⟩
  rw [x_up_ne _ _ (by omega)]
  exact h2 j hj
theorem nums_r {s : Nat} {w : Nat × (Nat → Int32)} (h : y_nums g n s (fun _ => 0) = .inr w) : y_Z0 w.2 ∧ y_PN w.2 7 ∧ y_PS w.2 0 ∧ y_PC w.2 0 ∧ (∀ j, 8 ≤ j → w.2 j = 0) := by
  unfold y_nums at h
  by_cases c : y_wd g n 1010 s
  · rw [if_pos c] at h
    obtain ⟨v, h1, h2⟩ := bd_r h
    rw [sm_r h2]
    have k := ns_inv (P := fun a i => i ≤ 7 → y_Z0 a ∧ y_PN a i ∧ y_PS a 0 ∧ y_PC a 0 ∧ (∀ j, 8 ≤ j → a j = 0)) (fun i a v p q1 q2 hi => by
      obtain ⟨p1, p2, p3, p4, p5⟩ := p (by omega)
      refine ⟨Z0_u p1 (by omega), fun j hj => ?_, PS_u p3 (by omega) (by omega), PC_u p4 (by omega) (by omega), fun j hj => by rw [x_up_ne _ _ (by omega)]; exact p5 j hj⟩
      by_cases z : j = i
      · rw [z]; exact ⟨v, q1, q2, x_up_self _ _ _⟩
      · obtain ⟨x, h1, h2, h3⟩ := p2 j (by omega)
        exact ⟨x, h1, h2, by rw [x_up_ne _ _ (by omega)]; exact h3⟩) 7 0 _ _ v h1 (fun _ => ⟨fun j _ _ _ => rfl, fun i hi => absurd hi (Nat.not_lt_zero _), ⟨by omega, rfl, fun s hs => ⟨zin (by decide), zin (by decide)⟩⟩, ⟨rfl, fun j hj => zin (by decide)⟩, fun j _ => rfl⟩)
    exact k (by omega)
  · rw [if_neg c] at h; cases h
theorem nums_e {s : Nat} {a : Nat → Int32} {e : Int32 × Nat} (h : y_nums g n s a = .inl e) : e.1 < 0 := by
  unfold y_nums at h
  by_cases c : y_wd g n 1010 s
  · rw [if_pos c] at h
    rcases bd_l h with h1 | ⟨v, h1, h2⟩
    · exact ns_e _ _ _ _ _ h1
    · exact sm_e h2
  · rw [if_neg c] at h; obtain rfl := Sum.inl.inj h; exact em2
theorem sps_r : ∀ d m s a w, m + d = 6 → y_sps g n d m s a = .inr w → y_Z0 a ∧ y_PN a 7 ∧ y_PS a m ∧ y_PC a 0 → ∃ k, y_Z0 w.2 ∧ y_PN w.2 7 ∧ y_PS w.2 k ∧ y_PC w.2 0
  | 0, m, s, a, w, hd, h, p => by
    unfold y_sps at h
    by_cases c : y_wd g n 1011 s
    · rw [if_pos c] at h; cases h
    · rw [if_neg c] at h; obtain rfl := Sum.inr.inj h; exact ⟨m, p⟩
  | d + 1, m, s, a, w, hd, h, p => by
    unfold y_sps at h
    by_cases c : y_wd g n 1011 s
    · rw [if_pos c] at h
      obtain ⟨v, h1, h2⟩ := bd_r h
      obtain ⟨u, h3, h4⟩ := bd_r h1
      refine sps_r d (m + 1) _ _ w (by omega) h2 ?_
      rw [sm_r h4]
      have k := ns_inv (P := fun a i => i ≤ 2 → y_Z0 a ∧ y_PN a 7 ∧ y_PS a m ∧ y_PC a 0) (fun i a v p q1 q2 hi => by
        obtain ⟨p1, p2, p3, p4⟩ := p (by omega)
        have hk : (if i = 0 then 20 + m else 26 + m) = 20 + m ∧ v ≤ 100000 ∨ (if i = 0 then 20 + m else 26 + m) = 26 + m ∧ v ≤ 10000 := by
          by_cases z : i = 0
          · rw [if_pos z] at q2 ⊢; exact Or.inl ⟨rfl, q2⟩
          · rw [if_neg z] at q2 ⊢; exact Or.inr ⟨rfl, q2⟩
        generalize (if i = 0 then 20 + m else 26 + m) = kk at hk
        refine ⟨Z0_u p1 (by omega), PN_u p2 (by omega), ⟨p3.1, by rw [x_up_ne _ _ (by omega)]; exact p3.2.1, fun s hs => ?_⟩, PC_u p4 (by omega) (by omega)⟩
        obtain ⟨r1, r2⟩ := p3.2.2 s hs
        rcases hk with ⟨rfl, hv⟩ | ⟨rfl, hv⟩
        · rw [x_up_ne _ _ (show 26 + s ≠ 20 + m by omega)]
          refine ⟨?_, r2⟩
          by_cases z : s = m
          · rw [z, x_up_self]; exact in_n hv (by omega) rfl
          · rw [x_up_ne _ _ (by omega)]; exact r1
        · rw [x_up_ne _ _ (show 20 + s ≠ 26 + m by omega)]
          refine ⟨r1, ?_⟩
          by_cases z : s = m
          · rw [z, x_up_self]; exact in_n hv (by omega) rfl
          · rw [x_up_ne _ _ (by omega)]; exact r2) 2 0 _ _ u h3 (fun _ => p)
      obtain ⟨p1, p2, p3, p4⟩ := k (by omega)
      refine ⟨Z0_u p1 (by omega), PN_u p2 (by omega), ⟨by omega, x_up_self _ _ _, fun s hs => ?_⟩, PC_u p4 (by omega) (by omega)⟩
      rw [x_up_ne _ _ (by omega), x_up_ne _ _ (by omega)]
      exact p3.2.2 s hs
    · rw [if_neg c] at h; obtain rfl := Sum.inr.inj h; exact ⟨m, p⟩
theorem sps_e : ∀ d m s a e, y_sps g n d m s a = .inl e → e.1 < 0
  | 0, m, s, a, e, h => by
    unfold y_sps at h
    by_cases c : y_wd g n 1011 s
    · rw [if_pos c] at h; obtain rfl := Sum.inl.inj h; exact em4
    · rw [if_neg c] at h; cases h
  | d + 1, m, s, a, e, h => by
    unfold y_sps at h
    by_cases c : y_wd g n 1011 s
    · rw [if_pos c] at h
      rcases bd_l h with h1 | ⟨v, h1, h2⟩
      · rcases bd_l h1 with h3 | ⟨u, h3, h4⟩
        · exact ns_e _ _ _ _ _ h3
        · exact sm_e h4
      · exact sps_e d (m + 1) _ _ e h2
    · rw [if_neg c] at h; cases h
theorem pls_r {k z : Nat} (hz : z ≤ 30) (hk : k ≤ 6) : ∀ d m s a w, m + d = z → y_pls g n k d m s a = .inr w → y_Z0 a ∧ y_PN a 7 ∧ y_PS a k ∧ y_PC a m → ∃ m', m' ≤ z ∧ y_Z0 w.2 ∧ y_PN w.2 7 ∧ y_PS w.2 k ∧ y_PC w.2 m' ∧ w.2 1 = a 1
  | 0, m, s, a, w, hd, h, p => by
    unfold y_pls at h
    by_cases c : y_wd g n 1012 s
    · rw [if_pos c] at h; cases h
    · rw [if_neg c] at h; obtain rfl := Sum.inr.inj h; exact ⟨m, by omega, p.1, p.2.1, p.2.2.1, p.2.2.2, rfl⟩
  | d + 1, m, s, a, w, hd, h, p => by
    unfold y_pls at h
    by_cases c : y_wd g n 1012 s
    · rw [if_pos c] at h
      obtain ⟨v, h1, h2⟩ := bd_r h
      obtain ⟨u, h3, h4⟩ := bd_r h1
      have kq := ns_inv (P := fun b i => i ≤ k → y_Z0 b ∧ y_PN b 7 ∧ y_PS b k ∧ y_PC b m ∧ b 1 = a 1) (fun i b v p q1 q2 hi => by
        obtain ⟨p1, p2, p3, p4, p5⟩ := p (by omega)
        refine ⟨Z0_u p1 (by omega), PN_u p2 (by omega), PS_u p3 (by omega) (by omega), ⟨by rw [x_up_ne _ _ (by omega)]; exact p4.1, fun j hj => ?_⟩, by rw [x_up_ne _ _ (by omega)]; exact p5⟩
        by_cases z : 44 + j = 44 + 6 * m + i
        · rw [z, x_up_self]; exact in_n q2 (by omega) rfl
        · rw [x_up_ne _ _ z]; exact p4.2 j hj) k 0 _ _ u h3 (fun _ => ⟨p.1, p.2.1, p.2.2.1, p.2.2.2, rfl⟩)
      obtain ⟨p1, p2, p3, p4, p5⟩ := kq (by omega)
      have := pls_r hz hk d (m + 1) _ _ w (by omega) h2 (by
        rw [sm_r h4]
        exact ⟨Z0_u p1 (by omega), PN_u p2 (by omega), PS_u p3 (by omega) (by omega), ⟨x_up_self _ _ _, fun j hj => by rw [x_up_ne _ _ (by omega)]; exact p4.2 j hj⟩⟩)
      rw [sm_r h4, x_up_ne _ _ (by decide), p5] at this
      exact this
    · rw [if_neg c] at h; obtain rfl := Sum.inr.inj h; exact ⟨m, by omega, p.1, p.2.1, p.2.2.1, p.2.2.2, rfl⟩
theorem pls_e {k : Nat} : ∀ d m s a e, y_pls g n k d m s a = .inl e → e.1 < 0
  | 0, m, s, a, e, h => by
    unfold y_pls at h
    by_cases c : y_wd g n 1012 s
    · rw [if_pos c] at h; obtain rfl := Sum.inl.inj h; exact em4
    · rw [if_neg c] at h; cases h
  | d + 1, m, s, a, e, h => by
    unfold y_pls at h
    by_cases c : y_wd g n 1012 s
    · rw [if_pos c] at h
      rcases bd_l h with h1 | ⟨v, h1, h2⟩
      · rcases bd_l h1 with h3 | ⟨u, h3, h4⟩
        · exact ns_e _ _ _ _ _ h3
        · exact sm_e h4
      · exact pls_e d (m + 1) _ _ e h2
    · rw [if_neg c] at h; cases h
theorem fin_e {s : Nat} {a : Nat → Int32} {e : Int32 × Nat} (h : y_fin n s a = .inl e) : e.1 < 0 := by
  unfold y_fin at h
  by_cases c : s = n
  · rw [if_pos c] at h; cases h
  · rw [if_neg c] at h; obtain rfl := Sum.inl.inj h; exact em2
theorem all_e {e : Int32 × Nat} (h : y_all g n = .inl e) : e.1 < 0 := by
  unfold y_all at h
  rcases bd_l h with h1 | ⟨v, h1, h2⟩
  · rcases bd_l h1 with h3 | ⟨u, h3, h4⟩
    · rcases bd_l h3 with h5 | ⟨x, h5, h6⟩
      · exact nums_e h5
      · exact sps_e _ _ _ _ _ h6
    · exact pls_e _ _ _ _ _ h4
  · exact fin_e h2
end
end

/-! ===== the text, as a function; the class's tokens by it (laid by wip/whole/src/rd3.py) ===== -/
section
variable {X : x_X} {I : Nat → Nat → Int32} {L : Nat → Nat → Int64} {R : Nat → Nat → Option Nat} {N : Nat}
/-- what reading comes to: a fault and its place, or the next token's place and the row -/
abbrev y_PR : Type := (Int32 × Nat) ⊕ (Nat × (Nat → Int32))
section
variable (g : Nat → Int32) (n : Nat)
def y_sk (p : Nat) : Nat := y_fw g n 32 32 p
def y_en (s : Nat) : Nat := y_fw g n 48 57 s
def y_vl (s : Nat) : Nat := y_nv g s (y_en g n s - s)
abbrev y_okn (lo hi s : Nat) : Prop := lo ≤ y_vl g n s ∧ y_vl g n s ≤ hi
def y_n1 (lo hi s : Nat) : (Int32 × Nat) ⊕ (Nat × Nat) := if y_rg g n 48 57 s then (if y_okn g n lo hi s then .inr (y_vl g n s, y_sk g n (y_en g n s)) else .inl (-3, s)) else .inl (-2, s)
def y_ns (lo hi t : Nat → Nat) : Nat → Nat → Nat → (Nat → Int32) → y_PR
  | 0, _, s, a => .inr (s, a)
  | d + 1, i, s, a => match y_n1 g n (lo i) (hi i) s with
    | .inl e => .inl e
    | .inr w => y_ns lo hi t d (i + 1) w.2 (va_up a (t i) (Int32.ofNat w.1))
def y_bd (r : y_PR) (f : Nat → (Nat → Int32) → y_PR) : y_PR := match r with
  | .inl e => .inl e
  | .inr w => f w.1 w.2
def y_sm (s : Nat) (a : Nat → Int32) : y_PR := if y_rg g n 59 59 s then .inr (y_sk g n (s + 1), a) else .inl (-2, s)
def y_sps : Nat → Nat → Nat → (Nat → Int32) → y_PR
  | 0, _, s, a => if y_wd g n 1011 s then .inl (-4, s) else .inr (s, a)
  | d + 1, m, s, a => if y_wd g n 1011 s then y_bd (y_bd (y_ns g n (fun i => i) (fun i => if i = 0 then 100000 else 10000) (fun i => if i = 0 then 20 + m else 26 + m) 2 0 (y_sk g n (s + 7)) a) (y_sm g n)) (fun s' a' => y_sps d (m + 1) s' (va_up a' 8 (Int32.ofNat (m + 1)))) else .inr (s, a)
def y_pls (k : Nat) : Nat → Nat → Nat → (Nat → Int32) → y_PR
  | 0, _, s, a => if y_wd g n 1012 s then .inl (-4, s) else .inr (s, a)
  | d + 1, m, s, a => if y_wd g n 1012 s then y_bd (y_bd (y_ns g n (fun _ => 0) (fun _ => 500) (fun i => 44 + 6 * m + i) k 0 (y_sk g n (s + 4)) a) (y_sm g n)) (fun s' a' => y_pls k d (m + 1) s' (va_up a' 9 (Int32.ofNat (m + 1)))) else .inr (s, a)
def y_l7 (i : Nat) : Nat := ([2, 1, 0, 0, 0, 0, 0] : List Nat).getD i 0
def y_h7 (i : Nat) : Nat := ([200, 35, 50, 100, 20, 50, 1000000] : List Nat).getD i 0
def y_fin (s : Nat) (a : Nat → Int32) : y_PR := if s = n then .inr (s, a) else .inl (-2, s)
def y_nums (s : Nat) (a : Nat → Int32) : y_PR := if y_wd g n 1010 s then y_bd (y_ns g n y_l7 y_h7 (fun i => 1 + i) 7 0 (y_sk g n (s + 4)) a) (y_sm g n) else .inl (-2, s)
def y_plots (s : Nat) (a : Nat → Int32) : y_PR := y_pls g n (a 8).toNatClampNeg (min 30 (a 1).toNatClampNeg) 0 s a
def y_all : y_PR := y_bd (y_bd (y_bd (y_nums g n (y_sk g n 0) (fun _ => 0)) (fun s a => y_sps g n 6 0 s a)) (y_plots g n)) (y_fin n)
end
/-! the class -/
def y_QS (I : Nat → Nat → Int32) (n : Nat) (g : Nat → Int32) (s : Nat) : Prop := ∃ p, y_Q I n g p ∧ y_sk g n p = s
def y_f1 (I I' : Nat → Nat → Int32) : Prop := ∀ q, ¬ q = 1 → I' q = I q
def y_kp (I I' : Nat → Nat → Int32) : Prop := I' 1 1 = I 1 1 ∧ I' 1 2 = I 1 2
def y_fl (I I' : Nat → Nat → Int32) (e : Int32 × Nat) : Prop := I' 1 1 = I 1 1 ∧ I' 1 3 = e.1 ∧ I' 1 2 = Int32.ofNat e.2
section
variable {g : Nat → Int32} {n s : Nat} {I' : Nat → Nat → Int32}
theorem f1_up {f : Nat → Int32} : y_f1 I (va_up I 1 f) := fun q hq => x_up_ne _ _ hq
theorem Q_up {p q : Nat} {f : Nat → Int32} (Q : y_Q I n g p) (hq : q ≤ n) (h4 : f 4 = I 1 4) (h5 : f 5 = Int32.ofNat q) : y_Q (va_up I 1 f) n g q := by
  obtain ⟨h1, h2, h3, _, _⟩ := Q
  refine ⟨h1, ?_, ?_, hq, ?_⟩
  · rw [x_up_self, h4, h2]
  · rw [x_up_ne _ _ (by decide)]; exact h3
  · rw [x_up_self, h5]
theorem Q_ge {p : Nat} (Q : y_Q I n g p) : y_sk g n p ≤ n := fw_le Q.2.2.2.1
theorem k_num_ok (hR : x_wf R) (Q : y_QS I n g s) {lo hi : Nat} {w : Nat × Nat} (hh : hi < 10000000) (h : y_n1 g n lo hi s = .inr w) : ∃ I', x_Cv X mX5_readNumber [.ref 1, .int (Int32.ofNat lo), .int (Int32.ofNat hi)] (I, L, R) 233 (.inl (some (.int 1)), (I', L, R), 233) ∧ y_f1 I I' ∧ y_QS I' n g w.2 ∧ I' 1 6 = Int32.ofNat w.1 ∧ y_kp I I' := by
  obtain ⟨p, Q, hs⟩ := Q
  unfold y_n1 at h
  by_cases c : y_rg g n 48 57 s
  · rw [if_pos c] at h
    by_cases d : y_okn g n lo hi s
    · rw [if_pos d] at h
      obtain rfl := Sum.inr.inj h
      have sn : s ≤ n := by have := c.1; omega
      have eg : s ≤ y_en g n s := fw_ge sn
      have en : y_en g n s ≤ n := fw_le sn
      obtain ⟨m, hm⟩ : ∃ m, y_en g n s = s + m := ⟨y_en g n s - s, by omega⟩
      have ev : y_vl g n s = y_nv g s m := by unfold y_vl; rw [hm, Nat.add_sub_cancel_left]
      obtain ⟨d1, d2⟩ := d
      have em : min (y_nv g s m) 10000000 = y_vl g n s := by omega
      have k := c_num_1 (X := X) (L := L) hR Q hs (lo := Int32.ofNat lo) (hi := Int32.ofNat hi) c hm (by rw [em, n_le (by omega) (by omega), n_le (by omega) (by omega)]; exact ⟨d1, d2⟩)
      rw [em] at k
      refine ⟨_, k, f1_up, ⟨s + m, Q_up Q (by omega) ?_ (x_up_self _ _ _), by rw [hm]⟩, ?_, ?_, ?_⟩
      · rw [x_up_ne _ _ (by decide), x_up_ne _ _ (by decide)]
      · rw [x_up_self, x_up_ne _ _ (by decide), x_up_self]
      · rw [x_up_self, x_up_ne _ _ (by decide), x_up_ne _ _ (by decide)]
      · rw [x_up_self, x_up_ne _ _ (by decide), x_up_ne _ _ (by decide)]
    · rw [if_neg d] at h; cases h
  · rw [if_neg c] at h; cases h
theorem k_num_no (hR : x_wf R) (Q : y_QS I n g s) {lo hi : Nat} {e : Int32 × Nat} (hl : lo ≤ 1000) (hh : hi < 10000000) (h : y_n1 g n lo hi s = .inl e) : ∃ I', x_Cv X mX5_readNumber [.ref 1, .int (Int32.ofNat lo), .int (Int32.ofNat hi)] (I, L, R) 233 (.inl (some (.int 0)), (I', L, R), 233) ∧ y_f1 I I' ∧ y_fl I I' e := by
  obtain ⟨p, Q, hs⟩ := Q
  unfold y_n1 at h
  by_cases c : y_rg g n 48 57 s
  · rw [if_pos c] at h
    by_cases d : y_okn g n lo hi s
    · rw [if_pos d] at h; cases h
    · rw [if_neg d] at h
      obtain rfl := Sum.inl.inj h
      have sn : s ≤ n := by have := c.1; omega
      have eg : s ≤ y_en g n s := fw_ge sn
      have en : y_en g n s ≤ n := fw_le sn
      obtain ⟨m, hm⟩ : ∃ m, y_en g n s = s + m := ⟨y_en g n s - s, by omega⟩
      have ev : y_vl g n s = y_nv g s m := by unfold y_vl; rw [hm, Nat.add_sub_cancel_left]
      have k := c_num_3 (X := X) (L := L) hR Q hs (lo := Int32.ofNat lo) (hi := Int32.ofNat hi) c hm (by rw [n_le (by omega) (by omega), n_le (by omega) (by omega)]; exact fun z => d ⟨by omega, by omega⟩)
      refine ⟨_, k, f1_up, ?_, ?_, ?_⟩
      · rw [x_up_self, x_up_ne _ _ (by decide), x_up_ne _ _ (by decide), x_up_ne _ _ (by decide), x_up_ne _ _ (by decide)]
      · rw [x_up_self, x_up_ne _ _ (by decide), x_up_self]
      · rw [x_up_self, x_up_self]
  · rw [if_neg c] at h
    obtain rfl := Sum.inl.inj h
    have k := c_num_0 (X := X) (L := L) hR Q hs (lo := Int32.ofNat lo) (hi := Int32.ofNat hi) c
    refine ⟨_, k, f1_up, ?_, ?_, ?_⟩
    · rw [x_up_self, x_up_ne _ _ (by decide), x_up_ne _ _ (by decide), x_up_ne _ _ (by decide)]
    · rw [x_up_self, x_up_ne _ _ (by decide), x_up_self]
    · rw [x_up_self, x_up_self]
theorem k_semi_ok (hR : x_wf R) (Q : y_QS I n g s) (c : y_rg g n 59 59 s) : ∃ I', x_Cv X mX5_readSemicolon [.ref 1] (I, L, R) 233 (.inl (some (.int 1)), (I', L, R), 233) ∧ y_f1 I I' ∧ y_QS I' n g (y_sk g n (s + 1)) ∧ y_kp I I' := by
  obtain ⟨p, Q, hs⟩ := Q
  have := c.1
  refine ⟨_, c_semi_1 hR Q hs c, f1_up, ⟨s + 1, Q_up Q (by omega) (x_up_ne _ _ (by decide)) (x_up_self _ _ _), rfl⟩, ?_, ?_⟩
  · rw [x_up_self, x_up_ne _ _ (by decide)]
  · rw [x_up_self, x_up_ne _ _ (by decide)]
theorem k_semi_no (hR : x_wf R) (Q : y_QS I n g s) (c : ¬ y_rg g n 59 59 s) : ∃ I', x_Cv X mX5_readSemicolon [.ref 1] (I, L, R) 233 (.inl (some (.int 0)), (I', L, R), 233) ∧ y_f1 I I' ∧ y_fl I I' (-2, s) := by
  obtain ⟨p, Q, hs⟩ := Q
  refine ⟨_, c_semi_0 hR Q hs c, f1_up, ?_, ?_, ?_⟩
  · rw [x_up_self, x_up_ne _ _ (by decide), x_up_ne _ _ (by decide), x_up_ne _ _ (by decide)]
  · rw [x_up_self, x_up_ne _ _ (by decide), x_up_self]
  · rw [x_up_self, x_up_self]
theorem k_end_ok (hR : x_wf R) (Q : y_QS I n g s) (c : s = n) : ∃ I', x_Cv X mX5_readEnd [.ref 1] (I, L, R) 233 (.inl (some (.int 1)), (I', L, R), 233) ∧ y_f1 I I' ∧ y_kp I I' := by
  obtain ⟨p, Q, hs⟩ := Q
  refine ⟨_, c_end_1 hR Q hs c, f1_up, ?_, ?_⟩
  · rw [x_up_self, x_up_ne _ _ (by decide)]
  · rw [x_up_self, x_up_ne _ _ (by decide)]
theorem k_end_no (hR : x_wf R) (Q : y_QS I n g s) (c : ¬ s = n) : ∃ I', x_Cv X mX5_readEnd [.ref 1] (I, L, R) 233 (.inl (some (.int 0)), (I', L, R), 233) ∧ y_f1 I I' ∧ y_fl I I' (-2, s) := by
  obtain ⟨p, Q, hs⟩ := Q
  refine ⟨_, c_end_0 hR Q hs c, f1_up, ?_, ?_, ?_⟩
  · rw [x_up_self, x_up_ne _ _ (by decide), x_up_ne _ _ (by decide), x_up_ne _ _ (by decide)]
  · rw [x_up_self, x_up_ne _ _ (by decide), x_up_self]
  · rw [x_up_self, x_up_self]
theorem wd_n {w : Nat} (hw : 0 < (x_txt w).length) (c : y_wd g n w s) : s + (x_txt w).length ≤ n := by
  have := (c.1 ((x_txt w).length - 1) (by omega)).1
  omega
theorem k_word_ok (hR : x_wf R) (Q : y_QS I n g s) {w l : Nat} (w1 : 1010 ≤ w) (w2 : w ≤ 1013) (hl : (x_txt w).length = l) (l0 : 0 < l) (c : y_wd g n w s) : ∃ I', x_Cv X mX5_readWord [.ref 1, .ref w] (I, L, R) 233 (.inl (some (.int 1)), (I', L, R), 233) ∧ y_f1 I I' ∧ y_QS I' n g (y_sk g n (s + l)) ∧ y_kp I I' := by
  obtain ⟨p, Q, hs⟩ := Q
  subst hl
  have := wd_n l0 c
  refine ⟨_, c_word_1 hR Q hs w1 w2 c, f1_up, ⟨_, Q_up Q this (x_up_ne _ _ (by decide)) (x_up_self _ _ _), rfl⟩, ?_, ?_⟩
  · rw [x_up_self, x_up_ne _ _ (by decide)]
  · rw [x_up_self, x_up_ne _ _ (by decide)]
theorem k_word_no (hR : x_wf R) (Q : y_QS I n g s) {w : Nat} (w1 : 1010 ≤ w) (w2 : w ≤ 1013) (c : ¬ y_wd g n w s) : ∃ I', x_Cv X mX5_readWord [.ref 1, .ref w] (I, L, R) 233 (.inl (some (.int 0)), (I', L, R), 233) ∧ y_f1 I I' ∧ y_QS I' n g s ∧ I' 1 5 = Int32.ofNat s ∧ y_kp I I' := by
  obtain ⟨p, Q, hs⟩ := Q
  have hn : s ≤ n := by rw [← hs]; exact Q_ge Q
  refine ⟨_, c_word_0 hR Q hs w1 w2 c, f1_up, ⟨s, Q_up Q hn (x_up_ne _ _ (by decide)) (x_up_self _ _ _), ?_⟩, ?_, ?_, ?_⟩
  · rw [← hs]; exact fw_id Q.2.2.2.1
  · rw [x_up_self, x_up_self]
  · rw [x_up_self, x_up_ne _ _ (by decide)]
  · rw [x_up_self, x_up_ne _ _ (by decide)]
theorem k_start (hR : x_wf R) (Q : y_QS I n g s) : ∃ I', x_Cv X mX5_startOfToken [.ref 1] (I, L, R) 233 (.inl (some (.int (Int32.ofNat s))), (I', L, R), 233) ∧ y_f1 I I' ∧ y_QS I' n g s ∧ y_kp I I' := by
  obtain ⟨p, Q, hs⟩ := Q
  have hn : s ≤ n := by rw [← hs]; exact Q_ge Q
  refine ⟨_, c_st hR Q hs, f1_up, ⟨s, Q_up Q hn (x_up_ne _ _ (by decide)) (x_up_self _ _ _), ?_⟩, ?_, ?_⟩
  · rw [← hs]; exact fw_id Q.2.2.2.1
  · rw [x_up_self, x_up_ne _ _ (by decide)]
  · rw [x_up_self, x_up_ne _ _ (by decide)]
/-- memory that differs elsewhere -/
theorem QS_c (Q : y_QS I n g s) (h1 : I' 1 = I 1) (h2 : I' 2 = I 2) : y_QS I' n g s := by
  obtain ⟨p, ⟨q1, q2, q3, q4, q5⟩, hs⟩ := Q
  exact ⟨p, ⟨q1, by rw [h1]; exact q2, by rw [h2]; exact q3, q4, by rw [h1]; exact q5⟩, hs⟩
end
end

/-! ===== the model's reader, third: must, takes (laid by wip/whole/src/rd11.py) ===== -/
section
variable {X : x_X} {I : Nat → Nat → Int32} {L : Nat → Nat → Int64} {R : Nat → Nat → Option Nat} {N : Nat}
section
variable {g : Nat → Int32} {n s : Nat}
theorem wd_c {w : Nat} (i : Nat) (hi : i < (x_txt w).length) (h : y_wd g n w s) : g (s + i) = (x_txt w).getD i 0 := (h.1 i hi).2
theorem wd_01 (h : y_wd g n 1011 s) : ¬ y_wd g n 1010 s := fun z => absurd ((wd_c 1 (by decide) z).symm.trans (wd_c 1 (by decide) h)) (by decide)
theorem wd_02 (h : y_wd g n 1012 s) : ¬ y_wd g n 1010 s := fun z => absurd ((wd_c 1 (by decide) z).symm.trans (wd_c 1 (by decide) h)) (by decide)
theorem wd_12 (h : y_wd g n 1012 s) : ¬ y_wd g n 1011 s := fun z => absurd ((wd_c 1 (by decide) z).symm.trans (wd_c 1 (by decide) h)) (by decide)
theorem wd_rg {w : Nat} (w1 : 1010 ≤ w) (w2 : w ≤ 1012) (h : y_wd g n w s) : y_rg g n 97 122 s := by
  have l : 0 < (x_txt w).length := by
    have hr : w = 1010 ∨ w = 1011 ∨ w = 1012 := by omega
    rcases hr with rfl | rfl | rfl <;> decide
  have h0 := h.1 0 l
  have t := txt_l w w1 w2 0 l
  exact ⟨h0.1, by rw [show g s = _ from h0.2]; exact t.1, by rw [show g s = _ from h0.2]; exact t.2⟩
theorem wd_fw {w : Nat} (w1 : 1010 ≤ w) (w2 : w ≤ 1012) (h : y_wd g n w s) : y_fw g n 97 122 s = s + (x_txt w).length := fw_eq (by omega) (fun q q1 q2 => by
  have k := h.1 (q - s) (by omega)
  rw [show s + (q - s) = q by omega] at k
  have t := txt_l w w1 w2 (q - s) (by omega)
  exact ⟨k.1, by rw [k.2]; exact t.1, by rw [k.2]; exact t.2⟩) h.2
theorem bh_w {w : Nat} (w1 : 1010 ≤ w) (w2 : w ≤ 1012) (h : y_wd g n w s) : y_bh g n s = s + (x_txt w).length := by
  have r := wd_rg w1 w2 h
  unfold y_bh
  rw [if_pos r.1, if_pos r, wd_fw w1 w2 h]
theorem dg_nl (h : y_rg g n 48 57 s) : ¬ y_rg g n 97 122 s := fun z => absurd (Int32.le_trans z.2.1 h.2.2) (by decide)
theorem sc_nl (h : y_rg g n 59 59 s) : ¬ y_rg g n 97 122 s := fun z => absurd (Int32.le_trans z.2.1 h.2.2) (by decide)
theorem sc_nd (h : y_rg g n 59 59 s) : ¬ y_rg g n 48 57 s := fun z => absurd (Int32.le_trans h.2.1 z.2.2) (by decide)
theorem bh_4 (h : y_rg g n 48 57 s) : y_bh g n s = y_en g n s := by unfold y_bh; rw [if_pos h.1, if_neg (dg_nl h), if_pos h]
theorem bh_5 (h : y_rg g n 59 59 s) : y_bh g n s = s + 1 := by unfold y_bh; rw [if_pos h.1, if_neg (sc_nl h), if_neg (sc_nd h)]
theorem kw_v : y_kw g n s = 0 ∨ y_kw g n s = 1 ∨ y_kw g n s = 2 ∨ y_kw g n s = 3 := by
  unfold y_kw
  split
  · exact Or.inl rfl
  · split
    · exact Or.inr (Or.inl rfl)
    · split
      · exact Or.inr (Or.inr (Or.inl rfl))
      · exact Or.inr (Or.inr (Or.inr rfl))
theorem kd_w {c : Int32} (hc : c = 0 ∨ c = 1 ∨ c = 2) : y_kd g n s = c ↔ (y_rg g n 97 122 s ∧ y_kw g n s = c) := by
  unfold y_kd
  by_cases h : s < n
  · rw [if_pos h]
    by_cases h2 : y_rg g n 97 122 s
    · rw [if_pos h2]; exact ⟨fun z => ⟨h2, z⟩, fun z => z.2⟩
    · rw [if_neg h2]
      refine ⟨fun z => ?_, fun z => absurd z.1 h2⟩
      exfalso
      split at z
      · rcases hc with rfl | rfl | rfl <;> exact absurd z (by decide)
      · split at z
        · rcases hc with rfl | rfl | rfl <;> exact absurd z (by decide)
        · rcases hc with rfl | rfl | rfl <;> exact absurd z (by decide)
  · rw [if_neg h]
    refine ⟨fun z => ?_, fun z => absurd z.1.1 h⟩
    rcases hc with rfl | rfl | rfl <;> exact absurd z (by decide)
theorem kd_0 : y_kd g n s = 0 ↔ y_wd g n 1010 s := by
  rw [kd_w (Or.inl rfl)]
  refine ⟨fun z => ?_, fun z => ⟨wd_rg (by decide) (by decide) z, if_pos z⟩⟩
  have z2 := z.2
  unfold y_kw at z2
  by_cases c : y_wd g n 1010 s
  · exact c
  · rw [if_neg c] at z2
    exfalso
    split at z2
    · exact absurd z2 (by decide)
    · split at z2
      · exact absurd z2 (by decide)
      · exact absurd z2 (by decide)
theorem kd_1 : y_kd g n s = 1 ↔ y_wd g n 1011 s := by
  rw [kd_w (Or.inr (Or.inl rfl))]
  refine ⟨fun z => ?_, fun z => ⟨wd_rg (by decide) (by decide) z, by unfold y_kw; rw [if_neg (wd_01 z), if_pos z]⟩⟩
  have z2 := z.2
  unfold y_kw at z2
  split at z2
  · exact absurd z2 (by decide)
  · by_cases c : y_wd g n 1011 s
    · exact c
    · rw [if_neg c] at z2
      exfalso
      split at z2
      · exact absurd z2 (by decide)
      · exact absurd z2 (by decide)
theorem kd_2 : y_kd g n s = 2 ↔ y_wd g n 1012 s := by
  rw [kd_w (Or.inr (Or.inr rfl))]
  refine ⟨fun z => ?_, fun z => ⟨wd_rg (by decide) (by decide) z, by unfold y_kw; rw [if_neg (wd_02 z), if_neg (wd_12 z), if_pos z]⟩⟩
  have z2 := z.2
  unfold y_kw at z2
  split at z2
  · exact absurd z2 (by decide)
  · split at z2
    · exact absurd z2 (by decide)
    · by_cases c : y_wd g n 1012 s
      · exact c
      · rw [if_neg c] at z2
        exact absurd z2 (by decide)
theorem kd_4 : y_kd g n s = 4 ↔ y_rg g n 48 57 s := by
  refine ⟨fun z => ?_, fun z => by unfold y_kd; rw [if_pos z.1, if_neg (dg_nl z), if_pos z]⟩
  unfold y_kd at z
  by_cases h : s < n
  · rw [if_pos h] at z
    by_cases h2 : y_rg g n 97 122 s
    · rw [if_pos h2] at z
      exfalso
      rcases kw_v (g := g) (n := n) (s := s) with e | e | e | e <;> rw [e] at z <;> exact absurd z (by decide)
    · rw [if_neg h2] at z
      by_cases h3 : y_rg g n 48 57 s
      · exact h3
      · rw [if_neg h3] at z
        exfalso
        split at z
        · exact absurd z (by decide)
        · exact absurd z (by decide)
  · rw [if_neg h] at z; exact absurd z (by decide)
theorem kd_5 : y_kd g n s = 5 ↔ y_rg g n 59 59 s := by
  refine ⟨fun z => ?_, fun z => by unfold y_kd; rw [if_pos z.1, if_neg (sc_nl z), if_neg (sc_nd z), if_pos z]⟩
  unfold y_kd at z
  by_cases h : s < n
  · rw [if_pos h] at z
    by_cases h2 : y_rg g n 97 122 s
    · rw [if_pos h2] at z
      exfalso
      rcases kw_v (g := g) (n := n) (s := s) with e | e | e | e <;> rw [e] at z <;> exact absurd z (by decide)
    · rw [if_neg h2] at z
      split at z
      · exact absurd z (by decide)
      · by_cases h3 : y_rg g n 59 59 s
        · exact h3
        · rw [if_neg h3] at z
          exact absurd z (by decide)
  · rw [if_neg h] at z; exact absurd z (by decide)
theorem kd_6 (hs : s ≤ n) : y_kd g n s = 6 ↔ s = n := by
  constructor
  · intro z
    unfold y_kd at z
    by_cases h : s < n
    · rw [if_pos h] at z
      exfalso
      split at z
      · rcases kw_v (g := g) (n := n) (s := s) with e | e | e | e <;> rw [e] at z <;> exact absurd z (by decide)
      · split at z
        · exact absurd z (by decide)
        · split at z
          · exact absurd z (by decide)
          · exact absurd z (by decide)
    · omega
  · intro z
    unfold y_kd
    rw [if_neg (by omega)]
end
def y_ML (I : Nat → Nat → Int32) (L : Nat → Nat → Int64) (n : Nat) (g : Nat → Int32) (s : Nat) : Prop := n ≤ 800 ∧ I 225 9 = Int32.ofNat n ∧ (∀ j, j < n → I 231 j = g j) ∧ (∀ q, q < n → y_dg g q ≤ 300) ∧ s ≤ n ∧ I 225 10 = Int32.ofNat s ∧ I 225 11 = Int32.ofNat (y_bh g n s) ∧ I 225 12 = y_kd g n s ∧ (y_rg g n 48 57 s → L 225 16 = (Int32.ofNat (y_vl g n s)).toInt64) ∧ I 225 13 = 0
def y_MW (I : Nat → Nat → Int32) (e : Int32 × Nat) : Prop := ¬ I 225 13 = 0 ∧ I 225 13 = e.1 ∧ I 225 14 = Int32.ofNat e.2
def y_MS (I : Nat → Nat → Int32) (L : Nat → Nat → Int64) (n : Nat) (g : Nat → Int32) (r : y_PR) : Prop := match r with
  | .inl e => y_MW I e
  | .inr w => y_ML I L n g w.1 ∧ ∀ j, j < 606 → I 227 j = w.2 j
/-- only the model's own row changed -/
def y_m5 (I : Nat → Nat → Int32) (L : Nat → Nat → Int64) (I' : Nat → Nat → Int32) (L' : Nat → Nat → Int64) : Prop := (∀ q, ¬ q = 225 → I' q = I q ∧ L' q = L q) ∧ (∀ j, j < 10 ∨ j = 15 → I' 225 j = I 225 j)
section
variable {g : Nat → Int32} {n s : Nat}
theorem m5_r : y_m5 I L I L := ⟨fun _ _ => ⟨rfl, rfl⟩, fun _ _ => rfl⟩
theorem m5_t {I1 I2 : Nat → Nat → Int32} {L1 L2 : Nat → Nat → Int64} (h : y_m5 I L I1 L1) (k : y_m5 I1 L1 I2 L2) : y_m5 I L I2 L2 := ⟨fun q hq => ⟨(k.1 q hq).1.trans (h.1 q hq).1, (k.1 q hq).2.trans (h.1 q hq).2⟩, fun j hj => (k.2 j hj).trans (h.2 j hj)⟩
theorem bh_le (hs : s ≤ n) : y_bh g n s ≤ n := by
  unfold y_bh
  split
  · split
    · exact fw_le hs
    · split
      · exact fw_le hs
      · omega
  · exact hs
theorem c_X9_is {c : Int32} : x_Cv X mX9_is [.ref 225, .int c] (I, L, R) 233 (.inl (some (.int (x_b (I 225 13 = 0 ∧ I 225 12 = c)))), (I, L, R), 233) := by
  show x_Ev X mX9_is 0 [some (.ref 225), some (.int c)] [] ((I, L, R), 233, 0, 0) _
  refine f_aload_n (M := mX9_is) 1 dX9_is_0 rfl rfl ?_
  refine e_getI (M := mX9_is) dX9_is_1 fl_9093 (x_kk rfl) (x_kk rfl) rfl ?_
  refine e_if_ne (M := mX9_is) (t := 19) dX9_is_4 rfl (fun h1 => ?_) (fun h1 => ?_)
  · refine f_iconst (M := mX9_is) 20 dX9_is_19 ki_0 rfl ?_
    refine e_rb (M := mX9_is) dX9_is_20 rfl (x_kk rfl) (x_kk rfl) (by decide) ?_
    exact r_i (x_b0 (fun z => h1 z.1)).symm
  · refine f_aload_n (M := mX9_is) 8 dX9_is_7 rfl rfl ?_
    refine e_getI (M := mX9_is) dX9_is_8 fl_9067 (x_kk rfl) (x_kk rfl) rfl ?_
    refine f_iload_n (M := mX9_is) 12 dX9_is_11 rfl rfl ?_
    refine e_icmp_ne (M := mX9_is) (t := 19) dX9_is_12 rfl (fun h2 => ?_) (fun h2 => ?_)
    · refine f_iconst (M := mX9_is) 20 dX9_is_19 ki_0 rfl ?_
      refine e_rb (M := mX9_is) dX9_is_20 rfl (x_kk rfl) (x_kk rfl) (by decide) ?_
      exact r_i (x_b0 (fun z => h2 z.2)).symm
    · refine f_iconst (M := mX9_is) 16 dX9_is_15 ki_1 rfl ?_
      refine f_goto (M := mX9_is) 20 dX9_is_16 rfl ?_
      refine e_rb (M := mX9_is) dX9_is_20 rfl (x_kk rfl) (x_kk rfl) (by decide) ?_
      exact r_i (x_b1 ⟨x_dn h1, x_dn h2⟩).symm
theorem c_fails_w {c : Int32} (h : ¬ I 225 13 = 0) : x_Cv X mX9_fails [.ref 225, .int c] (I, L, R) 233 (.inl none, (I, L, R), 233) := by
  show x_Ev X mX9_fails 0 [some (.ref 225), some (.int c)] [] ((I, L, R), 233, 0, 0) _
  refine f_aload_n (M := mX9_fails) 1 dX9_fails_0 rfl rfl ?_
  refine e_getI (M := mX9_fails) dX9_fails_1 fl_9093 (x_kk rfl) (x_kk rfl) rfl ?_
  refine e_if_eqF (M := mX9_fails) 8 dX9_fails_4 rfl h ?_
  refine e_rv (M := mX9_fails) dX9_fails_7 rfl (x_kk rfl) (x_kk rfl) ?_
  rfl
theorem c_fails_0 {c : Int32} (h : I 225 13 = 0) : x_Cv X mX9_fails [.ref 225, .int c] (I, L, R) 233 (.inl none, (va_up I 225 (va_up (va_up (I 225) 13 c) 14 (I 225 10)), L, R), 233) := by
  show x_Ev X mX9_fails 0 [some (.ref 225), some (.int c)] [] ((I, L, R), 233, 0, 0) _
  refine f_aload_n (M := mX9_fails) 1 dX9_fails_0 rfl rfl ?_
  refine e_getI (M := mX9_fails) dX9_fails_1 fl_9093 (x_kk rfl) (x_kk rfl) rfl ?_
  refine e_if_eqT (M := mX9_fails) 8 dX9_fails_4 rfl h ?_
  refine f_aload_n (M := mX9_fails) 9 dX9_fails_8 rfl rfl ?_
  refine f_iload_n (M := mX9_fails) 10 dX9_fails_9 rfl rfl ?_
  refine e_putI (M := mX9_fails) dX9_fails_10 fl_9093 (x_kk rfl) (x_kk rfl) rfl (fun q9 => Bool.noConfusion q9) ?_
  refine f_aload_n (M := mX9_fails) 14 dX9_fails_13 rfl rfl ?_
  refine f_aload_n (M := mX9_fails) 15 dX9_fails_14 rfl rfl ?_
  refine e_getI (M := mX9_fails) dX9_fails_15 fl_9057 (x_kk rfl) (x_kk rfl) rfl ?_
  refine e_putI (M := mX9_fails) dX9_fails_18 fl_9096 (x_kk rfl) (x_kk rfl) rfl (fun q9 => Bool.noConfusion q9) ?_
  refine e_rv (M := mX9_fails) dX9_fails_21 rfl (x_kk rfl) (x_kk rfl) ?_
  exact (by rw [up_up, x_up_self, x_up_ne _ _ (show (10 : Nat) ≠ 13 by decide)])
theorem m_fails (M : y_ML I L n g s) {c : Int32} (hc : ¬ c = 0) : ∃ I', x_Cv X mX9_fails [.ref 225, .int c] (I, L, R) 233 (.inl none, (I', L, R), 233) ∧ y_m5 I L I' L ∧ y_MW I' (c, s) := by
  obtain ⟨m1, m2, m3, m4, m5, m10, m11, m12, m16, m13⟩ := M
  refine ⟨_, c_fails_0 m13, ⟨fun q hq => ⟨x_up_ne _ _ hq, rfl⟩, fun j hj => ?_⟩, ?_, ?_, ?_⟩
  · rw [x_up_self, x_up_ne _ _ (by omega), x_up_ne _ _ (by omega)]
  · rw [x_up_self, x_up_ne _ _ (by decide), x_up_self]; exact hc
  · rw [x_up_self, x_up_ne _ _ (by decide), x_up_self]
  · rw [x_up_self, x_up_self]; exact m10
theorem m_nx (hR : x_wf R) (M : y_ML I L n g s) : ∃ I' L', x_Cv X mX9_next [.ref 225] (I, L, R) 233 (.inl none, (I', L', R), 233) ∧ y_m5 I L I' L' ∧ y_ML I' L' n g (y_sk g n (y_bh g n s)) := by
  obtain ⟨m1, m2, m3, m4, m5, m10, m11, m12, m16, m13⟩ := M
  have hb := bh_le (g := g) m5
  obtain ⟨I', L', k, f1, f2, e10, e11, e12, e16⟩ := m_next (X := X) (L := L) hR m1 m2 m3 m4 hb m11 rfl
  refine ⟨I', L', k, ⟨f1, fun j hj => f2 j (by omega) (by omega) (by omega)⟩, m1, by rw [f2 9 (by decide) (by decide) (by decide)]; exact m2, fun j hj => by rw [(f1 231 (by decide)).1]; exact m3 j hj, m4, fw_le hb, e10, e11, e12, e16, by rw [f2 13 (by decide) (by decide) (by decide)]; exact m13⟩
theorem MS_5 {I' : Nat → Nat → Int32} {L' : Nat → Nat → Int64} {w : Nat × (Nat → Int32)} {s' : Nat} (h : ∀ j, j < 606 → I 227 j = w.2 j) (k : y_m5 I L I' L') (M : y_ML I' L' n g s') : y_MS I' L' n g (.inr (s', w.2)) := ⟨M, fun j hj => by rw [(k.1 227 (by decide)).1]; exact h j hj⟩
def y_mu (g : Nat → Int32) (n : Nat) (c : Int32) (s : Nat) (a : Nat → Int32) : y_PR := if y_kd g n s = c then .inr (y_sk g n (y_bh g n s), a) else .inl (-2, s)
theorem m_must (hR : x_wf R) {r : y_PR} (S : y_MS I L n g r) (c : Int32) : ∃ I' L', x_Cv X mX9_must [.ref 225, .int c] (I, L, R) 233 (.inl none, (I', L', R), 233) ∧ y_m5 I L I' L' ∧ y_MS I' L' n g (y_bd r (y_mu g n c)) := by
  cases r with
  | inl e =>
    refine ⟨I, L, ?_, m5_r, S⟩
    show x_Ev X mX9_must 0 [some (.ref 225), some (.int c)] [] ((I, L, R), 233, 0, 0) _
    refine f_aload_n (M := mX9_must) 1 dX9_must_0 rfl rfl ?_
    refine f_iload_n (M := mX9_must) 2 dX9_must_1 rfl rfl ?_
    refine e_cV (M := mX9_must) [_] 0 0 dX9_must_2 pa_9099 pb_9099 cc_9099 rfl rfl rfl rfl rfl (x_kk rfl) (x_kk rfl) rfl (c_X9_is) rfl ?_
    refine e_if_neF (M := mX9_must) 14 dX9_must_5 rfl (x_bnn (fun z => S.1 z.1)) ?_
    refine f_aload_n (M := mX9_must) 9 dX9_must_8 rfl rfl ?_
    refine f_bipush (M := mX9_must) 11 dX9_must_9 kb_m2 rfl ?_
    refine e_cV (M := mX9_must) [] 0 0 dX9_must_11 pa_9103 pb_9103 cc_9103 rfl rfl rfl rfl rfl (x_kk rfl) (x_kk rfl) rfl (c_fails_w S.1) rfl ?_
    refine f_aload_n (M := mX9_must) 15 dX9_must_14 rfl rfl ?_
    refine e_getI (M := mX9_must) dX9_must_15 fl_9093 (x_kk rfl) (x_kk rfl) rfl ?_
    refine e_if_neT (M := mX9_must) 25 dX9_must_18 rfl S.1 ?_
    refine e_rv (M := mX9_must) dX9_must_25 rfl (x_kk rfl) (x_kk rfl) ?_
    rfl
  | inr w =>
    obtain ⟨M, hw⟩ := S
    have m12 := M.2.2.2.2.2.2.2.1
    have m13 := M.2.2.2.2.2.2.2.2.2
    show ∃ I' L', _ ∧ _ ∧ y_MS I' L' n g (y_mu g n c w.1 w.2)
    unfold y_mu
    by_cases h : y_kd g n w.1 = c
    · rw [if_pos h]
      obtain ⟨I1, L1, k1, f1, M1⟩ := m_nx (X := X) hR M
      refine ⟨I1, L1, ?_, f1, MS_5 hw f1 M1⟩
      show x_Ev X mX9_must 0 [some (.ref 225), some (.int c)] [] ((I, L, R), 233, 0, 0) _
      refine f_aload_n (M := mX9_must) 1 dX9_must_0 rfl rfl ?_
      refine f_iload_n (M := mX9_must) 2 dX9_must_1 rfl rfl ?_
      refine e_cV (M := mX9_must) [_] 0 0 dX9_must_2 pa_9099 pb_9099 cc_9099 rfl rfl rfl rfl rfl (x_kk rfl) (x_kk rfl) rfl (c_X9_is) rfl ?_
      refine e_if_neT (M := mX9_must) 14 dX9_must_5 rfl (x_bn ⟨m13, m12.trans h⟩) ?_
      refine f_aload_n (M := mX9_must) 15 dX9_must_14 rfl rfl ?_
      refine e_getI (M := mX9_must) dX9_must_15 fl_9093 (x_kk rfl) (x_kk rfl) rfl ?_
      refine e_if_neF (M := mX9_must) 25 dX9_must_18 rfl (fun z => z m13) ?_
      refine f_aload_n (M := mX9_must) 22 dX9_must_21 rfl rfl ?_
      refine e_cV (M := mX9_must) [] 0 0 dX9_must_22 pa_9107 pb_9107 cc_9107 rfl rfl rfl rfl rfl (x_kk rfl) (x_kk rfl) rfl (k1) rfl ?_
      refine e_rv (M := mX9_must) dX9_must_25 rfl (x_kk rfl) (x_kk rfl) ?_
      rfl
    · rw [if_neg h]
      obtain ⟨I1, k1, f1, W1⟩ := m_fails (X := X) (R := R) M (c := -2) (by decide)
      refine ⟨I1, L, ?_, f1, W1⟩
      show x_Ev X mX9_must 0 [some (.ref 225), some (.int c)] [] ((I, L, R), 233, 0, 0) _
      refine f_aload_n (M := mX9_must) 1 dX9_must_0 rfl rfl ?_
      refine f_iload_n (M := mX9_must) 2 dX9_must_1 rfl rfl ?_
      refine e_cV (M := mX9_must) [_] 0 0 dX9_must_2 pa_9099 pb_9099 cc_9099 rfl rfl rfl rfl rfl (x_kk rfl) (x_kk rfl) rfl (c_X9_is) rfl ?_
      refine e_if_neF (M := mX9_must) 14 dX9_must_5 rfl (x_bnn (fun z => h (m12.symm.trans z.2))) ?_
      refine f_aload_n (M := mX9_must) 9 dX9_must_8 rfl rfl ?_
      refine f_bipush (M := mX9_must) 11 dX9_must_9 kb_m2 rfl ?_
      refine e_cV (M := mX9_must) [] 0 0 dX9_must_11 pa_9103 pb_9103 cc_9103 rfl rfl rfl rfl rfl (x_kk rfl) (x_kk rfl) rfl (k1) rfl ?_
      refine f_aload_n (M := mX9_must) 15 dX9_must_14 rfl rfl ?_
      refine e_getI (M := mX9_must) dX9_must_15 fl_9093 (x_kk rfl) (x_kk rfl) rfl ?_
      refine e_if_neT (M := mX9_must) 25 dX9_must_18 rfl W1.1 ?_
      refine e_rv (M := mX9_must) dX9_must_25 rfl (x_kk rfl) (x_kk rfl) ?_
      rfl
def y_tk (g : Nat → Int32) (n lo hi t s : Nat) (a : Nat → Int32) : y_PR := match y_n1 g n lo hi s with
  | .inl e => .inl e
  | .inr w => .inr (w.2, va_up a t (Int32.ofNat w.1))
theorem MS_st {I1 : Nat → Nat → Int32} {L1 : Nat → Nat → Int64} {t : Nat} {v : Int32} {e : Int32 × Nat} (h : y_MW I1 e) : y_MS (va_up I1 227 (va_up (I1 227) t v)) L1 n g (.inl e) := by
  show y_MW _ e
  unfold y_MW
  rw [x_up_ne _ _ (show (225 : Nat) ≠ 227 by decide)]
  exact h
theorem m_takes (hR : x_wf R) {r : y_PR} (S : y_MS I L n g r) {lo hi t : Nat} (hl : lo ≤ 1000) (hh : hi < 10000000) : ∃ v I' L', x_Cv X mX9_takes [.ref 225, .int (Int32.ofNat lo), .int (Int32.ofNat hi)] (I, L, R) 233 (.inl (some (.int v)), (I', L', R), 233) ∧ y_m5 I L I' L' ∧ y_MS (va_up I' 227 (va_up (I' 227) t v)) L' n g (y_bd r (y_tk g n lo hi t)) := by
  cases r with
  | inl e =>
    refine ⟨(L 225 16).toInt32, I, L, ?_, m5_r, MS_st S⟩
    show x_Ev X mX9_takes 0 [some (.ref 225), some (.int (Int32.ofNat lo)), some (.int (Int32.ofNat hi)), none] [] ((I, L, R), 233, 0, 0) _
    refine f_aload_n (M := mX9_takes) 1 dX9_takes_0 rfl rfl ?_
    refine f_iconst (M := mX9_takes) 2 dX9_takes_1 ki_4 rfl ?_
    refine e_cV (M := mX9_takes) [_] 0 0 dX9_takes_2 pa_9099 pb_9099 cc_9099 rfl rfl rfl rfl rfl (x_kk rfl) (x_kk rfl) rfl (c_X9_is) rfl ?_
    refine e_if_neF (M := mX9_takes) 17 dX9_takes_5 rfl (x_bnn (fun z => S.1 z.1)) ?_
    refine f_aload_n (M := mX9_takes) 9 dX9_takes_8 rfl rfl ?_
    refine f_bipush (M := mX9_takes) 11 dX9_takes_9 kb_m2 rfl ?_
    refine e_cV (M := mX9_takes) [] 0 0 dX9_takes_11 pa_9103 pb_9103 cc_9103 rfl rfl rfl rfl rfl (x_kk rfl) (x_kk rfl) rfl (c_fails_w S.1) rfl ?_
    refine f_goto (M := mX9_takes) 37 dX9_takes_14 rfl ?_
    refine f_aload_n (M := mX9_takes) 38 dX9_takes_37 rfl rfl ?_
    refine e_getL (M := mX9_takes) dX9_takes_38 fl_9085 (x_kk rfl) (x_kk rfl) rfl ?_
    refine f_l2i (M := mX9_takes) 42 dX9_takes_41 rfl ?_
    refine f_istore_n (M := mX9_takes) (ls' := [_, _, _, _]) 43 dX9_takes_42 rfl rfl rfl ?_
    refine f_aload_n (M := mX9_takes) 44 dX9_takes_43 rfl rfl ?_
    refine e_getI (M := mX9_takes) dX9_takes_44 fl_9093 (x_kk rfl) (x_kk rfl) rfl ?_
    refine e_if_neT (M := mX9_takes) 54 dX9_takes_47 rfl S.1 ?_
    refine f_iload_n (M := mX9_takes) 55 dX9_takes_54 rfl rfl ?_
    refine e_ri (M := mX9_takes) dX9_takes_55 rfl (x_kk rfl) (x_kk rfl) ?_
    rfl
  | inr w =>
    obtain ⟨M, hw⟩ := S
    have m12 := M.2.2.2.2.2.2.2.1
    have m13 := M.2.2.2.2.2.2.2.2.2
    have m16 := M.2.2.2.2.2.2.2.2.1
    have hsn := M.2.2.2.2.1
    show ∃ v I' L', _ ∧ _ ∧ y_MS (va_up I' 227 (va_up (I' 227) t v)) L' n g (y_tk g n lo hi t w.1 w.2)
    unfold y_tk y_n1
    by_cases c : y_rg g n 48 57 w.1
    · rw [if_pos c]
      have e16 := m16 c
      obtain ⟨m, hm⟩ : ∃ m, y_en g n w.1 = w.1 + m := ⟨y_en g n w.1 - w.1, by have : w.1 ≤ y_en g n w.1 := fw_ge hsn; omega⟩
      have en : y_en g n w.1 ≤ n := fw_le hsn
      have vb : y_vl g n w.1 ≤ 100000400 := by unfold y_vl; rw [hm, Nat.add_sub_cancel_left]; exact nv_b M.2.2.2.1 m (by omega)
      have hq : (Int32.ofNat lo ≤ Int32.ofNat (y_vl g n w.1) ∧ Int32.ofNat (y_vl g n w.1) ≤ Int32.ofNat hi) ↔ y_okn g n lo hi w.1 := by rw [n_le (by omega) (by omega), n_le (by omega) (by omega)]
      have tv : (Int32.ofNat (y_vl g n w.1)).toInt64.toInt32 = Int32.ofNat (y_vl g n w.1) := by simp
      by_cases d : y_okn g n lo hi w.1
      · rw [if_pos d]
        obtain ⟨I1, L1, k1, f1, M1⟩ := m_nx (X := X) hR M
        rw [bh_4 c] at M1
        refine ⟨Int32.ofNat (y_vl g n w.1), I1, L1, ?_, f1, ?_⟩
        · show x_Ev X mX9_takes 0 [some (.ref 225), some (.int (Int32.ofNat lo)), some (.int (Int32.ofNat hi)), none] [] ((I, L, R), 233, 0, 0) _
          refine f_aload_n (M := mX9_takes) 1 dX9_takes_0 rfl rfl ?_
          refine f_iconst (M := mX9_takes) 2 dX9_takes_1 ki_4 rfl ?_
          refine e_cV (M := mX9_takes) [_] 0 0 dX9_takes_2 pa_9099 pb_9099 cc_9099 rfl rfl rfl rfl rfl (x_kk rfl) (x_kk rfl) rfl (c_X9_is) rfl ?_
          refine e_if_neT (M := mX9_takes) 17 dX9_takes_5 rfl (x_bn ⟨m13, m12.trans (kd_4.mpr c)⟩) ?_
          refine f_aload_n (M := mX9_takes) 18 dX9_takes_17 rfl rfl ?_
          refine e_getL (M := mX9_takes) dX9_takes_18 fl_9085 (x_kk rfl) (x_kk rfl) rfl ?_
          refine f_iload_n (M := mX9_takes) 22 dX9_takes_21 rfl rfl ?_
          refine f_i2l (M := mX9_takes) 23 dX9_takes_22 rfl ?_
          refine f_iload_n (M := mX9_takes) 24 dX9_takes_23 rfl rfl ?_
          refine f_i2l (M := mX9_takes) 25 dX9_takes_24 rfl ?_
          rw [e16]
          refine e_cS (M := mX9_takes) [_] 0 0 dX9_takes_25 pa_9074 cc_9074 rfl rfl rfl rfl rfl (x_kk rfl) (x_kk rfl) rfl (c_X9_isInI (v := Int32.ofNat (y_vl g n w.1)) (lo := Int32.ofNat lo) (hi := Int32.ofNat hi)) rfl ?_
          refine e_if_neT (M := mX9_takes) 37 dX9_takes_28 rfl (x_bn (hq.mpr d)) ?_
          refine f_aload_n (M := mX9_takes) 38 dX9_takes_37 rfl rfl ?_
          refine e_getL (M := mX9_takes) dX9_takes_38 fl_9085 (x_kk rfl) (x_kk rfl) rfl ?_
          refine f_l2i (M := mX9_takes) 42 dX9_takes_41 rfl ?_
          refine f_istore_n (M := mX9_takes) (ls' := [_, _, _, _]) 43 dX9_takes_42 rfl rfl rfl ?_
          refine f_aload_n (M := mX9_takes) 44 dX9_takes_43 rfl rfl ?_
          refine e_getI (M := mX9_takes) dX9_takes_44 fl_9093 (x_kk rfl) (x_kk rfl) rfl ?_
          refine e_if_neF (M := mX9_takes) 54 dX9_takes_47 rfl (fun z => z m13) ?_
          refine f_aload_n (M := mX9_takes) 51 dX9_takes_50 rfl rfl ?_
          refine e_cV (M := mX9_takes) [] 0 0 dX9_takes_51 pa_9107 pb_9107 cc_9107 rfl rfl rfl rfl rfl (x_kk rfl) (x_kk rfl) rfl (k1) rfl ?_
          refine f_iload_n (M := mX9_takes) 55 dX9_takes_54 rfl rfl ?_
          refine e_ri (M := mX9_takes) dX9_takes_55 rfl (x_kk rfl) (x_kk rfl) ?_
          exact r_i (by rw [e16, tv])
        · refine ⟨?_, fun j hj => ?_⟩
          · obtain ⟨m1, m2, m3, m4, m5, m10, m11, m12, m16, m13⟩ := M1
            refine ⟨m1, ?_, ?_, m4, m5, ?_, ?_, ?_, m16, ?_⟩
            · rw [x_up_ne _ _ (by decide)]; exact m2
            · rw [x_up_ne _ _ (by decide)]; exact m3
            · rw [x_up_ne _ _ (by decide)]; exact m10
            · rw [x_up_ne _ _ (by decide)]; exact m11
            · rw [x_up_ne _ _ (by decide)]; exact m12
            · rw [x_up_ne _ _ (by decide)]; exact m13
          · rw [x_up_self]
            dsimp only
            by_cases z : j = t
            · rw [z, x_up_self, x_up_self]
            · rw [x_up_ne _ _ z, x_up_ne _ _ z, (f1.1 227 (by decide)).1]; exact hw j hj
      · rw [if_neg d]
        obtain ⟨I1, k1, f1, W1⟩ := m_fails (X := X) (R := R) M (c := -3) (by decide)
        refine ⟨(L 225 16).toInt32, I1, L, ?_, f1, MS_st W1⟩
        show x_Ev X mX9_takes 0 [some (.ref 225), some (.int (Int32.ofNat lo)), some (.int (Int32.ofNat hi)), none] [] ((I, L, R), 233, 0, 0) _
        refine f_aload_n (M := mX9_takes) 1 dX9_takes_0 rfl rfl ?_
        refine f_iconst (M := mX9_takes) 2 dX9_takes_1 ki_4 rfl ?_
        refine e_cV (M := mX9_takes) [_] 0 0 dX9_takes_2 pa_9099 pb_9099 cc_9099 rfl rfl rfl rfl rfl (x_kk rfl) (x_kk rfl) rfl (c_X9_is) rfl ?_
        refine e_if_neT (M := mX9_takes) 17 dX9_takes_5 rfl (x_bn ⟨m13, m12.trans (kd_4.mpr c)⟩) ?_
        refine f_aload_n (M := mX9_takes) 18 dX9_takes_17 rfl rfl ?_
        refine e_getL (M := mX9_takes) dX9_takes_18 fl_9085 (x_kk rfl) (x_kk rfl) rfl ?_
        refine f_iload_n (M := mX9_takes) 22 dX9_takes_21 rfl rfl ?_
        refine f_i2l (M := mX9_takes) 23 dX9_takes_22 rfl ?_
        refine f_iload_n (M := mX9_takes) 24 dX9_takes_23 rfl rfl ?_
        refine f_i2l (M := mX9_takes) 25 dX9_takes_24 rfl ?_
        rw [e16]
        refine e_cS (M := mX9_takes) [_] 0 0 dX9_takes_25 pa_9074 cc_9074 rfl rfl rfl rfl rfl (x_kk rfl) (x_kk rfl) rfl (c_X9_isInI (v := Int32.ofNat (y_vl g n w.1)) (lo := Int32.ofNat lo) (hi := Int32.ofNat hi)) rfl ?_
        refine e_if_neF (M := mX9_takes) 37 dX9_takes_28 rfl (x_bnn (fun z => d (hq.mp z))) ?_
        refine f_aload_n (M := mX9_takes) 32 dX9_takes_31 rfl rfl ?_
        refine f_bipush (M := mX9_takes) 34 dX9_takes_32 kb_m3 rfl ?_
        refine e_cV (M := mX9_takes) [] 0 0 dX9_takes_34 pa_9103 pb_9103 cc_9103 rfl rfl rfl rfl rfl (x_kk rfl) (x_kk rfl) rfl (k1) rfl ?_
        refine f_aload_n (M := mX9_takes) 38 dX9_takes_37 rfl rfl ?_
        refine e_getL (M := mX9_takes) dX9_takes_38 fl_9085 (x_kk rfl) (x_kk rfl) rfl ?_
        refine f_l2i (M := mX9_takes) 42 dX9_takes_41 rfl ?_
        refine f_istore_n (M := mX9_takes) (ls' := [_, _, _, _]) 43 dX9_takes_42 rfl rfl rfl ?_
        refine f_aload_n (M := mX9_takes) 44 dX9_takes_43 rfl rfl ?_
        refine e_getI (M := mX9_takes) dX9_takes_44 fl_9093 (x_kk rfl) (x_kk rfl) rfl ?_
        refine e_if_neT (M := mX9_takes) 54 dX9_takes_47 rfl W1.1 ?_
        refine f_iload_n (M := mX9_takes) 55 dX9_takes_54 rfl rfl ?_
        refine e_ri (M := mX9_takes) dX9_takes_55 rfl (x_kk rfl) (x_kk rfl) ?_
        exact r_i (by rw [e16])
    · rw [if_neg c]
      obtain ⟨I1, k1, f1, W1⟩ := m_fails (X := X) (R := R) M (c := -2) (by decide)
      refine ⟨(L 225 16).toInt32, I1, L, ?_, f1, MS_st W1⟩
      show x_Ev X mX9_takes 0 [some (.ref 225), some (.int (Int32.ofNat lo)), some (.int (Int32.ofNat hi)), none] [] ((I, L, R), 233, 0, 0) _
      refine f_aload_n (M := mX9_takes) 1 dX9_takes_0 rfl rfl ?_
      refine f_iconst (M := mX9_takes) 2 dX9_takes_1 ki_4 rfl ?_
      refine e_cV (M := mX9_takes) [_] 0 0 dX9_takes_2 pa_9099 pb_9099 cc_9099 rfl rfl rfl rfl rfl (x_kk rfl) (x_kk rfl) rfl (c_X9_is) rfl ?_
      refine e_if_neF (M := mX9_takes) 17 dX9_takes_5 rfl (x_bnn (fun z => c (kd_4.mp (m12.symm.trans z.2)))) ?_
      refine f_aload_n (M := mX9_takes) 9 dX9_takes_8 rfl rfl ?_
      refine f_bipush (M := mX9_takes) 11 dX9_takes_9 kb_m2 rfl ?_
      refine e_cV (M := mX9_takes) [] 0 0 dX9_takes_11 pa_9103 pb_9103 cc_9103 rfl rfl rfl rfl rfl (x_kk rfl) (x_kk rfl) rfl (k1) rfl ?_
      refine f_goto (M := mX9_takes) 37 dX9_takes_14 rfl ?_
      refine f_aload_n (M := mX9_takes) 38 dX9_takes_37 rfl rfl ?_
      refine e_getL (M := mX9_takes) dX9_takes_38 fl_9085 (x_kk rfl) (x_kk rfl) rfl ?_
      refine f_l2i (M := mX9_takes) 42 dX9_takes_41 rfl ?_
      refine f_istore_n (M := mX9_takes) (ls' := [_, _, _, _]) 43 dX9_takes_42 rfl rfl rfl ?_
      refine f_aload_n (M := mX9_takes) 44 dX9_takes_43 rfl rfl ?_
      refine e_getI (M := mX9_takes) dX9_takes_44 fl_9093 (x_kk rfl) (x_kk rfl) rfl ?_
      refine e_if_neT (M := mX9_takes) 54 dX9_takes_47 rfl W1.1 ?_
      refine f_iload_n (M := mX9_takes) 55 dX9_takes_54 rfl rfl ?_
      refine e_ri (M := mX9_takes) dX9_takes_55 rfl (x_kk rfl) (x_kk rfl) ?_
      rfl
end
end

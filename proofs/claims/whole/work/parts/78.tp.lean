/-! ===== the turning point: orders, values by a change ===== -/
section
variable {a : Nat → Int32}
theorem fst_no {f : Nat → Prop} [DecidablePred f] {g : Nat → Nat → Prop} [DecidableRel g] : ∀ {n : Nat}, sp_fst f g n = none → ∀ o, o < n → ¬ f o
  | 0, _, o, h => absurd h (Nat.not_lt_zero o)
  | n + 1, h, o, ho => by
    rw [sp_fst] at h
    cases hw : sp_fst f g n with
    | none =>
      rw [hw] at h
      dsimp only at h
      by_cases hf : f n
      · rw [if_pos hf] at h; cases h
      · by_cases e : o = n
        · rw [e]; exact hf
        · exact fst_no hw o (by omega)
    | some i =>
      rw [hw] at h
      dsimp only at h
      by_cases hf : f n ∧ g n i
      · rw [if_pos hf] at h; cases h
      · rw [if_neg hf] at h; cases h
theorem fst_mx {f : Nat → Prop} [DecidablePred f] {g : Nat → Nat → Prop} [DecidableRel g] (tr : ∀ i j k, f i → f j → f k → g i j → g j k → g i k) (as : ∀ i j, f i → f j → g i j → ¬ g j i) : ∀ {n j : Nat}, sp_fst f g n = some j → f j ∧ ∀ o, o < n → ¬ o = j → f o → ¬ g o j
  | 0, j, h => by cases h
  | n + 1, j, h => by
    rw [sp_fst] at h
    cases hw : sp_fst f g n with
    | none =>
      rw [hw] at h
      dsimp only at h
      by_cases hf : f n
      · rw [if_pos hf] at h
        cases h
        exact ⟨hf, fun o ho hne hfo => absurd hfo (fst_no hw o (by omega))⟩
      · rw [if_neg hf] at h; cases h
    | some i =>
      have ih := fst_mx tr as hw
      have hi := sp_fst_lt hw
      rw [hw] at h
      dsimp only at h
      by_cases hf : f n ∧ g n i
      · rw [if_pos hf] at h
        cases h
        refine ⟨hf.1, fun o ho hne hfo hg => ?_⟩
        by_cases e : o = i
        · subst e
          exact as _ _ hfo hf.1 hg hf.2
        · exact ih.2 o (by omega) e hfo (tr _ _ _ hfo hf.1 ih.1 hg hf.2)
      · rw [if_neg hf] at h
        cases h
        refine ⟨ih.1, fun o ho hne hfo hg => ?_⟩
        by_cases e : o = n
        · subst e
          exact hf ⟨hfo, hg⟩
        · exact ih.2 o (by omega) hne hfo hg
theorem fst_iff {f : Nat → Prop} [DecidablePred f] {g : Nat → Nat → Prop} [DecidableRel g] (tr : ∀ i j k, f i → f j → f k → g i j → g j k → g i k) (as : ∀ i j, f i → f j → g i j → ¬ g j i) (tot : ∀ i j, f i → f j → ¬ i = j → g i j ∨ g j i) {n w : Nat} (hw : w < n) (hf : f w) : sp_fst f g n = some w ↔ ∀ o, o < n → ¬ o = w → f o → ¬ g o w := by
  constructor
  · intro h; exact (fst_mx tr as h).2
  · intro h
    cases hj : sp_fst f g n with
    | none => exact absurd hf (fst_no hj w hw)
    | some j =>
      have m := fst_mx tr as hj
      have hjn := sp_fst_lt hj
      by_cases e : j = w
      · rw [e]
      · rcases tot j w m.1 hf e with q | q
        · exact absurd q (h j hjn e m.1)
        · exact absurd q (m.2 w hw (fun z => e z.symm) hf)
theorem prob_s {q n : Nat} (h : sp_prob a q n = 0) : 0 < a (224 + 8 * q + 7) := by
  unfold sp_prob at h
  by_cases g : 0 < a (224 + 8 * q + 7)
  · exact g
  · rw [if_pos g] at h; exact absurd h (by decide)
theorem bef_iff {N : Nat} (hB : y_IB N a) {σ h : Int32} {n w : Nat} (hw : w < 8) (hf : sp_prob a w n = 0) : sp_win a σ h n 8 = some w ↔ ∀ o, o < 8 → ¬ o = w → sp_prob a o n = 0 → ¬ sp_bef a o w σ h n := by
  have dis : ∀ i j, i < 8 → j < 8 → sp_prob a i n = 0 → ¬ i = j → ¬ (a (224 + 8 * i + 7)).toInt = (a (224 + 8 * j + 7)).toInt := fun i j hi hj fi hne z => hB.2.2.1 i j hi hj hne (prob_s fi) (t_eq.mpr z)
  have ex : ∀ i j, sp_bef a i j σ h n ↔ ((sp_val a j σ h n).toInt < (sp_val a i σ h n).toInt ∨ ((sp_val a i σ h n).toInt = (sp_val a j σ h n).toInt ∧ (a (224 + 8 * i + 7)).toInt < (a (224 + 8 * j + 7)).toInt)) := by
    intro i j
    show (sp_val a j σ h n < sp_val a i σ h n ∨ (sp_val a i σ h n = sp_val a j σ h n ∧ a (224 + 8 * i + 7) < a (224 + 8 * j + 7))) ↔ _
    rw [T_lt, T_eq, t_lt]
  have key := fst_iff (f := fun k => sp_prob a k n = 0 ∧ k < 8) (g := fun k j => sp_bef a k j σ h n)
    (fun i j k _ _ _ h1 h2 => by
      have h1 := (ex i j).mp h1
      have h2 := (ex j k).mp h2
      exact (ex i k).mpr (by omega))
    (fun i j _ _ h1 h2 => by
      have h1 := (ex i j).mp h1
      have h2 := (ex j i).mp h2
      omega)
    (fun i j fi fj hne => by
      have d := dis i j fi.2 fj.2 fi.1 hne
      by_cases c : sp_bef a i j σ h n
      · exact Or.inl c
      · refine Or.inr ((ex j i).mpr ?_)
        have c2 : ¬ _ := fun z => c ((ex i j).mpr z)
        omega) (n := 8) hw ⟨hf, hw⟩
  rw [show sp_win a σ h n 8 = sp_fst (fun k => sp_prob a k n = 0 ∧ k < 8) (fun k j => sp_bef a k j σ h n) 8 from fst_c (fun k hk => ⟨fun z => ⟨z, hk⟩, fun z => z.1⟩) (fun k j _ _ => Iff.rfl), key]
  exact ⟨fun z o ho hne hfo => z o ho hne ⟨hfo, ho⟩, fun z o ho hne hfo => z o ho hne hfo.1⟩
/-! values by a change -/
theorem val_g {k s : Nat} (hs6 : s < 6) {h : Int32} : ∀ {n : Nat}, n ≤ 6 → sp_val a k (Int32.ofNat s) h n = sp_val a k (-1) 100 n + (if s < n then ((sp_vol a s).toInt64 * h.toInt64 / 100 - (sp_vol a s).toInt64) * (a (224 + 8 * k + s)).toInt64 else 0)
  | 0, _ => by rw [if_neg (by omega)]; rfl
  | n + 1, hn => by
    rw [sp_val_s, sp_val_s, val_g hs6 (by omega), sp_part1 (by omega)]
    unfold sp_part
    by_cases e : s = n
    · subst e
      rw [if_pos rfl, if_neg (by omega), if_pos (by omega)]
      generalize sp_val a k (-1) 100 s = x
      generalize (sp_vol a s).toInt64 * h.toInt64 / 100 = y
      generalize (sp_vol a s).toInt64 = z
      generalize (a (224 + 8 * k + s)).toInt64 = t
      grind
    · rw [if_neg (fun z => e ((n_eq (by omega) (by omega)).mp z).symm)] 
      by_cases hs : s < n
      · rw [if_pos hs, if_pos (by omega)]
        generalize sp_val a k (-1) 100 n = x
        generalize ((sp_vol a s).toInt64 * h.toInt64 / 100 - (sp_vol a s).toInt64) * (a (224 + 8 * k + s)).toInt64 = y
        generalize (sp_vol a n).toInt64 * (a (224 + 8 * k + n)).toInt64 = z
        grind
      · rw [if_neg hs, if_neg (by omega), Int64.add_zero, Int64.add_zero]
/-- the j-th change: -1, 1, -2, 2, .. -/
def y_qj (j : Nat) : Int32 := if j % 2 = 0 then -(Int32.ofNat (j / 2 + 1)) else Int32.ofNat (j / 2 + 1)
def y_qr (j : Nat) : Int32 := if j < 200 then y_qj j else 0
theorem qj_i {j : Nat} (h : j < 200) : (y_qj j).toInt = (if j % 2 = 0 then -((j / 2 + 1 : Nat) : Int) else ((j / 2 + 1 : Nat) : Int)) := by
  unfold y_qj
  by_cases e : j % 2 = 0
  · rw [if_pos e, if_pos e, t_neg (by rw [t_n (by omega)]; omega), t_n (by omega)]
  · rw [if_neg e, if_neg e, t_n (by omega)]
theorem qj_e {k : Nat} (h : 1 ≤ k) : y_qj (2 * (k - 1)) = -(Int32.ofNat k) := by
  unfold y_qj
  rw [if_pos (by omega), show 2 * (k - 1) / 2 + 1 = k by omega]
theorem qj_o {k : Nat} (h : 1 ≤ k) : y_qj (2 * (k - 1) + 1) = Int32.ofNat k := by
  unfold y_qj
  rw [if_neg (by omega), show (2 * (k - 1) + 1) / 2 + 1 = k by omega]
theorem sch_2 {C : Nat → Prop} [DecidablePred C] {d m : Nat} : y_sch C (2 * (d + 1)) m = (if C m then m else if C (m + 1) then m + 1 else y_sch C (2 * d) (m + 2)) := by
  rw [show 2 * (d + 1) = 2 * d + 1 + 1 by omega, y_sch, y_sch]
theorem sch_sp {C : Nat → Prop} [DecidablePred C] : ∀ (d m : Nat), m ≤ y_sch C d m ∧ y_sch C d m ≤ m + d ∧ (y_sch C d m < m + d → C (y_sch C d m)) ∧ (∀ j, m ≤ j → j < y_sch C d m → ¬ C j)
  | 0, m => ⟨Nat.le_refl _, Nat.le_refl _, fun h => absurd h (Nat.lt_irrefl _), fun j h1 h2 => absurd h2 (by show ¬ j < m; omega)⟩
  | d + 1, m => by
    have ih := sch_sp (C := C) d (m + 1)
    rw [y_sch]
    by_cases h : C m
    · rw [if_pos h]
      exact ⟨by omega, by omega, fun _ => h, fun j h1 h2 => absurd h2 (by omega)⟩
    · rw [if_neg h]
      refine ⟨by omega, by omega, fun g => ih.2.2.1 (by omega), fun j h1 h2 => ?_⟩
      by_cases e : j = m
      · rw [e]; exact h
      · exact ih.2.2.2 j (by omega) h2
/-- the least over those that keep f -/
def y_mn (J : Nat → Nat) (f : Nat → Prop) [DecidablePred f] : Nat → Nat
  | 0 => 200
  | n + 1 => if f n ∧ J n < y_mn J f n then J n else y_mn J f n
theorem mn_sp {J : Nat → Nat} {f : Nat → Prop} [DecidablePred f] : ∀ (n : Nat), y_mn J f n ≤ 200 ∧ (y_mn J f n < 200 → ∃ o, o < n ∧ f o ∧ J o = y_mn J f n) ∧ (∀ o, o < n → f o → y_mn J f n ≤ J o ∨ 200 ≤ J o)
  | 0 => ⟨Nat.le_refl _, fun h => absurd h (Nat.lt_irrefl _), fun o h => absurd h (Nat.not_lt_zero _)⟩
  | n + 1 => by
    have ih := mn_sp (J := J) (f := f) n
    rw [y_mn]
    by_cases h : f n ∧ J n < y_mn J f n
    · rw [if_pos h]
      refine ⟨by omega, fun _ => ⟨n, by omega, h.1, rfl⟩, fun o ho hf => ?_⟩
      by_cases e : o = n
      · rw [e]; omega
      · have := ih.2.2 o (by omega) hf; omega
    · rw [if_neg h]
      refine ⟨ih.1, fun g => ?_, fun o ho hf => ?_⟩
      · obtain ⟨o, h1, h2⟩ := ih.2.1 g
        exact ⟨o, by omega, h2⟩
      · by_cases e : o = n
        · subst e
          by_cases c : J o < y_mn J f o
          · exact absurd ⟨hf, c⟩ h
          · omega
        · exact ih.2.2 o (by omega) hf
theorem mn_eq {C : Nat → Nat → Prop} [∀ o, DecidablePred (C o)] {D : Nat → Prop} [DecidablePred D] {f : Nat → Prop} [DecidablePred f] (h : ∀ j, j < 200 → (D j ↔ ∃ o, o < 8 ∧ f o ∧ C o j)) : y_mn (fun o => y_sch (C o) 200 0) f 8 = y_sch D 200 0 := by
  have m := mn_sp (J := fun o => y_sch (C o) 200 0) (f := f) 8
  have s := sch_sp (C := D) 200 0
  have l1 : y_sch D 200 0 ≤ y_mn (fun o => y_sch (C o) 200 0) f 8 := by
    by_cases c : y_mn (fun o => y_sch (C o) 200 0) f 8 < 200
    · obtain ⟨o, h1, h2, h3⟩ := m.2.1 c
      have so := sch_sp (C := C o) 200 0
      have hc : C o (y_mn (fun o => y_sch (C o) 200 0) f 8) := by
        have := so.2.2.1 (by have h3' : y_sch (C o) 200 0 = _ := h3; omega)
        have h3' : y_sch (C o) 200 0 = _ := h3
        rw [h3'] at this
        exact this
      have hd := (h _ c).mpr ⟨o, h1, h2, hc⟩
      by_cases g : y_sch D 200 0 ≤ y_mn (fun o => y_sch (C o) 200 0) f 8
      · exact g
      · exact absurd hd (s.2.2.2 _ (by omega) (by omega))
    · omega
  have l2 : y_mn (fun o => y_sch (C o) 200 0) f 8 ≤ y_sch D 200 0 := by
    by_cases c : y_sch D 200 0 < 200
    · obtain ⟨o, h1, h2, h3⟩ := (h _ c).mp (s.2.2.1 (by omega))
      have so := sch_sp (C := C o) 200 0
      have := m.2.2 o h1 h2
      by_cases g : y_sch (C o) 200 0 ≤ y_sch D 200 0
      · have g2 : ¬ 200 ≤ y_sch (C o) 200 0 := by omega
        rcases this with q | q
        · exact Nat.le_trans q g
        · exact absurd q g2
      · exact absurd h3 (so.2.2.2 _ (by omega) (by omega))
    · omega
  omega
abbrev sp_tb (a : Nat → Int32) (w o s n : Nat) (q : Int32) : Prop := 0 < sp_val a o (-1) 100 n - sp_val a w (-1) 100 n + (a (224 + 8 * o + s) - a (224 + 8 * w + s)).toInt64 * (sp_vol a s * (100 + q) / 100 - sp_vol a s).toInt64 ∨ (sp_val a o (-1) 100 n - sp_val a w (-1) 100 n + (a (224 + 8 * o + s) - a (224 + 8 * w + s)).toInt64 * (sp_vol a s * (100 + q) / 100 - sp_vol a s).toInt64 = 0 ∧ a (224 + 8 * o + 7) < a (224 + 8 * w + 7))
theorem gr_i (hV : y_IV a) {s : Nat} (hs : s < 6) {q : Int32} (h1 : -100 ≤ q.toInt) (h2 : q.toInt ≤ 100) : (sp_vol a s * (100 + q) / 100 - sp_vol a s).toInt64 = (sp_vol a s).toInt64 * (100 + q).toInt64 / 100 - (sp_vol a s).toInt64 ∧ 0 ≤ ((sp_vol a s).toInt64 * (100 + q).toInt64 / 100).toInt ∧ ((sp_vol a s).toInt64 * (100 + q).toInt64 / 100).toInt ≤ 200000 := by
  have b := vol_i hV hs
  have o2 : (100 : Int32).toInt = 100 := by decide
  have o3 : (100 : Int64).toInt = 100 := by decide
  have e1 : (100 + q).toInt = 100 + q.toInt := by rw [t_add (by rw [o2]; omega) (by rw [o2]; omega), o2]
  have m := m_bd b.1 b.2 (show 0 ≤ 100 + q.toInt by omega) (show 100 + q.toInt ≤ 200 by omega)
  have e2 : (sp_vol a s * (100 + q)).toInt = (sp_vol a s).toInt * (100 + q.toInt) := by rw [t_mul (by rw [e1]; omega) (by rw [e1]; omega), e1]
  have E2 : ((sp_vol a s).toInt64 * (100 + q).toInt64).toInt = (sp_vol a s).toInt * (100 + q.toInt) := by rw [T_mul (by rw [T_w, T_w, e1]; omega) (by rw [T_w, T_w, e1]; omega), T_w, T_w, e1]
  have d1 := Int.tdiv_eq_ediv_of_nonneg (b := 100) m.1
  have e3 : (sp_vol a s * (100 + q) / 100).toInt = (sp_vol a s).toInt * (100 + q.toInt) / 100 := by rw [div100, e2, d1]
  have E3 : ((sp_vol a s).toInt64 * (100 + q).toInt64 / 100).toInt = (sp_vol a s).toInt * (100 + q.toInt) / 100 := by
    rw [Int64.toInt_div_of_ne_right _ _ (by decide), E2, o3, d1]
  generalize (sp_vol a s).toInt * (100 + q.toInt) = Y at *
  refine ⟨?_, by omega, by omega⟩
  rw [T_eq, T_w, t_sub (by omega) (by omega), e3, T_sub (by rw [E3, T_w]; omega) (by rw [E3, T_w]; omega), E3, T_w]
theorem tb_iff {N : Nat} (hV : y_IV a) (hB : y_IB N a) {w o s n : Nat} (hw : w < 8) (ho : o < 8) (hn : n ≤ 6) (hs : s < n) {q : Int32} (h1 : -100 ≤ q.toInt) (h2 : q.toInt ≤ 100) : sp_tb a w o s n q ↔ sp_bef a o w (Int32.ofNat s) (100 + q) n := by
  have g := gr_i hV (show s < 6 by omega) h1 h2
  have bo := (hB.2.1 o ho).1 s (by omega)
  have bw := (hB.2.1 w hw).1 s (by omega)
  have bo1 := bo.1
  have bo2 := bo.2
  have bw1 := bw.1
  have bw2 := bw.2
  have bd : ∀ k, k < 8 → 0 ≤ (sp_val a k (Int32.ofNat s) (100 + q) n).toInt ∧ (sp_val a k (Int32.ofNat s) (100 + q) n).toInt ≤ 1200000000000 := by
    intro k hk
    have h := s64_b (f := sp_part a k (Int32.ofNat s) (100 + q)) (B := 200000000000) (by decide) (n := n) (fun i hi => by
      have br := (hB.2.1 k hk).1 i (by omega)
      unfold sp_part
      by_cases e : i = s
      · subst e
        rw [if_pos rfl]
        have m := m_bd g.2.1 g.2.2 br.1 br.2
        rw [T_mul (by rw [T_w]; omega) (by rw [T_w]; omega), T_w]
        omega
      · rw [if_neg (fun z => e ((n_eq (by omega) (by omega)).mp z))]
        have bv := vol_i hV (show i < 6 by omega)
        have m := m_bd bv.1 bv.2 br.1 br.2
        rw [T_mul (by rw [T_w, T_w]; omega) (by rw [T_w, T_w]; omega), T_w, T_w]
        omega) (by omega)
    exact ⟨h.1, Int.le_trans h.2 (by omega)⟩
  have b1 := bd o ho
  have b2 := bd w hw
  have el : (a (224 + 8 * o + s) - a (224 + 8 * w + s)).toInt64 = (a (224 + 8 * o + s)).toInt64 - (a (224 + 8 * w + s)).toInt64 := by
    rw [T_eq, T_w, t_sub (by omega) (by omega), T_sub (by rw [T_w, T_w]; omega) (by rw [T_w, T_w]; omega), T_w, T_w]
  have e : sp_val a o (-1) 100 n - sp_val a w (-1) 100 n + (a (224 + 8 * o + s) - a (224 + 8 * w + s)).toInt64 * (sp_vol a s * (100 + q) / 100 - sp_vol a s).toInt64 = sp_val a o (Int32.ofNat s) (100 + q) n - sp_val a w (Int32.ofNat s) (100 + q) n := by
    rw [val_g (show s < 6 by omega) hn, val_g (show s < 6 by omega) hn, if_pos hs, if_pos hs, g.1, el]
    generalize sp_val a o (-1) 100 n = x
    generalize sp_val a w (-1) 100 n = y
    generalize (sp_vol a s).toInt64 * (100 + q).toInt64 / 100 - (sp_vol a s).toInt64 = z
    generalize (a (224 + 8 * o + s)).toInt64 = t
    generalize (a (224 + 8 * w + s)).toInt64 = u
    grind
  show (0 < _ ∨ (_ = 0 ∧ a (224 + 8 * o + 7) < a (224 + 8 * w + 7))) ↔ (sp_val a w (Int32.ofNat s) (100 + q) n < sp_val a o (Int32.ofNat s) (100 + q) n ∨ (sp_val a o (Int32.ofNat s) (100 + q) n = sp_val a w (Int32.ofNat s) (100 + q) n ∧ a (224 + 8 * o + 7) < a (224 + 8 * w + 7)))
  rw [e, T_lt (x := 0), T_eq (y := 0), T_sub (by omega) (by omega), T_lt, T_eq, show (0 : Int64).toInt = 0 from by decide]
  constructor
  · rintro (z | ⟨z, y⟩)
    · exact Or.inl (by omega)
    · exact Or.inr ⟨by omega, y⟩
  · rintro (z | ⟨z, y⟩)
    · exact Or.inl (by omega)
    · exact Or.inr ⟨by omega, y⟩
theorem less_j {i j : Nat} (hi : i < 200) (hj : j < 200) : ((if 0 ≤ y_qj i then y_qj i else -y_qj i) < (if 0 ≤ y_qj j then y_qj j else -y_qj j) ∨ ((if 0 ≤ y_qj i then y_qj i else -y_qj i) = (if 0 ≤ y_qj j then y_qj j else -y_qj j) ∧ y_qj i < y_qj j)) ↔ i < j := by
  have ab : ∀ k, k < 200 → (if 0 ≤ y_qj k then y_qj k else -y_qj k).toInt = ((k / 2 + 1 : Nat) : Int) := by
    intro k hk
    have e := qj_i hk
    by_cases p : k % 2 = 0
    · rw [if_pos p] at e
      rw [if_neg (fun z => by rw [t_le, e, show (0 : Int32).toInt = 0 from by decide] at z; omega), t_neg (by omega), e]
      omega
    · rw [if_neg p] at e
      rw [if_pos (t_le.mpr (by rw [e, show (0 : Int32).toInt = 0 from by decide]; omega)), e]
  have ei := qj_i hi
  have ej := qj_i hj
  rw [t_lt, t_eq, t_lt, ab i hi, ab j hj, ei, ej]
  by_cases p : i % 2 = 0
  · rw [if_pos p]
    by_cases r : j % 2 = 0
    · rw [if_pos r]; omega
    · rw [if_neg r]; omega
  · rw [if_neg p]
    by_cases r : j % 2 = 0
    · rw [if_pos r]; omega
    · rw [if_neg r]; omega
theorem qj_0 {j : Nat} (h : j < 200) : ¬ y_qj j = 0 := by
  have e := qj_i h
  rw [t_eq, e, show (0 : Int32).toInt = 0 from by decide]
  by_cases p : j % 2 = 0
  · rw [if_pos p]; omega
  · rw [if_neg p]; omega
end

/-! ===== what a step can come to ===== -/
def x_isRet (M : x_MI) (i : Instr) (v : Option Value) : Prop :=
  (i = .ireturn ∧ ∃ x ty, v = some (.int x) ∧ x_mr M = some ty ∧ narrow ty (.int x) = .int x) ∨ (i = .lreturn ∧ ∃ x, v = some (.long x) ∧ x_mr M = some .long) ∨ (i = .areturn ∧ ∃ x q, v = some (.ref x) ∧ x_mr M = some (.object q)) ∨ (i = .return_ ∧ v = none ∧ x_mr M = none)
def x_isInv (i : Instr) (k kd : Nat) : Prop := (i = .invokevirtual k ∧ kd = 0) ∨ (i = .invokestatic k ∧ kd = 1) ∨ (i = .invokespecial k ∧ kd = 2)
def x_isThr (M : x_MI) (i : Instr) (pc : Nat) (st : List Value) (S : x_S) (E : Nat) : Prop := ∃ k, i = .new k ∧ k < 1000 ∧ x_look (x_key M k) x_thrT = some E ∧ x_thr M pc E = true ∧ S.2.1 = x_N ∧ x_cats st ≤ 8 ∧ S.2.2.1 + 1 ≤ x_mc M ∧ S.2.2.2 + 6 ≤ x_ms M
def x_four (M : x_MI) (i : Instr) (pc : Nat) (st : List Value) (S : x_S) (a : x_A) : Prop :=
  (∃ z, a = .inl z) ∨ (∃ v, a = .inr (.inl v) ∧ st = v.toList ∧ x_isRet M i v) ∨ (∃ k kd, x_inv M k kd st S = some a ∧ x_isInv i k kd) ∨ (∃ E, a = .inr (.inr (.inr E)) ∧ x_isThr M i pc st S E)
set_option maxHeartbeats 2000000 in
theorem x_step_cases {X : x_X} {M : x_MI} {i : Instr} {len pc : Nat} {ls : x_Ls} {st : List Value} {S : x_S} {a : x_A} (h : x_step X M i len pc ls st S = some a) : x_four M i pc st S a := by
  unfold x_step at h
  split at h
  all_goals (repeat' (first | (exact Or.inl ⟨_, (Option.some.inj h).symm⟩) | (exact x_no h) | split at h))
  all_goals first
    | exact Or.inr (Or.inr (Or.inl ⟨_, _, h, Or.inl ⟨rfl, rfl⟩⟩))
    | exact Or.inr (Or.inr (Or.inl ⟨_, _, h, Or.inr (Or.inl ⟨rfl, rfl⟩)⟩))
    | exact Or.inr (Or.inr (Or.inl ⟨_, _, h, Or.inr (Or.inr ⟨rfl, rfl⟩)⟩))
    | skip
  · rename_i hk _ _ E h1 h2 hc
    cases h
    exact Or.inr (Or.inr (Or.inr ⟨E, rfl, _, rfl, hk, h2, hc⟩))
  · rename_i v ty hr hn
    cases h
    exact Or.inr (Or.inl ⟨_, rfl, rfl, Or.inl ⟨rfl, v, ty, rfl, hr, hn⟩⟩)
  · rename_i v hr
    cases h
    exact Or.inr (Or.inl ⟨_, rfl, rfl, Or.inr (Or.inl ⟨rfl, v, rfl, hr⟩)⟩)
  · rename_i v q hr
    cases h
    exact Or.inr (Or.inl ⟨_, rfl, rfl, Or.inr (Or.inr (Or.inl ⟨rfl, v, q, rfl, hr⟩))⟩)
  · rename_i hr
    cases h
    exact Or.inr (Or.inl ⟨_, rfl, rfl, Or.inr (Or.inr (Or.inr ⟨rfl, rfl, hr⟩))⟩)

/-! ===== runs without fuel ===== -/
theorem x_run_mono {X : x_X} : ∀ {F : Nat} {M : x_MI} {pc : Nat} {ls : x_Ls} {st : List Value} {S : x_S} {r : x_O × x_Mem × Nat}, x_run X F M pc ls st S = some r → x_run X (F + 1) M pc ls st S = some r := by
  intro F
  induction F with
  | zero => intro M pc ls st S r h; cases h
  | succ F ih =>
    intro M pc ls st S r h
    rw [x_run] at h ⊢
    split at h
    · rename_i i len hd
      split at h
      · cases h
      · rename_i hl
        split at h
        · exact ih h
        · exact h
        · rename_i N as rest hs
          cases hr : x_run X F N 0 (x_ent (x_ml N) as) [] (S.1, S.2.1, 0, 0) with
          | none => rw [hr] at h; cases h
          | some w =>
            rw [hr] at h
            rw [ih hr]
            obtain ⟨oc, μ1, n1⟩ := w
            cases oc with
            | inl v => exact ih h
            | inr E => exact h
        · exact h
        · cases h
    · cases h
theorem x_run_le {X : x_X} {F G : Nat} {M : x_MI} {pc : Nat} {ls : x_Ls} {st : List Value} {S : x_S} {r : x_O × x_Mem × Nat} (hFG : F ≤ G) (h : x_run X F M pc ls st S = some r) : x_run X G M pc ls st S = some r := by
  induction hFG with
  | refl => exact h
  | step _ ih => exact x_run_mono ih
/-- it comes to r -/
def x_Ev (X : x_X) (M : x_MI) (pc : Nat) (ls : x_Ls) (st : List Value) (S : x_S) (r : x_O × x_Mem × Nat) : Prop := ∃ F, x_run X F M pc ls st S = some r
/-- a method's call comes to r -/
def x_Cv (X : x_X) (N : x_MI) (as : List Value) (μ : x_Mem) (n : Nat) (r : x_O × x_Mem × Nat) : Prop := x_Ev X N 0 (x_ent (x_ml N) as) [] (μ, n, 0, 0) r
section
variable {X : x_X} {M : x_MI} {pc len pc' : Nat} {ls ls' : x_Ls} {st st' : List Value} {S S' : x_S} {r : x_O × x_Mem × Nat} {i : Instr}
theorem e_step (hd : decode (x_mb M) pc = .ok (i, len)) (hl : x_lenOK i len = true) (hs : x_step X M i len pc ls st S = some (.inl (pc', ls', st', S'))) (k : x_Ev X M pc' ls' st' S' r) : x_Ev X M pc ls st S r := by
  obtain ⟨F, h⟩ := k
  refine ⟨F + 1, ?_⟩
  rw [x_run, hd]
  dsimp only
  rw [hl]
  dsimp only
  rw [hs]
  exact h
theorem e_ret {v : Option Value} (hd : decode (x_mb M) pc = .ok (i, len)) (hl : x_lenOK i len = true) (hs : x_step X M i len pc ls st S = some (.inr (.inl v))) (hf : x_fin M (.inl v) S = some r) : x_Ev X M pc ls st S r := by
  refine ⟨1, ?_⟩
  rw [x_run, hd]
  dsimp only
  rw [hl]
  dsimp only
  rw [hs]
  exact hf
theorem e_thr {E : Nat} (hd : decode (x_mb M) pc = .ok (i, len)) (hl : x_lenOK i len = true) (hs : x_step X M i len pc ls st S = some (.inr (.inr (.inr E)))) (hm : x_mh M = []) (hf : x_fin M (.inr E) (S.1, S.2.1, S.2.2.1 + 1, S.2.2.2 + 6) = some r) : x_Ev X M pc ls st S r := by
  refine ⟨1, ?_⟩
  rw [x_run, hd]
  dsimp only
  rw [hl]
  dsimp only
  rw [hs]
  dsimp only
  rw [hm]
  exact hf
/-- a call that returns -/
theorem e_call {N : x_MI} {as rest : List Value} {v : Option Value} {μ' : x_Mem} {n' : Nat} (hd : decode (x_mb M) pc = .ok (i, len)) (hl : x_lenOK i len = true) (hs : x_step X M i len pc ls st S = some (.inr (.inr (.inl (N, as, rest))))) (hc : x_Cv X N as S.1 S.2.1 (.inl v, μ', n')) (k : x_Ev X M (pc + len) ls (v.toList ++ rest) (μ', n', S.2.2.1 + x_mc N, S.2.2.2 + x_ms N) r) : x_Ev X M pc ls st S r := by
  obtain ⟨F, h⟩ := k
  obtain ⟨G, g⟩ := hc
  refine ⟨max F G + 1, ?_⟩
  rw [x_run, hd]
  dsimp only
  rw [hl]
  dsimp only
  rw [hs]
  dsimp only
  rw [x_run_le (Nat.le_max_right F G) g]
  exact x_run_le (Nat.le_max_left F G) h
/-- a call that throws -/
theorem e_callX {N : x_MI} {as rest : List Value} {E : Nat} {μ' : x_Mem} {n' : Nat} (hd : decode (x_mb M) pc = .ok (i, len)) (hl : x_lenOK i len = true) (hs : x_step X M i len pc ls st S = some (.inr (.inr (.inl (N, as, rest))))) (hc : x_Cv X N as S.1 S.2.1 (.inr E, μ', n')) (k : x_exc M pc E (μ', n', S.2.2.1 + x_mc N, S.2.2.2 + x_ms N) = some r) : x_Ev X M pc ls st S r := by
  obtain ⟨G, g⟩ := hc
  refine ⟨G + 1, ?_⟩
  rw [x_run, hd]
  dsimp only
  rw [hl]
  dsimp only
  rw [hs]
  dsimp only
  rw [g]
  exact k
end

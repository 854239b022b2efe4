/-! ===== the law, first: its beginning (laid by wip/whole/src/law1.py) ===== -/
section
variable {X : x_X} {I : Nat → Nat → Int32} {L : Nat → Nat → Int64} {R : Nat → Nat → Option Nat} {N : Nat}
theorem T_0 (r00 : R 0 0 = some 1) (r01 : R 0 1 = some 3) (r02 : R 0 2 = some 181) (r03 : R 0 3 = some 203) (r10 : R 1 0 = some 2) (r30 : R 3 0 = some 4) (r4 : ∀ i, i < 8 → R 4 i = some (5 + 22 * i)) (wb : ∀ i, i < 10 → y_wb R (5 + 22 * i)) (r9 : R 225 0 = some 226 ∧ R 225 1 = some 227 ∧ R 225 2 = some 228 ∧ R 225 3 = some 229 ∧ R 225 4 = some 230 ∧ R 225 7 = some 231) (i11 : I 1 1 = 0) (i12 : I 1 2 = -1) (i31 : I 3 1 = 0) (i32 : I 3 2 = 0) (rep : y_Rep I L 181 y_i (fun _ => 0)) (i226 : I 226 = y_i) (l229 : L 229 = fun _ => 0) (i5 : I 225 5 = 0) (i8 : I 225 8 = 0) (i15 : I 225 15 = -1) : y_T 0 I L R := by
  have hR : x_wf R := ⟨fun β hβ => by
    obtain ⟨j, hj, rfl⟩ := hβ
    exact wb j hj, r30, r10, r00, r01, r9⟩
  refine ⟨y_i, fun _ => 0, 0, fun _ => (y_0, fun _ => 0), y_0, 0, -1, ⟨181, 203, fun j => 5 + 22 * j, 0, ⟨hR, ⟨8, by decide, rfl⟩, ⟨9, by decide, rfl⟩, fun j hj => ⟨j, by omega, rfl⟩, r02, r03, r4, by decide, fun j hj => ⟨?_, ?_⟩, fun i j hi hj hne => ?_⟩, by decide, i31, by decide, i32, rep, fun i hi => absurd hi (Nat.not_lt_zero _), by decide, i11, fun j hj => absurd hj (Nat.not_lt_zero _), i12⟩, ⟨hR, i226, l229, by decide, i5, fun i hi => absurd hi (Nat.not_lt_zero _), i8, fun j hj => absurd hj (Nat.not_lt_zero _), i15⟩, inv_i, fun i hi => absurd hi (Nat.not_lt_zero _), fun j hj => absurd hj (Nat.not_lt_zero _)⟩
  · show ¬ 5 + 22 * j = 181; omega
  · show ¬ 5 + 22 * j = 203; omega
  · show ¬ 5 + 22 * i = 5 + 22 * j; omega
end

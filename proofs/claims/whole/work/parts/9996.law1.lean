/-! ===== the law, first: its beginning (laid by wip/whole/src/law1.py) ===== -/
section
variable {X : x_X} {I : Nat → Nat → Int32} {L : Nat → Nat → Int64} {R : Nat → Nat → Option Nat} {N : Nat}
theorem inv_i : y_Inv 0 y_i (fun _ => 0) := by
  have z : ∀ j, 3 ≤ j ∨ j = 0 → y_i j = 0 := fun j h => yi_0 h
  have z0 := z 0 (Or.inr rfl)
  have n3 : ¬ 3 ≤ y_i 0 := by rw [z0]; decide
  refine ⟨⟨⟨0, by omega, z0⟩, ⟨by decide, by decide⟩, ⟨by decide, by decide⟩, ⟨by decide, by decide⟩, ⟨by decide, by decide⟩, ⟨by decide, by decide⟩, ⟨by decide, by decide⟩, ⟨by decide, by decide⟩, ⟨0, by omega, z 8 (by omega)⟩, fun s hs => ?_⟩, ⟨⟨0, by omega, z 9 (by omega), by decide⟩, fun j hj => ?_⟩, ⟨?_, fun q hq => ⟨fun s hs => ?_, ?_, ?_⟩, fun q j hq hj hne hp => ?_, fun _ => ⟨z 10 (by omega), fun j hj => z _ (by omega)⟩⟩, fun s hs => ?_, ⟨⟨0, by omega, z 13 (by omega)⟩, ?_, fun s hs => ?_, fun j hj => ?_, fun q => absurd q n3, ?_, fun q => ?_⟩, ⟨0, by omega, z 14 (by omega), fun k hk => absurd hk (Nat.not_lt_zero _)⟩, fun j hj => z j (by omega), fun j hj => rfl⟩
  · rw [z (20 + s) (by omega), z (26 + s) (by omega)]; exact ⟨zin (by decide), zin (by decide)⟩
  · rw [z (44 + j) (by omega)]; exact zin (by decide)
  · rw [z 10 (by omega)]; exact zin (by decide)
  · rw [z _ (by omega)]; exact zin (by decide)
  · rw [z _ (by omega)]; exact zin (by decide)
  · rw [z (224 + 8 * q + 7) (by omega), z 10 (by omega)]; exact zin (by decide)
  · rw [z _ (by omega)] at hp; exact absurd hp (by decide)
  · rw [z (32 + s) (by omega), z (38 + s) (by omega)]; exact ⟨zin (by decide), zin (by decide), fun _ => ⟨rfl, rfl⟩⟩
  · rw [z 15 (by omega)]; exact zin (by decide)
  · rw [z _ (by omega)]; exact zin (by decide)
  · rw [z _ (by omega)]; exact zin (by decide)
  · rw [z 16 (by omega), z0]; decide
  · rw [z0] at q; exact absurd q (by decide)
end

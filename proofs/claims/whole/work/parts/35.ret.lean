/-! ===== the returns; the fixed references (laid by wip/whole/gen_help2.py) ===== -/
section
variable {X : x_X} {M : x_MI} {pc : Nat} {ls : x_Ls} {μ : x_Mem} {n c k : Nat} {r : x_O × x_Mem × Nat}
theorem x_finE {o : x_O} (hc : c ≤ x_mc M) (hk : k ≤ x_ms M) : x_fin M o (μ, n, c, k) = some (o, μ, n) := by
  unfold x_fin
  rw [if_pos ⟨hc, hk⟩]
theorem e_ri {v : Int32} (hd : decode (x_mb M) pc = .ok (.ireturn, 1)) (hm : x_mr M = some .int) (hc : c ≤ x_mc M) (hk : k ≤ x_ms M) (he : ((.inl (some (.int v)), μ, n) : x_O × x_Mem × Nat) = r) : x_Ev X M pc ls [.int v] (μ, n, c, k) r := by
  refine e_ret hd rfl (v := some (.int v)) ?_ (by rw [← he]; exact x_finE hc hk)
  unfold x_step
  dsimp only
  rw [hm]
  exact if_pos rfl
theorem e_rb {v : Int32} (hd : decode (x_mb M) pc = .ok (.ireturn, 1)) (hm : x_mr M = some .boolean) (hc : c ≤ x_mc M) (hk : k ≤ x_ms M) (hb : narrow .boolean (.int v) = .int v) (he : ((.inl (some (.int v)), μ, n) : x_O × x_Mem × Nat) = r) : x_Ev X M pc ls [.int v] (μ, n, c, k) r := by
  refine e_ret hd rfl (v := some (.int v)) ?_ (by rw [← he]; exact x_finE hc hk)
  unfold x_step
  dsimp only
  rw [hm]
  exact if_pos hb
theorem e_rl {v : Int64} (hd : decode (x_mb M) pc = .ok (.lreturn, 1)) (hm : x_mr M = some .long) (hc : c ≤ x_mc M) (hk : k ≤ x_ms M) (he : ((.inl (some (.long v)), μ, n) : x_O × x_Mem × Nat) = r) : x_Ev X M pc ls [.long v] (μ, n, c, k) r := by
  refine e_ret hd rfl (v := some (.long v)) ?_ (by rw [← he]; exact x_finE hc hk)
  unfold x_step
  dsimp only
  rw [hm]
theorem e_rv (hd : decode (x_mb M) pc = .ok (.return_, 1)) (hm : x_mr M = none) (hc : c ≤ x_mc M) (hk : k ≤ x_ms M) (he : ((.inl none, μ, n) : x_O × x_Mem × Nat) = r) : x_Ev X M pc ls [] (μ, n, c, k) r := by
  refine e_ret hd rfl (v := none) ?_ (by rw [← he]; exact x_finE hc hk)
  unfold x_step
  dsimp only
  rw [hm]
end
/-- the references that never change -/
def x_wf (R : Nat → Nat → Option Nat) : Prop := (∀ β, x_sl β → (R (β + 7) 0 = some (β + 8) ∧ R (β + 7) 1 = some (β + 9) ∧ R (β + 7) 2 = some (β + 10) ∧ R (β + 7) 3 = some (β + 11) ∧ R (β + 12) 0 = some (β + 13) ∧ R (β + 12) 1 = some (β + 14) ∧ R (β + 12) 2 = some (β + 15) ∧ R (β + 12) 3 = some (β + 16) ∧ R (β + 5) 1 = some (β + 6) ∧ R (β + 17) 3 = some (β + 18) ∧ R (β + 17) 4 = some (β + 19) ∧ R (β + 17) 5 = some (β + 20) ∧ R (β + 17) 6 = some (β + 21) ∧ R (β + 0) 1 = some (β + 1) ∧ R (β + 0) 2 = some (β + 5) ∧ R (β + 0) 3 = some (β + 7) ∧ R (β + 0) 4 = some (β + 12) ∧ R (β + 0) 5 = some (β + 17) ∧ R (β + 1) 1 = some (β + 2) ∧ R (β + 1) 2 = some (β + 3) ∧ R (β + 1) 3 = some (β + 4))) ∧ (R 3 0 = some 4 ∧ R 1 0 = some 2 ∧ R 0 0 = some 1 ∧ R 0 1 = some 3 ∧ R 225 0 = some 226 ∧ R 225 1 = some 227 ∧ R 225 2 = some 228 ∧ R 225 3 = some 229 ∧ R 225 4 = some 230 ∧ R 225 7 = some 231)
theorem wf_0_0 {R : Nat → Nat → Option Nat} (hR : x_wf R) {β : Nat} (hβ : x_sl β) : R (β + 7) 0 = some (β + 8) := (hR.1 β hβ).1
theorem wf_0_1 {R : Nat → Nat → Option Nat} (hR : x_wf R) {β : Nat} (hβ : x_sl β) : R (β + 7) 1 = some (β + 9) := (hR.1 β hβ).2.1
theorem wf_0_2 {R : Nat → Nat → Option Nat} (hR : x_wf R) {β : Nat} (hβ : x_sl β) : R (β + 7) 2 = some (β + 10) := (hR.1 β hβ).2.2.1
theorem wf_0_3 {R : Nat → Nat → Option Nat} (hR : x_wf R) {β : Nat} (hβ : x_sl β) : R (β + 7) 3 = some (β + 11) := (hR.1 β hβ).2.2.2.1
theorem wf_1_0 {R : Nat → Nat → Option Nat} (hR : x_wf R) {β : Nat} (hβ : x_sl β) : R (β + 12) 0 = some (β + 13) := (hR.1 β hβ).2.2.2.2.1
theorem wf_1_1 {R : Nat → Nat → Option Nat} (hR : x_wf R) {β : Nat} (hβ : x_sl β) : R (β + 12) 1 = some (β + 14) := (hR.1 β hβ).2.2.2.2.2.1
theorem wf_1_2 {R : Nat → Nat → Option Nat} (hR : x_wf R) {β : Nat} (hβ : x_sl β) : R (β + 12) 2 = some (β + 15) := (hR.1 β hβ).2.2.2.2.2.2.1
theorem wf_1_3 {R : Nat → Nat → Option Nat} (hR : x_wf R) {β : Nat} (hβ : x_sl β) : R (β + 12) 3 = some (β + 16) := (hR.1 β hβ).2.2.2.2.2.2.2.1
theorem wf_2_1 {R : Nat → Nat → Option Nat} (hR : x_wf R) {β : Nat} (hβ : x_sl β) : R (β + 5) 1 = some (β + 6) := (hR.1 β hβ).2.2.2.2.2.2.2.2.1
theorem wf_4_3 {R : Nat → Nat → Option Nat} (hR : x_wf R) {β : Nat} (hβ : x_sl β) : R (β + 17) 3 = some (β + 18) := (hR.1 β hβ).2.2.2.2.2.2.2.2.2.1
theorem wf_4_4 {R : Nat → Nat → Option Nat} (hR : x_wf R) {β : Nat} (hβ : x_sl β) : R (β + 17) 4 = some (β + 19) := (hR.1 β hβ).2.2.2.2.2.2.2.2.2.2.1
theorem wf_4_5 {R : Nat → Nat → Option Nat} (hR : x_wf R) {β : Nat} (hβ : x_sl β) : R (β + 17) 5 = some (β + 20) := (hR.1 β hβ).2.2.2.2.2.2.2.2.2.2.2.1
theorem wf_4_6 {R : Nat → Nat → Option Nat} (hR : x_wf R) {β : Nat} (hβ : x_sl β) : R (β + 17) 6 = some (β + 21) := (hR.1 β hβ).2.2.2.2.2.2.2.2.2.2.2.2.1
theorem wf_6_1 {R : Nat → Nat → Option Nat} (hR : x_wf R) {β : Nat} (hβ : x_sl β) : R (β + 0) 1 = some (β + 1) := (hR.1 β hβ).2.2.2.2.2.2.2.2.2.2.2.2.2.1
theorem wf_6_2 {R : Nat → Nat → Option Nat} (hR : x_wf R) {β : Nat} (hβ : x_sl β) : R (β + 0) 2 = some (β + 5) := (hR.1 β hβ).2.2.2.2.2.2.2.2.2.2.2.2.2.2.1
theorem wf_6_3 {R : Nat → Nat → Option Nat} (hR : x_wf R) {β : Nat} (hβ : x_sl β) : R (β + 0) 3 = some (β + 7) := (hR.1 β hβ).2.2.2.2.2.2.2.2.2.2.2.2.2.2.2.1
theorem wf_6_4 {R : Nat → Nat → Option Nat} (hR : x_wf R) {β : Nat} (hβ : x_sl β) : R (β + 0) 4 = some (β + 12) := (hR.1 β hβ).2.2.2.2.2.2.2.2.2.2.2.2.2.2.2.2.1
theorem wf_6_5 {R : Nat → Nat → Option Nat} (hR : x_wf R) {β : Nat} (hβ : x_sl β) : R (β + 0) 5 = some (β + 17) := (hR.1 β hβ).2.2.2.2.2.2.2.2.2.2.2.2.2.2.2.2.2.1
theorem wf_7_1 {R : Nat → Nat → Option Nat} (hR : x_wf R) {β : Nat} (hβ : x_sl β) : R (β + 1) 1 = some (β + 2) := (hR.1 β hβ).2.2.2.2.2.2.2.2.2.2.2.2.2.2.2.2.2.2.1
theorem wf_7_2 {R : Nat → Nat → Option Nat} (hR : x_wf R) {β : Nat} (hβ : x_sl β) : R (β + 1) 2 = some (β + 3) := (hR.1 β hβ).2.2.2.2.2.2.2.2.2.2.2.2.2.2.2.2.2.2.2.1
theorem wf_7_3 {R : Nat → Nat → Option Nat} (hR : x_wf R) {β : Nat} (hβ : x_sl β) : R (β + 1) 3 = some (β + 4) := (hR.1 β hβ).2.2.2.2.2.2.2.2.2.2.2.2.2.2.2.2.2.2.2.2
theorem wf_3_0 {R : Nat → Nat → Option Nat} (hR : x_wf R) : R 3 0 = some 4 := (hR.2).1
theorem wf_5_0 {R : Nat → Nat → Option Nat} (hR : x_wf R) : R 1 0 = some 2 := (hR.2).2.1
theorem wf_8_0 {R : Nat → Nat → Option Nat} (hR : x_wf R) : R 0 0 = some 1 := (hR.2).2.2.1
theorem wf_8_1 {R : Nat → Nat → Option Nat} (hR : x_wf R) : R 0 1 = some 3 := (hR.2).2.2.2.1
theorem wf_9_0 {R : Nat → Nat → Option Nat} (hR : x_wf R) : R 225 0 = some 226 := (hR.2).2.2.2.2.1
theorem wf_9_1 {R : Nat → Nat → Option Nat} (hR : x_wf R) : R 225 1 = some 227 := (hR.2).2.2.2.2.2.1
theorem wf_9_2 {R : Nat → Nat → Option Nat} (hR : x_wf R) : R 225 2 = some 228 := (hR.2).2.2.2.2.2.2.1
theorem wf_9_3 {R : Nat → Nat → Option Nat} (hR : x_wf R) : R 225 3 = some 229 := (hR.2).2.2.2.2.2.2.2.1
theorem wf_9_4 {R : Nat → Nat → Option Nat} (hR : x_wf R) : R 225 4 = some 230 := (hR.2).2.2.2.2.2.2.2.2.1
theorem wf_9_7 {R : Nat → Nat → Option Nat} (hR : x_wf R) : R 225 7 = some 231 := (hR.2).2.2.2.2.2.2.2.2.2

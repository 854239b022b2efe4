/-! ===== the claim ===== -/
theorem i_vc : Claimed_1_1 ∧ Claimed_1_2 := x_claim x_goal

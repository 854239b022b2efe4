/-! ===== the class: counts of bids (laid by wip/whole/src/c10.py) ===== -/
section
variable {X : x_X} {I : Nat → Nat → Int32} {L : Nat → Nat → Int64} {R : Nat → Nat → Option Nat}
/-- how many under n keep f -/
def x_cnt (f : Nat → Prop) [DecidablePred f] : Nat → Nat
  | 0 => 0
  | n + 1 => if f n then x_cnt f n + 1 else x_cnt f n
theorem x_cnt_1 {f : Nat → Prop} [DecidablePred f] {n : Nat} (h : f n) : x_cnt f (n + 1) = x_cnt f n + 1 := by rw [x_cnt, if_pos h]
theorem x_cnt_0 {f : Nat → Prop} [DecidablePred f] {n : Nat} (h : ¬ f n) : x_cnt f (n + 1) = x_cnt f n := by rw [x_cnt, if_neg h]
theorem l_X0_validBids (hR : x_wf R) {β : Nat} (hβ : x_sl β) {Ns : Nat} (hNs : Ns ≤ 6) (hn : I (β + 1) 0 = Int32.ofNat Ns) : ∀ d k, k + d = 8 → x_Ev X mX0_validBids 4 [some (.ref (β + 7)), some (.ref (β + 1)), some (.int (Int32.ofNat (x_cnt (fun q => cv_prob I β q Ns = 0) k))), some (.int (Int32.ofNat k))] [] ((I, L, R), 233, 0, 0) (.inl (some (.int (Int32.ofNat (x_cnt (fun q => cv_prob I β q Ns = 0) 8)))), (I, L, R), 233) := by
  intro d
  induction d with
  | zero =>
    intro k hd
    obtain rfl : 8 = k := by omega
    refine f_iload_n (M := mX0_validBids) 5 dX0_validBids_4 rfl rfl ?_
    refine f_bipush (M := mX0_validBids) 7 dX0_validBids_5 kb_8 rfl ?_
    refine e_icmp_geT (M := mX0_validBids) 28 dX0_validBids_7 rfl (by decide) ?_
    refine f_iload_n (M := mX0_validBids) 29 dX0_validBids_28 rfl rfl ?_
    refine e_ri (M := mX0_validBids) dX0_validBids_29 rfl (x_kk rfl) (x_kk rfl) ?_
    rfl
  | succ d ih =>
    intro k hd
    refine f_iload_n (M := mX0_validBids) 5 dX0_validBids_4 rfl rfl ?_
    refine f_bipush (M := mX0_validBids) 7 dX0_validBids_5 kb_8 rfl ?_
    refine e_icmp_geF (M := mX0_validBids) 28 dX0_validBids_7 rfl (by rw [kn_8, n_le (by omega) (by omega)]; omega) ?_
    refine f_aload_n (M := mX0_validBids) 11 dX0_validBids_10 rfl rfl ?_
    refine f_iload_n (M := mX0_validBids) 12 dX0_validBids_11 rfl rfl ?_
    refine f_aload_n (M := mX0_validBids) 13 dX0_validBids_12 rfl rfl ?_
    refine e_cV (M := mX0_validBids) [_] 0 0 dX0_validBids_13 pa_82 pb_82 cc_82 rfl rfl rfl rfl rfl (x_kk rfl) (x_kk rfl) (x_rcvOK (sl_lt hβ 7 rfl) (sl_s hβ 7 rfl rfl) rfl) (c_X0_isValid hR hβ (by omega) hNs hn) rfl ?_
    refine e_if_eq (M := mX0_validBids) (t := 22) dX0_validBids_16 rfl (fun h1 => ?_) (fun h1 => ?_)
    · refine f_iinc (M := mX0_validBids) (ls' := [_, _, _, _]) 25 dX0_validBids_22 ki_1 rfl rfl rfl rfl ?_
      refine f_goto (M := mX0_validBids) 4 dX0_validBids_25 rfl ?_
      rw [n_inc (s := k)]; have ih1 := ih (k + 1) (by omega); rw [show x_cnt (fun q => cv_prob I β q Ns = 0) (k + 1) = _ from x_cnt_0 (x_bF h1)] at ih1; exact ih1
    · refine f_iinc (M := mX0_validBids) (ls' := [_, _, _, _]) 22 dX0_validBids_19 ki_1 rfl rfl rfl rfl ?_
      refine f_iinc (M := mX0_validBids) (ls' := [_, _, _, _]) 25 dX0_validBids_22 ki_1 rfl rfl rfl rfl ?_
      refine f_goto (M := mX0_validBids) 4 dX0_validBids_25 rfl ?_
      rw [n_inc (s := k), n_inc (s := x_cnt (fun q => cv_prob I β q Ns = 0) k)]; have ih1 := ih (k + 1) (by omega); rw [show x_cnt (fun q => cv_prob I β q Ns = 0) (k + 1) = _ from x_cnt_1 (x_bT h1)] at ih1; exact ih1
theorem c_X0_validBids (hR : x_wf R) {β : Nat} (hβ : x_sl β) {Ns : Nat} (hNs : Ns ≤ 6) (hn : I (β + 1) 0 = Int32.ofNat Ns) : x_Cv X mX0_validBids [.ref (β + 7), .ref (β + 1)] (I, L, R) 233 (.inl (some (.int (Int32.ofNat (x_cnt (fun q => cv_prob I β q Ns = 0) 8)))), (I, L, R), 233) := by
  show x_Ev X mX0_validBids 0 [some (.ref (β + 7)), some (.ref (β + 1)), none, none] [] ((I, L, R), 233, 0, 0) _
  refine f_iconst (M := mX0_validBids) 1 dX0_validBids_0 ki_0 rfl ?_
  refine f_istore_n (M := mX0_validBids) (ls' := [_, _, _, _]) 2 dX0_validBids_1 rfl rfl rfl ?_
  refine f_iconst (M := mX0_validBids) 3 dX0_validBids_2 ki_0 rfl ?_
  refine f_istore_n (M := mX0_validBids) (ls' := [_, _, _, _]) 4 dX0_validBids_3 rfl rfl rfl ?_
  exact l_X0_validBids hR hβ hNs hn 8 0 rfl
end

/-! ===== the class: counts of bids (laid by wip/whole/src/c10.py) ===== -/
section
variable {X : x_X} {I : Nat → Nat → Int32} {L : Nat → Nat → Int64} {R : Nat → Nat → Option Nat}
/-- how many under n keep f -/
def x_cnt (f : Nat → Prop) [DecidablePred f] : Nat → Nat
  | 0 => 0
  | n + 1 => if f n then x_cnt f n + 1 else x_cnt f n
theorem x_cnt_1 {f : Nat → Prop} [DecidablePred f] {n : Nat} (h : f n) : x_cnt f (n + 1) = x_cnt f n + 1 := by rw [x_cnt, if_pos h]
theorem x_cnt_0 {f : Nat → Prop} [DecidablePred f] {n : Nat} (h : ¬ f n) : x_cnt f (n + 1) = x_cnt f n := by rw [x_cnt, if_neg h]
theorem l_X0_validBids (hR : x_wf R) {β : Nat} (hβ : x_sl β) {Ns : Nat} (hNs : Ns ≤ 6) (hn : I (β + 1) 0 = Int32.ofNat Ns) : ∀ d k, k + d = 8 → x_Ev X mX0_validBids 4 [some (.ref (β + 7)), some (.ref (β + 1)), some (.int (Int32.ofNat (x_cnt (fun q => cv_prob I β q Ns = 0) k))), some (.int (Int32.ofNat k))] [] ((I, L, R), 233, 0, 0) (.inl (some (.int (Int32.ofNat (x_cnt (fun q => cv_prob I β q Ns = 0) 8)))), (I, L, R), 233) := by
  intro d
  induction d with
  | zero =>
    intro k hd
    obtain rfl : 8 = k := by omega
    refine f_iload_n (M := mX0_validBids) 5 dX0_validBids_4 rfl rfl ?_
    refine f_bipush (M := mX0_validBids) 7 dX0_validBids_5 kb_8 rfl ?_
    refine e_icmp_geT (M := mX0_validBids) 28 dX0_validBids_7 rfl (by decide) ?_
    refine f_iload_n (M := mX0_validBids) 29 dX0_validBids_28 rfl rfl ?_
    refine e_ri (M := mX0_validBids) dX0_validBids_29 rfl (x_kk rfl) (x_kk rfl) ?_
    rfl
  | succ d ih =>
    intro k hd
    refine f_iload_n (M := mX0_validBids) 5 dX0_validBids_4 rfl rfl ?_
    refine f_bipush (M := mX0_validBids) 7 dX0_validBids_5 kb_8 rfl ?_
    refine e_icmp_geF (M := mX0_validBids) 28 dX0_validBids_7 rfl (by rw [kn_8, n_le (by omega) (by omega)]; omega) ?_
    refine f_aload_n (M := mX0_validBids) 11 dX0_validBids_10 rfl rfl ?_
    refine f_iload_n (M := mX0_validBids) 12 dX0_validBids_11 rfl rfl ?_
    refine f_aload_n (M := mX0_validBids) 13 dX0_validBids_12 rfl rfl ?_
    refine e_cV (M := mX0_validBids) [_] 0 0 dX0_validBids_13 pa_82 pb_82 cc_82 rfl rfl rfl rfl rfl (x_kk rfl) (x_kk rfl) (x_rcvOK (sl_lt hβ 7 rfl) (sl_s hβ 7 rfl rfl) rfl) (c_X0_isValid hR hβ (by omega) hNs hn) rfl ?_
    refine e_if_eq (M := mX0_validBids) (t := 22) dX0_validBids_16 rfl (fun h1 => ?_) (fun h1 => ?_)
    · refine f_iinc (M := mX0_validBids) (ls' := [_, _, _, _]) 25 dX0_validBids_22 ki_1 rfl rfl rfl rfl ?_
      refine f_goto (M := mX0_validBids) 4 dX0_validBids_25 rfl ?_
      rw [n_inc (s := k)]; have ih1 := ih (k + 1) (by omega); rw [show x_cnt (fun q => cv_prob I β q Ns = 0) (k + 1) = _ from x_cnt_0 (x_bF h1)] at ih1; exact ih1
    · refine f_iinc (M := mX0_validBids) (ls' := [_, _, _, _]) 22 dX0_validBids_19 ki_1 rfl rfl rfl rfl ?_
      refine f_iinc (M := mX0_validBids) (ls' := [_, _, _, _]) 25 dX0_validBids_22 ki_1 rfl rfl rfl rfl ?_
      refine f_goto (M := mX0_validBids) 4 dX0_validBids_25 rfl ?_
      rw [n_inc (s := k), n_inc (s := x_cnt (fun q => cv_prob I β q Ns = 0) k)]; have ih1 := ih (k + 1) (by omega); rw [show x_cnt (fun q => cv_prob I β q Ns = 0) (k + 1) = _ from x_cnt_1 (x_bT h1)] at ih1; exact ih1
theorem c_X0_validBids (hR : x_wf R) {β : Nat} (hβ : x_sl β) {Ns : Nat} (hNs : Ns ≤ 6) (hn : I (β + 1) 0 = Int32.ofNat Ns) : x_Cv X mX0_validBids [.ref (β + 7), .ref (β + 1)] (I, L, R) 233 (.inl (some (.int (Int32.ofNat (x_cnt (fun q => cv_prob I β q Ns = 0) 8)))), (I, L, R), 233) := by
  show x_Ev X mX0_validBids 0 [some (.ref (β + 7)), some (.ref (β + 1)), none, none] [] ((I, L, R), 233, 0, 0) _
  refine f_iconst (M := mX0_validBids) 1 dX0_validBids_0 ki_0 rfl ?_
  refine f_istore_n (M := mX0_validBids) (ls' := [_, _, _, _]) 2 dX0_validBids_1 rfl rfl rfl ?_
  refine f_iconst (M := mX0_validBids) 3 dX0_validBids_2 ki_0 rfl ?_
  refine f_istore_n (M := mX0_validBids) (ls' := [_, _, _, _]) 4 dX0_validBids_3 rfl rfl rfl ?_
  exact l_X0_validBids hR hβ hNs hn 8 0 rfl
theorem l_X0_rankOf (hR : x_wf R) {β : Nat} (hβ : x_sl β) {q : Nat} (hq : q < 8) {Ns : Nat} (hNs : Ns ≤ 6) (hn : I (β + 1) 0 = Int32.ofNat Ns) : ∀ d k, k + d = 8 → x_Ev X mX0_rankOf 16 [some (.ref (β + 7)), some (.int (Int32.ofNat q)), some (.ref (β + 1)), some (.int (Int32.ofNat (x_cnt (fun k => (¬ k = q ∧ cv_prob I β k Ns = 0) ∧ cv_bef I β k q) k + 1))), some (.int (Int32.ofNat k))] [] ((I, L, R), 233, 0, 0) (.inl (some (.int (Int32.ofNat (x_cnt (fun k => (¬ k = q ∧ cv_prob I β k Ns = 0) ∧ cv_bef I β k q) 8 + 1)))), (I, L, R), 233) := by
  intro d
  induction d with
  | zero =>
    intro k hd
    obtain rfl : 8 = k := by omega
    refine f_iload (M := mX0_rankOf) 18 dX0_rankOf_16 rfl rfl ?_
    refine f_bipush (M := mX0_rankOf) 20 dX0_rankOf_18 kb_8 rfl ?_
    refine e_icmp_geT (M := mX0_rankOf) 58 dX0_rankOf_20 rfl (by decide) ?_
    refine f_iload_n (M := mX0_rankOf) 59 dX0_rankOf_58 rfl rfl ?_
    refine e_ri (M := mX0_rankOf) dX0_rankOf_59 rfl (x_kk rfl) (x_kk rfl) ?_
    rfl
  | succ d ih =>
    intro k hd
    refine f_iload (M := mX0_rankOf) 18 dX0_rankOf_16 rfl rfl ?_
    refine f_bipush (M := mX0_rankOf) 20 dX0_rankOf_18 kb_8 rfl ?_
    refine e_icmp_geF (M := mX0_rankOf) 58 dX0_rankOf_20 rfl (by rw [kn_8, n_le (by omega) (by omega)]; omega) ?_
    refine f_iload (M := mX0_rankOf) 25 dX0_rankOf_23 rfl rfl ?_
    refine f_iload_n (M := mX0_rankOf) 26 dX0_rankOf_25 rfl rfl ?_
    refine e_icmp_eq (M := mX0_rankOf) (t := 52) dX0_rankOf_26 rfl (fun h0 => ?_) (fun h0 => ?_)
    · refine f_iinc (M := mX0_rankOf) (ls' := [_, _, _, _, _]) 55 dX0_rankOf_52 ki_1 rfl rfl rfl rfl ?_
      refine f_goto (M := mX0_rankOf) 16 dX0_rankOf_55 rfl ?_
      rw [n_inc (s := k)]; have ih1 := ih (k + 1) (by omega); rw [show x_cnt (fun k => (¬ k = q ∧ cv_prob I β k Ns = 0) ∧ cv_bef I β k q) (k + 1) = _ from x_cnt_0 (fun z => z.1.1 ((n_eq (by omega) (by omega)).mp h0))] at ih1; exact ih1
    · refine f_aload_n (M := mX0_rankOf) 30 dX0_rankOf_29 rfl rfl ?_
      refine f_iload (M := mX0_rankOf) 32 dX0_rankOf_30 rfl rfl ?_
      refine f_aload_n (M := mX0_rankOf) 33 dX0_rankOf_32 rfl rfl ?_
      refine e_cV (M := mX0_rankOf) [_] 0 0 dX0_rankOf_33 pa_82 pb_82 cc_82 rfl rfl rfl rfl rfl (x_kk rfl) (x_kk rfl) (x_rcvOK (sl_lt hβ 7 rfl) (sl_s hβ 7 rfl rfl) rfl) (c_X0_isValid hR hβ (by omega) hNs hn) rfl ?_
      refine e_if_eq (M := mX0_rankOf) (t := 52) dX0_rankOf_36 rfl (fun h1 => ?_) (fun h1 => ?_)
      · refine f_iinc (M := mX0_rankOf) (ls' := [_, _, _, _, _]) 55 dX0_rankOf_52 ki_1 rfl rfl rfl rfl ?_
        refine f_goto (M := mX0_rankOf) 16 dX0_rankOf_55 rfl ?_
        rw [n_inc (s := k)]; have ih1 := ih (k + 1) (by omega); rw [show x_cnt (fun k => (¬ k = q ∧ cv_prob I β k Ns = 0) ∧ cv_bef I β k q) (k + 1) = _ from x_cnt_0 (fun z => x_bF h1 z.1.2)] at ih1; exact ih1
      · refine f_aload_n (M := mX0_rankOf) 40 dX0_rankOf_39 rfl rfl ?_
        refine f_iload (M := mX0_rankOf) 42 dX0_rankOf_40 rfl rfl ?_
        refine f_iload_n (M := mX0_rankOf) 43 dX0_rankOf_42 rfl rfl ?_
        refine e_cV (M := mX0_rankOf) [_] 0 0 dX0_rankOf_43 pa_90 pb_90 cc_90 rfl rfl rfl rfl rfl (x_kk rfl) (x_kk rfl) (x_rcvOK (sl_lt hβ 7 rfl) (sl_s hβ 7 rfl rfl) rfl) (c_X0_beats hR hβ (by omega) hq) rfl ?_
        refine e_if_eq (M := mX0_rankOf) (t := 52) dX0_rankOf_46 rfl (fun h2 => ?_) (fun h2 => ?_)
        · refine f_iinc (M := mX0_rankOf) (ls' := [_, _, _, _, _]) 55 dX0_rankOf_52 ki_1 rfl rfl rfl rfl ?_
          refine f_goto (M := mX0_rankOf) 16 dX0_rankOf_55 rfl ?_
          rw [n_inc (s := k)]; have ih1 := ih (k + 1) (by omega); rw [show x_cnt (fun k => (¬ k = q ∧ cv_prob I β k Ns = 0) ∧ cv_bef I β k q) (k + 1) = _ from x_cnt_0 (fun z => x_bF h2 z.2)] at ih1; exact ih1
        · refine f_iinc (M := mX0_rankOf) (ls' := [_, _, _, _, _]) 52 dX0_rankOf_49 ki_1 rfl rfl rfl rfl ?_
          refine f_iinc (M := mX0_rankOf) (ls' := [_, _, _, _, _]) 55 dX0_rankOf_52 ki_1 rfl rfl rfl rfl ?_
          refine f_goto (M := mX0_rankOf) 16 dX0_rankOf_55 rfl ?_
          rw [n_inc (s := k), n_inc (s := x_cnt (fun k => (¬ k = q ∧ cv_prob I β k Ns = 0) ∧ cv_bef I β k q) k + 1)]; have ih1 := ih (k + 1) (by omega); rw [show x_cnt (fun k => (¬ k = q ∧ cv_prob I β k Ns = 0) ∧ cv_bef I β k q) (k + 1) = _ from x_cnt_1 ⟨⟨fun z => h0 (by rw [z]), x_bT h1⟩, x_bT h2⟩] at ih1; exact ih1
theorem c_X0_rankOf_1 (hR : x_wf R) {β : Nat} (hβ : x_sl β) {q : Nat} (hq : q < 8) {Ns : Nat} (hNs : Ns ≤ 6) (hn : I (β + 1) 0 = Int32.ofNat Ns) (h : cv_prob I β q Ns = 0) : x_Cv X mX0_rankOf [.ref (β + 7), .int (Int32.ofNat q), .ref (β + 1)] (I, L, R) 233 (.inl (some (.int (Int32.ofNat (x_cnt (fun k => (¬ k = q ∧ cv_prob I β k Ns = 0) ∧ cv_bef I β k q) 8 + 1)))), (I, L, R), 233) := by
  show x_Ev X mX0_rankOf 0 [some (.ref (β + 7)), some (.int (Int32.ofNat q)), some (.ref (β + 1)), none, none] [] ((I, L, R), 233, 0, 0) _
  refine f_aload_n (M := mX0_rankOf) 1 dX0_rankOf_0 rfl rfl ?_
  refine f_iload_n (M := mX0_rankOf) 2 dX0_rankOf_1 rfl rfl ?_
  refine f_aload_n (M := mX0_rankOf) 3 dX0_rankOf_2 rfl rfl ?_
  refine e_cV (M := mX0_rankOf) [_] 0 0 dX0_rankOf_3 pa_82 pb_82 cc_82 rfl rfl rfl rfl rfl (x_kk rfl) (x_kk rfl) (x_rcvOK (sl_lt hβ 7 rfl) (sl_s hβ 7 rfl rfl) rfl) (c_X0_isValid hR hβ hq hNs hn) rfl ?_
  refine e_if_neT (M := mX0_rankOf) 11 dX0_rankOf_6 rfl (x_bn h) ?_
  refine f_iconst (M := mX0_rankOf) 12 dX0_rankOf_11 ki_1 rfl ?_
  refine f_istore_n (M := mX0_rankOf) (ls' := [_, _, _, _, _]) 13 dX0_rankOf_12 rfl rfl rfl ?_
  refine f_iconst (M := mX0_rankOf) 14 dX0_rankOf_13 ki_0 rfl ?_
  refine f_istore (M := mX0_rankOf) (ls' := [_, _, _, _, _]) 16 dX0_rankOf_14 rfl rfl rfl ?_
  exact l_X0_rankOf hR hβ hq hNs hn 8 0 rfl
theorem c_X0_rankOf_0 (hR : x_wf R) {β : Nat} (hβ : x_sl β) {q : Nat} (hq : q < 8) {Ns : Nat} (hNs : Ns ≤ 6) (hn : I (β + 1) 0 = Int32.ofNat Ns) (h : ¬ cv_prob I β q Ns = 0) : x_Cv X mX0_rankOf [.ref (β + 7), .int (Int32.ofNat q), .ref (β + 1)] (I, L, R) 233 (.inl (some (.int (0))), (I, L, R), 233) := by
  show x_Ev X mX0_rankOf 0 [some (.ref (β + 7)), some (.int (Int32.ofNat q)), some (.ref (β + 1)), none, none] [] ((I, L, R), 233, 0, 0) _
  refine f_aload_n (M := mX0_rankOf) 1 dX0_rankOf_0 rfl rfl ?_
  refine f_iload_n (M := mX0_rankOf) 2 dX0_rankOf_1 rfl rfl ?_
  refine f_aload_n (M := mX0_rankOf) 3 dX0_rankOf_2 rfl rfl ?_
  refine e_cV (M := mX0_rankOf) [_] 0 0 dX0_rankOf_3 pa_82 pb_82 cc_82 rfl rfl rfl rfl rfl (x_kk rfl) (x_kk rfl) (x_rcvOK (sl_lt hβ 7 rfl) (sl_s hβ 7 rfl rfl) rfl) (c_X0_isValid hR hβ hq hNs hn) rfl ?_
  refine e_if_neF (M := mX0_rankOf) 11 dX0_rankOf_6 rfl (x_bnn h) ?_
  refine f_iconst (M := mX0_rankOf) 10 dX0_rankOf_9 ki_0 rfl ?_
  refine e_ri (M := mX0_rankOf) dX0_rankOf_10 rfl (x_kk rfl) (x_kk rfl) ?_
  rfl
end

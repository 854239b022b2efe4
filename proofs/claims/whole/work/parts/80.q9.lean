/-! ===== the least winning rate of both (laid by wip/whole/src/q9.py) ===== -/
section
variable {X : x_X} {I : Nat → Nat → Int32} {L : Nat → Nat → Int64} {R : Nat → Nat → Option Nat} {N : Nat}
def sp_ld (a : Nat → Int32) (q j : Nat) : Int64 := if a (224 + 8 * j + 7) ≤ a (224 + 8 * q + 7) then 1 else 0
/-- the least value that wins over the others under k -/
def sp_lv (a : Nat → Int32) (q n : Nat) : Nat → Int64
  | 0 => 0
  | k + 1 => if ¬ k = q ∧ sp_prob a k n = 0 then (if sp_lv a q n k < sp_val a k (-1) 100 n + sp_ld a q k then sp_val a k (-1) 100 n + sp_ld a q k else sp_lv a q n k) else sp_lv a q n k
theorem lv_0 {a : Nat → Int32} {q n k : Nat} (h : ¬ (¬ k = q ∧ sp_prob a k n = 0)) : sp_lv a q n (k + 1) = sp_lv a q n k := by rw [sp_lv, if_neg h]
theorem lv_1 {a : Nat → Int32} {q n k : Nat} (h : ¬ k = q ∧ sp_prob a k n = 0) : sp_lv a q n (k + 1) = (if sp_lv a q n k < sp_val a k (-1) 100 n + sp_ld a q k then sp_val a k (-1) 100 n + sp_ld a q k else sp_lv a q n k) := by rw [sp_lv, if_pos h]
theorem ld_i {a : Nat → Int32} {q j : Nat} : (sp_ld a q j).toInt = (if (a (224 + 8 * j + 7)).toInt ≤ (a (224 + 8 * q + 7)).toInt then 1 else 0) := by
  unfold sp_ld
  by_cases h : a (224 + 8 * j + 7) ≤ a (224 + 8 * q + 7)
  · rw [if_pos h, if_pos (t_le.mp h)]; decide
  · rw [if_neg h, if_neg (fun z => h (t_le.mpr z))]; decide
theorem lv_eq {a : Nat → Int32} (hV : y_IV a) (hB : y_IB N a) {q n : Nat} (hn : n ≤ 6) : ∀ k, k ≤ 8 → (sp_fbut a n q k = none → sp_lv a q n k = 0) ∧ (∀ j, sp_fbut a n q k = some j → sp_lv a q n k = sp_val a j (-1) 100 n + sp_ld a q j)
  | 0, _ => ⟨fun _ => rfl, fun j h => by cases h⟩
  | k + 1, hk => by
    have ih := lv_eq hV hB (q := q) hn k (by omega)
    have bk := bd_val hV hB (n := n) (show k < 8 by omega) hn
    have lk := ld_i (a := a) (q := q) (j := k)
    have z0 : (0 : Int64).toInt = 0 := by decide
    have ek : (sp_val a k (-1) 100 n + sp_ld a q k).toInt = (sp_val a k (-1) 100 n).toInt + (sp_ld a q k).toInt := T_add (by split at lk <;> omega) (by split at lk <;> omega)
    by_cases hf : ¬ k = q ∧ sp_prob a k n = 0
    · rw [lv_1 hf]
      cases hw : sp_fbut a n q k with
      | none =>
        rw [ih.1 hw, show sp_fbut a n q (k + 1) = some k from sp_fst_0 hf hw]
        refine ⟨fun z => (by cases z), fun j z => ?_⟩
        cases z
        by_cases c : 0 < sp_val a k (-1) 100 n + sp_ld a q k
        · rw [if_pos c]
        · rw [if_neg c, T_eq, ek, z0]
          rw [T_lt, ek, z0] at c
          split at lk <;> omega
      | some i =>
        have hi : i < k := sp_fst_lt hw
        have bi := bd_val hV hB (n := n) (show i < 8 by omega) hn
        have li := ld_i (a := a) (q := q) (j := i)
        have ei : (sp_val a i (-1) 100 n + sp_ld a q i).toInt = (sp_val a i (-1) 100 n).toInt + (sp_ld a q i).toInt := T_add (by split at li <;> omega) (by split at li <;> omega)
        rw [ih.2 i hw]
        have ex : sp_bef a k i (-1) 100 n ↔ ((sp_val a i (-1) 100 n).toInt < (sp_val a k (-1) 100 n).toInt ∨ ((sp_val a k (-1) 100 n).toInt = (sp_val a i (-1) 100 n).toInt ∧ (a (224 + 8 * k + 7)).toInt < (a (224 + 8 * i + 7)).toInt)) := by
          show (sp_val a i (-1) 100 n < sp_val a k (-1) 100 n ∨ (sp_val a k (-1) 100 n = sp_val a i (-1) 100 n ∧ a (224 + 8 * k + 7) < a (224 + 8 * i + 7))) ↔ _
          rw [T_lt, T_eq, t_lt]
        by_cases hg : sp_bef a k i (-1) 100 n
        · rw [show sp_fbut a n q (k + 1) = some k from sp_fst_1 hf hw hg]
          refine ⟨fun z => (by cases z), fun j z => ?_⟩
          cases z
          have g := ex.mp hg
          by_cases c : sp_val a i (-1) 100 n + sp_ld a q i < sp_val a k (-1) 100 n + sp_ld a q k
          · rw [if_pos c]
          · rw [if_neg c, T_eq, ei, ek]
            rw [T_lt, ei, ek] at c
            split at lk <;> split at li <;> omega
        · rw [show sp_fbut a n q (k + 1) = _ from sp_fst_2 hw hg]
          refine ⟨fun z => (by rw [show sp_fst _ _ k = some i from hw] at z; cases z), fun j z => ?_⟩
          rw [show sp_fst _ _ k = some i from hw] at z
          cases z
          have g : ¬ _ := fun z => hg (ex.mpr z)
          by_cases c : sp_val a i (-1) 100 n + sp_ld a q i < sp_val a k (-1) 100 n + sp_ld a q k
          · rw [T_lt, ei, ek] at c
            split at lk <;> split at li <;> omega
          · rw [if_neg c]
    · rw [lv_0 hf, show sp_fbut a n q (k + 1) = sp_fbut a n q k from sp_fst_n hf]
      exact ih
def sp_mis (a : Nat → Int32) (q s n : Nat) : Int64 := sp_lv a q n 8 - sp_rest a q s n
theorem part_le {a : Nat → Int32} (hV : y_IV a) (hB : y_IB N a) {q s : Nat} (hq : q < 8) : ∀ {n : Nat}, n ≤ 6 → s < n → (sp_part a q (-1) 100 s).toInt ≤ (sp_val a q (-1) 100 n).toInt
  | 0, _, h => absurd h (Nat.not_lt_zero _)
  | n + 1, hn, h => by
    have b1 := bd_val hV hB hq (show n ≤ 6 by omega)
    have b2 := bd_part hV hB hq (show n < 6 by omega)
    rw [sp_val_s, T_add (by omega) (by omega)]
    by_cases e : s = n
    · subst e; omega
    · have := part_le hV hB hq (show n ≤ 6 by omega) (show s < n by omega); omega
theorem rest_i {a : Nat → Int32} (hV : y_IV a) (hB : y_IB N a) {q s n : Nat} (hq : q < 8) (hn : n ≤ 6) (hs : s < n) : 0 ≤ (sp_rest a q s n).toInt ∧ (sp_rest a q s n).toInt ≤ 600000000000 := by
  have b1 := bd_val hV hB hq hn
  have b2 := bd_part hV hB hq (show s < 6 by omega)
  have b3 := part_le hV hB hq hn hs
  unfold sp_rest
  rw [sp_part1 (by omega)] at b2 b3
  rw [T_sub (by omega) (by omega)]
  omega
theorem mv_i {a : Nat → Int32} (hT : y_IT a) (hV : y_IV a) {s : Nat} (hs : s < 6) : ((a (20 + s)).toInt64 * (sp_vol a s).toInt64).toInt = (a (20 + s)).toInt * (sp_vol a s).toInt ∧ 0 ≤ (a (20 + s)).toInt * (sp_vol a s).toInt := by
  have b1 := (hT.2.2.2.2.2.2.2.2.2 s hs).1
  have b2 := vol_i hV hs
  have m := m_bd b1.1 b1.2 b2.1 b2.2
  refine ⟨?_, m.1⟩
  rw [T_mul (by rw [T_w, T_w]; omega) (by rw [T_w, T_w]; omega), T_w, T_w]
theorem mis_s {a : Nat → Int32} (hV : y_IV a) (hB : y_IB N a) {q s n j : Nat} (hn : n ≤ 6) (hf : sp_fbut a n q 8 = some j) : sp_mis a q s n = sp_lacks a q s n j := by
  unfold sp_mis sp_lacks
  rw [(lv_eq hV hB (q := q) hn 8 (by omega)).2 j hf]
  rfl
theorem mis_n {a : Nat → Int32} (hT : y_IT a) (hV : y_IV a) (hB : y_IB N a) {q s n : Nat} (hq : q < 8) (hn : n ≤ 6) (hs : s < n) (hf : sp_fbut a n q 8 = none) : sp_mis a q s n ≤ (a (20 + s)).toInt64 * (sp_vol a s).toInt64 := by
  have b := rest_i hV hB hq hn hs
  have m := mv_i hT hV (show s < 6 by omega)
  unfold sp_mis
  rw [(lv_eq hV hB (q := q) hn 8 (by omega)).1 hf, T_le, m.1, T_sub (by rw [show (0 : Int64).toInt = 0 from by decide]; omega) (by rw [show (0 : Int64).toInt = 0 from by decide]; omega), show (0 : Int64).toInt = 0 from by decide]
  omega
theorem least_1 {a : Nat → Int32} (hV : y_IV a) (hB : y_IB N a) {q s n : Nat} (hn : n ≤ 6) (h : sp_mis a q s n ≤ (a (20 + s)).toInt64 * (sp_vol a s).toInt64) : sp_least a q s n = sp_enough a q s n (a (20 + s)).toInt64 := by
  unfold sp_least
  cases hf : sp_fbut a n q 8 with
  | none => rfl
  | some j =>
    rw [mis_s hV hB hn hf] at h
    dsimp only
    rw [if_neg, if_pos h]
    rintro ⟨z1, z2⟩
    rw [z2, Int64.mul_zero] at h
    exact absurd z1 (l_nlt.mpr h)
theorem least_2 {a : Nat → Int32} (hT : y_IT a) (hV : y_IV a) (hB : y_IB N a) {q s n : Nat} (hq : q < 8) (hn : n ≤ 6) (hs : s < n) (h : ¬ sp_mis a q s n ≤ (a (20 + s)).toInt64 * (sp_vol a s).toInt64) (h0 : (sp_vol a s).toInt64 = 0) : sp_least a q s n = 9223372036854775807 := by
  unfold sp_least
  cases hf : sp_fbut a n q 8 with
  | none => exact absurd (mis_n hT hV hB hq hn hs hf) h
  | some j =>
    rw [mis_s hV hB hn hf, h0, Int64.mul_zero] at h
    dsimp only
    rw [if_pos ⟨l_nle.mp h, h0⟩]
theorem least_3 {a : Nat → Int32} (hT : y_IT a) (hV : y_IV a) (hB : y_IB N a) {q s n : Nat} (hq : q < 8) (hn : n ≤ 6) (hs : s < n) (h : ¬ sp_mis a q s n ≤ (a (20 + s)).toInt64 * (sp_vol a s).toInt64) (h0 : ¬ (sp_vol a s).toInt64 = 0) : sp_least a q s n = sp_enough a q s n ((sp_mis a q s n + (sp_vol a s).toInt64 - 1) / (sp_vol a s).toInt64) := by
  unfold sp_least
  cases hf : sp_fbut a n q 8 with
  | none => exact absurd (mis_n hT hV hB hq hn hs hf) h
  | some j =>
    rw [mis_s hV hB hn hf] at h ⊢
    dsimp only
    rw [if_neg (fun z => h0 z.2), if_neg h]
def y_lw (a : Nat → Int32) (q s n : Nat) : Int32 := if sp_could a q s n ∧ sp_least a q s n ≤ 1000000 then (sp_least a q s n).toInt32 else -1
theorem lw_x {a : Nat → Int32} {q s n : Nat} (h : ¬ sp_could a q s n) : y_lw a q s n = -1 := if_neg (fun z => h z.1)
theorem lw_m {a : Nat → Int32} {q s n : Nat} (h : sp_least a q s n = 9223372036854775807) : y_lw a q s n = -1 := if_neg (fun z => by have z2 := z.2; rw [h] at z2; exact absurd z2 (by decide))
theorem lw_g {a : Nat → Int32} {q s n : Nat} {x : Int64} (h : sp_least a q s n = sp_enough a q s n x) (g : 1000000 < x) : y_lw a q s n = -1 := if_neg (fun z => by
  have z2 := z.2
  rw [h] at z2
  unfold sp_enough at z2
  split at z2
  · exact absurd g (l_nlt.mpr z2)
  · exact absurd z2 (by decide))
theorem lw_d {a : Nat → Int32} {q s n : Nat} {x : Int64} (h : sp_least a q s n = sp_enough a q s n x) (g : (a (224 + 8 * q + 6)).toInt64 * 100 < (sp_rest a q s n + x * (sp_vol a s).toInt64) * (a 3).toInt64) : y_lw a q s n = -1 := lw_m (by rw [h]; exact if_neg (l_nle.mpr g))
theorem lw_k {a : Nat → Int32} {q s n : Nat} {x : Int64} (hc : sp_could a q s n) (h : sp_least a q s n = sp_enough a q s n x) (g : ¬ 1000000 < x) (g2 : ¬ (a (224 + 8 * q + 6)).toInt64 * 100 < (sp_rest a q s n + x * (sp_vol a s).toInt64) * (a 3).toInt64) : y_lw a q s n = x.toInt32 := by
  have e : sp_least a q s n = x := by rw [h]; exact if_pos (l_nlt.mp g2)
  unfold y_lw
  rw [e, if_pos ⟨hc, l_nlt.mp g⟩]
theorem k_low {N β : Nat} {a : Nat → Int32} {b : Nat → Int64} (H : y_CS N I L R β a b) {q : Nat} (hq : q < 8) {Ns : Nat} (hNs : Ns ≤ 6) (hn : a 8 = Int32.ofNat Ns) {s : Nat} (hs : s < 6) : x_Cv X mX0_hasLowRate [.ref (β + 7), .int (Int32.ofNat q), .int (Int32.ofNat s), .ref (β + 1)] (I, L, R) 233 (.inl (some (.int (x_b (x_any (sp_lowx a q s) Ns = true)))), (I, L, R), 233) := by
  have e := c_X0_hasLowRate (X := X) (L := L) (I := I) (e := Int32.ofNat s) (h_R H) (h_β H) hq hNs (show I (β + 1) 0 = Int32.ofNat Ns by rw [(h_T H).1]; exact hn)
  rw [show x_any (cv_low (I (β + 9)) (I (β + 3)) q (Int32.ofNat s)) Ns = x_any (sp_lowx a q s) Ns from any_c (fun i hi => by
    unfold cv_low sp_lowx
    rw [(h_B H).2.1 q hq i (by omega), (h_T H).2.2.1 i (by omega)]
    exact decide_eq_decide.mpr ⟨fun z => ⟨fun y => z.1 (by rw [y]), z.2⟩, fun z => ⟨fun y => z.1 ((n_eq (by omega) (by omega)).mp y), z.2⟩⟩)] at e
  exact e
theorem k_dep {N β : Nat} {a : Nat → Int32} {b : Nat → Int64} (H : y_CS N I L R β a b) {q : Nat} (hq : q < 8) {v : Int64} : x_Cv X mX0_isDepositTooLow [.ref (β + 7), .int (Int32.ofNat q), .long v, .ref (β + 1)] (I, L, R) 233 (.inl (some (.int (x_b ((a (224 + 8 * q + 6)).toInt64 * 100 < v * (a 3).toInt64)))), (I, L, R), 233) := by
  have e := c_X0_isDepositTooLow (X := X) (L := L) (I := I) (v := v) (h_R H) (h_β H) hq
  rw [(h_B H).2.2.1 q hq, (h_T H).2.1 2 (by decide)] at e
  exact e
theorem l_X0_leastValueToWin {N β : Nat} {a : Nat → Int32} {b : Nat → Int64} (H : y_CS N I L R β a b) {q : Nat} (hq : q < 8) {Ns : Nat} (hNs : Ns ≤ 6) (hn : a 8 = Int32.ofNat Ns) {w w2 : Option Value} : ∀ d k, k + d = 8 → x_Ev X mX0_leastValueToWin 5 [some (.ref (β + 7)), some (.int (Int32.ofNat q)), some (.ref (β + 1)), some (.long (sp_lv a q Ns k)), none, some (.int (Int32.ofNat k)), w, w2] [] ((I, L, R), 233, 0, 0) (.inl (some (.long (sp_lv a q Ns 8))), (I, L, R), 233) := by
  have hR := h_R H
  have hβ := h_β H
  intro d
  induction d generalizing w w2 with
  | zero =>
    intro k hd
    obtain rfl : 8 = k := by omega
    refine f_iload (M := mX0_leastValueToWin) 7 dX0_leastValueToWin_5 rfl rfl ?_
    refine f_bipush (M := mX0_leastValueToWin) 9 dX0_leastValueToWin_7 kb_8 rfl ?_
    refine e_icmp_geT (M := mX0_leastValueToWin) 71 dX0_leastValueToWin_9 rfl (by decide) ?_
    refine f_lload_n (M := mX0_leastValueToWin) 72 dX0_leastValueToWin_71 rfl rfl ?_
    refine e_rl (M := mX0_leastValueToWin) dX0_leastValueToWin_72 rfl (x_kk rfl) (x_kk rfl) ?_
    rfl
  | succ d ih =>
    intro k hd
    refine f_iload (M := mX0_leastValueToWin) 7 dX0_leastValueToWin_5 rfl rfl ?_
    refine f_bipush (M := mX0_leastValueToWin) 9 dX0_leastValueToWin_7 kb_8 rfl ?_
    refine e_icmp_geF (M := mX0_leastValueToWin) 71 dX0_leastValueToWin_9 rfl (by rw [kn_8, n_le (by omega) (by omega)]; omega) ?_
    refine f_iload (M := mX0_leastValueToWin) 14 dX0_leastValueToWin_12 rfl rfl ?_
    refine f_iload_n (M := mX0_leastValueToWin) 15 dX0_leastValueToWin_14 rfl rfl ?_
    refine e_icmp_eq (M := mX0_leastValueToWin) (t := 65) dX0_leastValueToWin_15 rfl (fun h0 => ?_) (fun h0 => ?_)
    · refine f_iinc (M := mX0_leastValueToWin) (ls' := [_, _, _, _, _, _, _, _]) 68 dX0_leastValueToWin_65 ki_1 rfl rfl rfl rfl ?_
      refine f_goto (M := mX0_leastValueToWin) 5 dX0_leastValueToWin_68 rfl ?_
      rw [n_inc (s := k)]; have ih1 := fun w w2 => ih (w := w) (w2 := w2) (k + 1) (by omega); rw [lv_0 (fun z => z.1 ((n_eq (by omega) (by omega)).mp h0))] at ih1; exact ih1 _ _
    · refine f_aload_n (M := mX0_leastValueToWin) 19 dX0_leastValueToWin_18 rfl rfl ?_
      refine f_iload (M := mX0_leastValueToWin) 21 dX0_leastValueToWin_19 rfl rfl ?_
      refine f_aload_n (M := mX0_leastValueToWin) 22 dX0_leastValueToWin_21 rfl rfl ?_
      refine e_cV (M := mX0_leastValueToWin) [_] 0 0 dX0_leastValueToWin_22 pa_82 pb_82 cc_82 rfl rfl rfl rfl rfl (x_kk rfl) (x_kk rfl) (x_rcvOK (sl_lt hβ 7 rfl) (sl_s hβ 7 rfl rfl) rfl) (k_isValid H (by omega) hNs hn) rfl ?_
      refine e_if_eq (M := mX0_leastValueToWin) (t := 65) dX0_leastValueToWin_25 rfl (fun h1 => ?_) (fun h1 => ?_)
      · refine f_iinc (M := mX0_leastValueToWin) (ls' := [_, _, _, _, _, _, _, _]) 68 dX0_leastValueToWin_65 ki_1 rfl rfl rfl rfl ?_
        refine f_goto (M := mX0_leastValueToWin) 5 dX0_leastValueToWin_68 rfl ?_
        rw [n_inc (s := k)]; have ih1 := fun w w2 => ih (w := w) (w2 := w2) (k + 1) (by omega); rw [lv_0 (fun z => x_bF h1 z.2)] at ih1; exact ih1 _ _
      · refine f_aload_n (M := mX0_leastValueToWin) 29 dX0_leastValueToWin_28 rfl rfl ?_
        refine e_getR (M := mX0_leastValueToWin) dX0_leastValueToWin_29 fl_21 (x_kk rfl) (sl_lt hβ 7 rfl) (sl_s hβ 7 rfl rfl) (wf_0_3 hR hβ) ?_
        refine f_iload_n (M := mX0_leastValueToWin) 33 dX0_leastValueToWin_32 rfl rfl ?_
        refine e_ild (M := mX0_leastValueToWin) (w := 8) (j := q) dX0_leastValueToWin_33 (sl_lt hβ 11 rfl) (sl_shp hβ 11 rfl) rfl (by omega) (by omega) ?_
        refine f_aload_n (M := mX0_leastValueToWin) 35 dX0_leastValueToWin_34 rfl rfl ?_
        refine e_getR (M := mX0_leastValueToWin) dX0_leastValueToWin_35 fl_21 (x_kk rfl) (sl_lt hβ 7 rfl) (sl_s hβ 7 rfl rfl) (wf_0_3 hR hβ) ?_
        refine f_iload (M := mX0_leastValueToWin) 40 dX0_leastValueToWin_38 rfl rfl ?_
        refine e_ild (M := mX0_leastValueToWin) (w := 8) (j := k) dX0_leastValueToWin_40 (sl_lt hβ 11 rfl) (sl_shp hβ 11 rfl) rfl (by omega) (by omega) ?_
        refine e_icmp_ge (M := mX0_leastValueToWin) (t := 48) dX0_leastValueToWin_41 rfl (fun h2 => ?_) (fun h2 => ?_)
        · refine f_lconst (M := mX0_leastValueToWin) 49 dX0_leastValueToWin_48 kl_1 rfl ?_
          refine f_lstore (M := mX0_leastValueToWin) (ls' := [_, _, _, _, _, _, _, _]) 51 dX0_leastValueToWin_49 rfl rfl rfl ?_
          refine f_lload_n (M := mX0_leastValueToWin) 52 dX0_leastValueToWin_51 rfl rfl ?_
          refine f_aload_n (M := mX0_leastValueToWin) 53 dX0_leastValueToWin_52 rfl rfl ?_
          refine f_iload (M := mX0_leastValueToWin) 55 dX0_leastValueToWin_53 rfl rfl ?_
          refine e_cV (M := mX0_leastValueToWin) [_, _] 0 0 dX0_leastValueToWin_55 pa_57 pb_57 cc_57 rfl rfl rfl rfl rfl (x_kk rfl) (x_kk rfl) (x_rcvOK (sl_lt hβ 7 rfl) (sl_s hβ 7 rfl rfl) rfl) (k_valueOf H (by omega) hNs hn) rfl ?_
          refine f_lload (M := mX0_leastValueToWin) 60 dX0_leastValueToWin_58 rfl rfl ?_
          refine f_ladd (M := mX0_leastValueToWin) 61 dX0_leastValueToWin_60 rfl ?_
          refine e_cS (M := mX0_leastValueToWin) [_] 0 0 dX0_leastValueToWin_61 pa_116 cc_116 rfl rfl rfl rfl rfl (x_kk rfl) (x_kk rfl) rfl (c_J9_max_f86c9) rfl ?_
          refine f_lstore_n (M := mX0_leastValueToWin) (ls' := [_, _, _, _, _, _, _, _]) 65 dX0_leastValueToWin_64 rfl rfl rfl ?_
          refine f_iinc (M := mX0_leastValueToWin) (ls' := [_, _, _, _, _, _, _, _]) 68 dX0_leastValueToWin_65 ki_1 rfl rfl rfl rfl ?_
          refine f_goto (M := mX0_leastValueToWin) 5 dX0_leastValueToWin_68 rfl ?_
          rw [n_inc (s := k)]; have ih1 := fun w w2 => ih (w := w) (w2 := w2) (k + 1) (by omega); rw [lv_1 ⟨fun z => h0 (by rw [z]), x_bT h1⟩, show sp_ld a q k = _ from if_pos (by rw [(h_B H).2.2.2.1 q hq, (h_B H).2.2.2.1 k (by omega)] at h2; exact h2)] at ih1; exact ih1 _ _
        · refine f_lconst (M := mX0_leastValueToWin) 45 dX0_leastValueToWin_44 kl_0 rfl ?_
          refine f_goto (M := mX0_leastValueToWin) 49 dX0_leastValueToWin_45 rfl ?_
          refine f_lstore (M := mX0_leastValueToWin) (ls' := [_, _, _, _, _, _, _, _]) 51 dX0_leastValueToWin_49 rfl rfl rfl ?_
          refine f_lload_n (M := mX0_leastValueToWin) 52 dX0_leastValueToWin_51 rfl rfl ?_
          refine f_aload_n (M := mX0_leastValueToWin) 53 dX0_leastValueToWin_52 rfl rfl ?_
          refine f_iload (M := mX0_leastValueToWin) 55 dX0_leastValueToWin_53 rfl rfl ?_
          refine e_cV (M := mX0_leastValueToWin) [_, _] 0 0 dX0_leastValueToWin_55 pa_57 pb_57 cc_57 rfl rfl rfl rfl rfl (x_kk rfl) (x_kk rfl) (x_rcvOK (sl_lt hβ 7 rfl) (sl_s hβ 7 rfl rfl) rfl) (k_valueOf H (by omega) hNs hn) rfl ?_
          refine f_lload (M := mX0_leastValueToWin) 60 dX0_leastValueToWin_58 rfl rfl ?_
          refine f_ladd (M := mX0_leastValueToWin) 61 dX0_leastValueToWin_60 rfl ?_
          refine e_cS (M := mX0_leastValueToWin) [_] 0 0 dX0_leastValueToWin_61 pa_116 cc_116 rfl rfl rfl rfl rfl (x_kk rfl) (x_kk rfl) rfl (c_J9_max_f86c9) rfl ?_
          refine f_lstore_n (M := mX0_leastValueToWin) (ls' := [_, _, _, _, _, _, _, _]) 65 dX0_leastValueToWin_64 rfl rfl rfl ?_
          refine f_iinc (M := mX0_leastValueToWin) (ls' := [_, _, _, _, _, _, _, _]) 68 dX0_leastValueToWin_65 ki_1 rfl rfl rfl rfl ?_
          refine f_goto (M := mX0_leastValueToWin) 5 dX0_leastValueToWin_68 rfl ?_
          rw [n_inc (s := k)]; have ih1 := fun w w2 => ih (w := w) (w2 := w2) (k + 1) (by omega); rw [lv_1 ⟨fun z => h0 (by rw [z]), x_bT h1⟩, show sp_ld a q k = _ from if_neg (by rw [(h_B H).2.2.2.1 q hq, (h_B H).2.2.2.1 k (by omega)] at h2; exact h2)] at ih1; exact ih1 _ _
theorem k_leastValueToWin {N β : Nat} {a : Nat → Int32} {b : Nat → Int64} (H : y_CS N I L R β a b) {q : Nat} (hq : q < 8) {Ns : Nat} (hNs : Ns ≤ 6) (hn : a 8 = Int32.ofNat Ns) : x_Cv X mX0_leastValueToWin [.ref (β + 7), .int (Int32.ofNat q), .ref (β + 1)] (I, L, R) 233 (.inl (some (.long (sp_lv a q Ns 8))), (I, L, R), 233) := by
  have hR := h_R H
  have hβ := h_β H
  show x_Ev X mX0_leastValueToWin 0 [some (.ref (β + 7)), some (.int (Int32.ofNat q)), some (.ref (β + 1)), none, none, none, none, none] [] ((I, L, R), 233, 0, 0) _
  refine f_lconst (M := mX0_leastValueToWin) 1 dX0_leastValueToWin_0 kl_0 rfl ?_
  refine f_lstore_n (M := mX0_leastValueToWin) (ls' := [_, _, _, _, _, _, _, _]) 2 dX0_leastValueToWin_1 rfl rfl rfl ?_
  refine f_iconst (M := mX0_leastValueToWin) 3 dX0_leastValueToWin_2 ki_0 rfl ?_
  refine f_istore (M := mX0_leastValueToWin) (ls' := [_, _, _, _, _, _, _, _]) 5 dX0_leastValueToWin_3 rfl rfl rfl ?_
  exact l_X0_leastValueToWin H hq hNs hn 8 0 rfl
theorem k_leastRateToWin {N β : Nat} {a : Nat → Int32} {b : Nat → Int64} (H : y_CS N I L R β a b) {q : Nat} (hq : q < 8) {Ns : Nat} (hNs : Ns ≤ 6) (hn : a 8 = Int32.ofNat Ns) {s : Nat} (hs : s < Ns) : x_Cv X mX0_leastRateToWin [.ref (β + 7), .int (Int32.ofNat q), .int (Int32.ofNat s), .ref (β + 1)] (I, L, R) 233 (.inl (some (.int (y_lw a q s Ns))), (I, L, R), 233) := by
  have hR := h_R H
  have hβ := h_β H
  have cb : ¬ Int32.ofNat q = I (β + 7) 5 ↔ ¬ (6 ≤ a 0 ∧ Int32.ofNat q = a 11) := by
    rw [(h_B H).2.2.2.2.2]
    by_cases h6 : 6 ≤ a 0
    · rw [if_pos h6]; exact ⟨fun z y => z y.2, fun z y => z ⟨h6, y⟩⟩
    · rw [if_neg h6]; exact ⟨fun _ y => h6 y.1, fun _ => n_ne1 (by omega)⟩
  have hcc : ¬ x_b (0 < a (224 + 8 * q + 7)) = 0 → ¬ Int32.ofNat q = I (β + 7) 5 → x_b (x_any (sp_lowx a q s) Ns = true) = 0 → sp_could a q s Ns := fun h1 h2 h3 => ⟨x_bT h1, cb.mp h2, Bool.eq_false_iff.mpr (x_bF h3)⟩
  show x_Ev X mX0_leastRateToWin 0 [some (.ref (β + 7)), some (.int (Int32.ofNat q)), some (.int (Int32.ofNat s)), some (.ref (β + 1)), none, none, none, none, none, none, none, none] [] ((I, L, R), 233, 0, 0) _
  refine f_aload_n (M := mX0_leastRateToWin) 1 dX0_leastRateToWin_0 rfl rfl ?_
  refine f_iload_n (M := mX0_leastRateToWin) 2 dX0_leastRateToWin_1 rfl rfl ?_
  refine e_cV (M := mX0_leastRateToWin) [_] 0 0 dX0_leastRateToWin_2 pa_49 pb_49 cc_49 rfl rfl rfl rfl rfl (x_kk rfl) (x_kk rfl) (x_rcvOK (sl_lt hβ 7 rfl) (sl_s hβ 7 rfl rfl) rfl) (k_isSealed H hq) rfl ?_
  refine e_if_eq (M := mX0_leastRateToWin) (t := 26) dX0_leastRateToWin_5 rfl (fun h1 => ?_) (fun h1 => ?_)
  · refine f_iconst (M := mX0_leastRateToWin) 27 dX0_leastRateToWin_26 ki_m1 rfl ?_
    refine e_ri (M := mX0_leastRateToWin) dX0_leastRateToWin_27 rfl (x_kk rfl) (x_kk rfl) ?_
    exact r_i (lw_x (fun z => x_bF h1 z.1)).symm
  · refine f_iload_n (M := mX0_leastRateToWin) 9 dX0_leastRateToWin_8 rfl rfl ?_
    refine f_aload_n (M := mX0_leastRateToWin) 10 dX0_leastRateToWin_9 rfl rfl ?_
    refine e_getI (M := mX0_leastRateToWin) dX0_leastRateToWin_10 fl_24 (x_kk rfl) (sl_lt hβ 7 rfl) (sl_s hβ 7 rfl rfl) ?_
    refine e_icmp_eq (M := mX0_leastRateToWin) (t := 26) dX0_leastRateToWin_13 rfl (fun h2 => ?_) (fun h2 => ?_)
    · refine f_iconst (M := mX0_leastRateToWin) 27 dX0_leastRateToWin_26 ki_m1 rfl ?_
      refine e_ri (M := mX0_leastRateToWin) dX0_leastRateToWin_27 rfl (x_kk rfl) (x_kk rfl) ?_
      exact r_i (lw_x (fun z => cb.mpr z.2.1 h2)).symm
    · refine f_aload_n (M := mX0_leastRateToWin) 17 dX0_leastRateToWin_16 rfl rfl ?_
      refine f_iload_n (M := mX0_leastRateToWin) 18 dX0_leastRateToWin_17 rfl rfl ?_
      refine f_iload_n (M := mX0_leastRateToWin) 19 dX0_leastRateToWin_18 rfl rfl ?_
      refine f_aload_n (M := mX0_leastRateToWin) 20 dX0_leastRateToWin_19 rfl rfl ?_
      refine e_cV (M := mX0_leastRateToWin) [_] 0 0 dX0_leastRateToWin_20 pa_53 pb_53 cc_53 rfl rfl rfl rfl rfl (x_kk rfl) (x_kk rfl) (x_rcvOK (sl_lt hβ 7 rfl) (sl_s hβ 7 rfl rfl) rfl) (k_low H hq hNs hn (by omega)) rfl ?_
      refine e_if_eq (M := mX0_leastRateToWin) (t := 28) dX0_leastRateToWin_23 rfl (fun h3 => ?_) (fun h3 => ?_)
      · refine f_aload_n (M := mX0_leastRateToWin) 29 dX0_leastRateToWin_28 rfl rfl ?_
        refine e_getR (M := mX0_leastRateToWin) dX0_leastRateToWin_29 fl_9 (x_kk rfl) (sl_lt hβ 7 rfl) (sl_s hβ 7 rfl rfl) (wf_0_0 hR hβ) ?_
        refine f_iload_n (M := mX0_leastRateToWin) 33 dX0_leastRateToWin_32 rfl rfl ?_
        refine e_ild (M := mX0_leastRateToWin) (w := 6) (j := s) dX0_leastRateToWin_33 (sl_lt hβ 8 rfl) (sl_shp hβ 8 rfl) rfl (by omega) (by omega) ?_
        rw [(h_B H).1 s (by omega)]
        refine f_i2l (M := mX0_leastRateToWin) 35 dX0_leastRateToWin_34 rfl ?_
        refine f_lstore (M := mX0_leastRateToWin) (ls' := [_, _, _, _, _, _, _, _, _, _, _, _]) 37 dX0_leastRateToWin_35 rfl rfl rfl ?_
        refine f_aload_n (M := mX0_leastRateToWin) 38 dX0_leastRateToWin_37 rfl rfl ?_
        refine f_iload_n (M := mX0_leastRateToWin) 39 dX0_leastRateToWin_38 rfl rfl ?_
        refine e_cV (M := mX0_leastRateToWin) [_] 0 0 dX0_leastRateToWin_39 pa_57 pb_57 cc_57 rfl rfl rfl rfl rfl (x_kk rfl) (x_kk rfl) (x_rcvOK (sl_lt hβ 7 rfl) (sl_s hβ 7 rfl rfl) rfl) (k_valueOf H hq hNs hn) rfl ?_
        refine f_aload_n (M := mX0_leastRateToWin) 43 dX0_leastRateToWin_42 rfl rfl ?_
        refine f_iload_n (M := mX0_leastRateToWin) 44 dX0_leastRateToWin_43 rfl rfl ?_
        refine f_iload_n (M := mX0_leastRateToWin) 45 dX0_leastRateToWin_44 rfl rfl ?_
        refine e_cV (M := mX0_leastRateToWin) [_, _] 0 0 dX0_leastRateToWin_45 pa_45 pb_45 cc_45 rfl rfl rfl rfl rfl (x_kk rfl) (x_kk rfl) (x_rcvOK (sl_lt hβ 7 rfl) (sl_s hβ 7 rfl rfl) rfl) (k_rateOf H hq (by omega)) rfl ?_
        refine f_i2l (M := mX0_leastRateToWin) 49 dX0_leastRateToWin_48 rfl ?_
        refine f_lload (M := mX0_leastRateToWin) 51 dX0_leastRateToWin_49 rfl rfl ?_
        refine f_lmul (M := mX0_leastRateToWin) 52 dX0_leastRateToWin_51 rfl ?_
        refine f_lsub (M := mX0_leastRateToWin) 53 dX0_leastRateToWin_52 rfl ?_
        rw [Int64.mul_comm (a (224 + 8 * q + s)).toInt64 (sp_vol a s).toInt64, show sp_val a q (-1) 100 Ns - (sp_vol a s).toInt64 * (a (224 + 8 * q + s)).toInt64 = sp_rest a q s Ns from rfl]
        refine f_lstore (M := mX0_leastRateToWin) (ls' := [_, _, _, _, _, _, _, _, _, _, _, _]) 55 dX0_leastRateToWin_53 rfl rfl rfl ?_
        refine f_aload_n (M := mX0_leastRateToWin) 56 dX0_leastRateToWin_55 rfl rfl ?_
        refine f_iload_n (M := mX0_leastRateToWin) 57 dX0_leastRateToWin_56 rfl rfl ?_
        refine f_aload_n (M := mX0_leastRateToWin) 58 dX0_leastRateToWin_57 rfl rfl ?_
        refine e_cV (M := mX0_leastRateToWin) [_] 0 0 dX0_leastRateToWin_58 pa_110 pb_110 cc_110 rfl rfl rfl rfl rfl (x_kk rfl) (x_kk rfl) (x_rcvOK (sl_lt hβ 7 rfl) (sl_s hβ 7 rfl rfl) rfl) (k_leastValueToWin H hq hNs hn) rfl ?_
        refine f_lload (M := mX0_leastRateToWin) 63 dX0_leastRateToWin_61 rfl rfl ?_
        refine f_lsub (M := mX0_leastRateToWin) 64 dX0_leastRateToWin_63 rfl ?_
        rw [show sp_lv a q Ns 8 - sp_rest a q s Ns = sp_mis a q s Ns from rfl]
        refine f_lstore (M := mX0_leastRateToWin) (ls' := [_, _, _, _, _, _, _, _, _, _, _, _]) 66 dX0_leastRateToWin_64 rfl rfl rfl ?_
        refine f_aload_n (M := mX0_leastRateToWin) 67 dX0_leastRateToWin_66 rfl rfl ?_
        refine e_getR (M := mX0_leastRateToWin) dX0_leastRateToWin_67 fl_70 (x_kk rfl) (sl_lt hβ 1 rfl) (sl_s hβ 1 rfl rfl) (wf_7_2 hR hβ) ?_
        refine f_iload_n (M := mX0_leastRateToWin) 71 dX0_leastRateToWin_70 rfl rfl ?_
        refine e_ild (M := mX0_leastRateToWin) (w := 6) (j := s) dX0_leastRateToWin_71 (sl_lt hβ 3 rfl) (sl_shp hβ 3 rfl) rfl (by omega) (by omega) ?_
        rw [(h_T H).2.2.1 s (by omega)]
        refine f_i2l (M := mX0_leastRateToWin) 73 dX0_leastRateToWin_72 rfl ?_
        refine f_lstore (M := mX0_leastRateToWin) (ls' := [_, _, _, _, _, _, _, _, _, _, _, _]) 75 dX0_leastRateToWin_73 rfl rfl rfl ?_
        refine f_lload (M := mX0_leastRateToWin) 77 dX0_leastRateToWin_75 rfl rfl ?_
        refine f_lload (M := mX0_leastRateToWin) 79 dX0_leastRateToWin_77 rfl rfl ?_
        refine f_lmul (M := mX0_leastRateToWin) 80 dX0_leastRateToWin_79 rfl ?_
        refine f_lload (M := mX0_leastRateToWin) 82 dX0_leastRateToWin_80 rfl rfl ?_
        refine f_lcmp (M := mX0_leastRateToWin) 83 dX0_leastRateToWin_82 rfl ?_
        refine e_if_ge (M := mX0_leastRateToWin) (t := 107) dX0_leastRateToWin_83 rfl (fun h4 => ?_) (fun h4 => ?_)
        · refine f_lload (M := mX0_leastRateToWin) 109 dX0_leastRateToWin_107 rfl rfl ?_
          refine f_ldc2 (M := mX0_leastRateToWin) 112 dX0_leastRateToWin_109 (x_kk rfl) csl_114 rfl ?_
          refine f_lcmp (M := mX0_leastRateToWin) 113 dX0_leastRateToWin_112 rfl ?_
          refine e_if_gt (M := mX0_leastRateToWin) (t := 133) dX0_leastRateToWin_113 rfl (fun h6 => ?_) (fun h6 => ?_)
          · refine f_iconst (M := mX0_leastRateToWin) 134 dX0_leastRateToWin_133 ki_m1 rfl ?_
            refine e_ri (M := mX0_leastRateToWin) dX0_leastRateToWin_134 rfl (x_kk rfl) (x_kk rfl) ?_
            exact r_i (lw_g (least_1 (h_IV H) (h_IB H) hNs (lc_ge.mp h4)) (lc_gt.mp h6)).symm
          · refine f_aload_n (M := mX0_leastRateToWin) 117 dX0_leastRateToWin_116 rfl rfl ?_
            refine f_iload_n (M := mX0_leastRateToWin) 118 dX0_leastRateToWin_117 rfl rfl ?_
            refine f_lload (M := mX0_leastRateToWin) 120 dX0_leastRateToWin_118 rfl rfl ?_
            refine f_lload (M := mX0_leastRateToWin) 122 dX0_leastRateToWin_120 rfl rfl ?_
            refine f_lload (M := mX0_leastRateToWin) 124 dX0_leastRateToWin_122 rfl rfl ?_
            refine f_lmul (M := mX0_leastRateToWin) 125 dX0_leastRateToWin_124 rfl ?_
            refine f_ladd (M := mX0_leastRateToWin) 126 dX0_leastRateToWin_125 rfl ?_
            refine f_aload_n (M := mX0_leastRateToWin) 127 dX0_leastRateToWin_126 rfl rfl ?_
            refine e_cV (M := mX0_leastRateToWin) [_] 0 0 dX0_leastRateToWin_127 pa_61 pb_61 cc_61 rfl rfl rfl rfl rfl (x_kk rfl) (x_kk rfl) (x_rcvOK (sl_lt hβ 7 rfl) (sl_s hβ 7 rfl rfl) rfl) (k_dep H hq) rfl ?_
            refine e_if_eq (M := mX0_leastRateToWin) (t := 135) dX0_leastRateToWin_130 rfl (fun h7 => ?_) (fun h7 => ?_)
            · refine f_lload (M := mX0_leastRateToWin) 137 dX0_leastRateToWin_135 rfl rfl ?_
              refine f_l2i (M := mX0_leastRateToWin) 138 dX0_leastRateToWin_137 rfl ?_
              refine e_ri (M := mX0_leastRateToWin) dX0_leastRateToWin_138 rfl (x_kk rfl) (x_kk rfl) ?_
              exact r_i (lw_k (hcc h1 h2 h3) (least_1 (h_IV H) (h_IB H) hNs (lc_ge.mp h4)) (fun z => h6 (lc_gt.mpr z)) (x_bF h7)).symm
            · refine f_iconst (M := mX0_leastRateToWin) 134 dX0_leastRateToWin_133 ki_m1 rfl ?_
              refine e_ri (M := mX0_leastRateToWin) dX0_leastRateToWin_134 rfl (x_kk rfl) (x_kk rfl) ?_
              exact r_i (lw_d (least_1 (h_IV H) (h_IB H) hNs (lc_ge.mp h4)) (x_bT h7)).symm
        · refine f_lload (M := mX0_leastRateToWin) 88 dX0_leastRateToWin_86 rfl rfl ?_
          refine f_lconst (M := mX0_leastRateToWin) 89 dX0_leastRateToWin_88 kl_0 rfl ?_
          refine f_lcmp (M := mX0_leastRateToWin) 90 dX0_leastRateToWin_89 rfl ?_
          refine e_if_ne (M := mX0_leastRateToWin) (t := 95) dX0_leastRateToWin_90 rfl (fun h5 => ?_) (fun h5 => ?_)
          · refine f_lload (M := mX0_leastRateToWin) 97 dX0_leastRateToWin_95 rfl rfl ?_
            refine f_lload (M := mX0_leastRateToWin) 99 dX0_leastRateToWin_97 rfl rfl ?_
            refine f_ladd (M := mX0_leastRateToWin) 100 dX0_leastRateToWin_99 rfl ?_
            refine f_lconst (M := mX0_leastRateToWin) 101 dX0_leastRateToWin_100 kl_1 rfl ?_
            refine f_lsub (M := mX0_leastRateToWin) 102 dX0_leastRateToWin_101 rfl ?_
            refine f_lload (M := mX0_leastRateToWin) 104 dX0_leastRateToWin_102 rfl rfl ?_
            refine e_ldiv (M := mX0_leastRateToWin) dX0_leastRateToWin_104 (fun z => h5 (lc_eq.mpr z)) ?_
            refine f_lstore (M := mX0_leastRateToWin) (ls' := [_, _, _, _, _, _, _, _, _, _, _, _]) 107 dX0_leastRateToWin_105 rfl rfl rfl ?_
            refine f_lload (M := mX0_leastRateToWin) 109 dX0_leastRateToWin_107 rfl rfl ?_
            refine f_ldc2 (M := mX0_leastRateToWin) 112 dX0_leastRateToWin_109 (x_kk rfl) csl_114 rfl ?_
            refine f_lcmp (M := mX0_leastRateToWin) 113 dX0_leastRateToWin_112 rfl ?_
            refine e_if_gt (M := mX0_leastRateToWin) (t := 133) dX0_leastRateToWin_113 rfl (fun h6 => ?_) (fun h6 => ?_)
            · refine f_iconst (M := mX0_leastRateToWin) 134 dX0_leastRateToWin_133 ki_m1 rfl ?_
              refine e_ri (M := mX0_leastRateToWin) dX0_leastRateToWin_134 rfl (x_kk rfl) (x_kk rfl) ?_
              exact r_i (lw_g (least_3 (h_IT H) (h_IV H) (h_IB H) hq hNs hs (fun z => h4 (lc_ge.mpr z)) (fun z => h5 (lc_eq.mpr z))) (lc_gt.mp h6)).symm
            · refine f_aload_n (M := mX0_leastRateToWin) 117 dX0_leastRateToWin_116 rfl rfl ?_
              refine f_iload_n (M := mX0_leastRateToWin) 118 dX0_leastRateToWin_117 rfl rfl ?_
              refine f_lload (M := mX0_leastRateToWin) 120 dX0_leastRateToWin_118 rfl rfl ?_
              refine f_lload (M := mX0_leastRateToWin) 122 dX0_leastRateToWin_120 rfl rfl ?_
              refine f_lload (M := mX0_leastRateToWin) 124 dX0_leastRateToWin_122 rfl rfl ?_
              refine f_lmul (M := mX0_leastRateToWin) 125 dX0_leastRateToWin_124 rfl ?_
              refine f_ladd (M := mX0_leastRateToWin) 126 dX0_leastRateToWin_125 rfl ?_
              refine f_aload_n (M := mX0_leastRateToWin) 127 dX0_leastRateToWin_126 rfl rfl ?_
              refine e_cV (M := mX0_leastRateToWin) [_] 0 0 dX0_leastRateToWin_127 pa_61 pb_61 cc_61 rfl rfl rfl rfl rfl (x_kk rfl) (x_kk rfl) (x_rcvOK (sl_lt hβ 7 rfl) (sl_s hβ 7 rfl rfl) rfl) (k_dep H hq) rfl ?_
              refine e_if_eq (M := mX0_leastRateToWin) (t := 135) dX0_leastRateToWin_130 rfl (fun h7 => ?_) (fun h7 => ?_)
              · refine f_lload (M := mX0_leastRateToWin) 137 dX0_leastRateToWin_135 rfl rfl ?_
                refine f_l2i (M := mX0_leastRateToWin) 138 dX0_leastRateToWin_137 rfl ?_
                refine e_ri (M := mX0_leastRateToWin) dX0_leastRateToWin_138 rfl (x_kk rfl) (x_kk rfl) ?_
                exact r_i (lw_k (hcc h1 h2 h3) (least_3 (h_IT H) (h_IV H) (h_IB H) hq hNs hs (fun z => h4 (lc_ge.mpr z)) (fun z => h5 (lc_eq.mpr z))) (fun z => h6 (lc_gt.mpr z)) (x_bF h7)).symm
              · refine f_iconst (M := mX0_leastRateToWin) 134 dX0_leastRateToWin_133 ki_m1 rfl ?_
                refine e_ri (M := mX0_leastRateToWin) dX0_leastRateToWin_134 rfl (x_kk rfl) (x_kk rfl) ?_
                exact r_i (lw_d (least_3 (h_IT H) (h_IV H) (h_IB H) hq hNs hs (fun z => h4 (lc_ge.mpr z)) (fun z => h5 (lc_eq.mpr z))) (x_bT h7)).symm
          · refine f_iconst (M := mX0_leastRateToWin) 94 dX0_leastRateToWin_93 ki_m1 rfl ?_
            refine e_ri (M := mX0_leastRateToWin) dX0_leastRateToWin_94 rfl (x_kk rfl) (x_kk rfl) ?_
            exact r_i (lw_m (least_2 (h_IT H) (h_IV H) (h_IB H) hq hNs hs (fun z => h4 (lc_ge.mpr z)) (lc_eq.mp (x_dn h5)))).symm
      · refine f_iconst (M := mX0_leastRateToWin) 27 dX0_leastRateToWin_26 ki_m1 rfl ?_
        refine e_ri (M := mX0_leastRateToWin) dX0_leastRateToWin_27 rfl (x_kk rfl) (x_kk rfl) ?_
        exact r_i (lw_x (fun z => by have y := x_bT h3; rw [z.2.2] at y; cases y)).symm
theorem ko_leastWinningRate {N β : Nat} {a : Nat → Int32} {b : Nat → Int64} (H : y_CS N I L R β a b) {Ns Np Nl Nm : Nat} (Z : y_Z a Ns Np Nl Nm) {q : Nat} (hq : q < 8) {s : Nat} (hs : s < Ns) (h2 : 1 < a 0 ∧ ¬ a 0 = 6) (h : sp_could a q s Ns ∧ sp_least a q s Ns ≤ 1000000) (hne : ¬ (sp_least a q s Ns).toInt32 = -1) : x_Cv X mX8_leastWinningRate [.ref 0, .int (Int32.ofNat q), .int (Int32.ofNat s)] (I, L, R) 233 (.inl (some (.int ((sp_least a q s Ns).toInt32))), (I, L, R), 233) := by
  obtain ⟨hNs, hn, hNp, hp, hNl, hl, hNm, hmm⟩ := Z
  have hR := h_R H
  have hβ := h_β H
  have hS := h_S H
  show x_Ev X mX8_leastWinningRate 0 [some (.ref 0), some (.int (Int32.ofNat q)), some (.int (Int32.ofNat s)), none] [] ((I, L, R), 233, 0, 0) _
  refine f_iload_n (M := mX8_leastWinningRate) 1 dX8_leastWinningRate_0 rfl rfl ?_
  refine e_cS (M := mX8_leastWinningRate) [_] 0 0 dX8_leastWinningRate_1 pa_8164 cc_8164 rfl rfl rfl rfl rfl (x_kk rfl) (x_kk rfl) rfl (c_X8_isBidder) rfl ?_
  refine e_if_eqF (M := mX8_leastWinningRate) 19 dX8_leastWinningRate_4 rfl (x_bn (ib_ok kn_7 (by omega) (by omega))) ?_
  refine f_aload_n (M := mX8_leastWinningRate) 8 dX8_leastWinningRate_7 rfl rfl ?_
  refine f_iload_n (M := mX8_leastWinningRate) 9 dX8_leastWinningRate_8 rfl rfl ?_
  refine e_cV (M := mX8_leastWinningRate) [_] 0 0 dX8_leastWinningRate_9 pa_8161 pb_8161 cc_8161 rfl rfl rfl rfl rfl (x_kk rfl) (x_kk rfl) rfl (k_isSpecies H) rfl ?_
  refine e_if_eqF (M := mX8_leastWinningRate) 19 dX8_leastWinningRate_12 rfl (x_bn (in_ok hn (by omega) hs)) ?_
  refine f_iconst (M := mX8_leastWinningRate) 16 dX8_leastWinningRate_15 ki_1 rfl ?_
  refine f_goto (M := mX8_leastWinningRate) 20 dX8_leastWinningRate_16 rfl ?_
  refine e_cS (M := mX8_leastWinningRate) [] 1 6 dX8_leastWinningRate_20 pa_8103 cc_8103 rfl rfl rfl rfl rfl (x_kk rfl) (x_kk rfl) rfl (c_X8_requireExisting (by decide)) rfl ?_
  refine f_aload_n (M := mX8_leastWinningRate) 24 dX8_leastWinningRate_23 rfl rfl ?_
  refine e_getR (M := mX8_leastWinningRate) dX8_leastWinningRate_24 fl_8026 (x_kk rfl) (x_kk rfl) rfl hS ?_
  refine e_cV (M := mX8_leastWinningRate) [_] 1 6 dX8_leastWinningRate_27 pa_8195 pb_8195 cc_8195 rfl rfl rfl rfl rfl (x_kk rfl) (x_kk rfl) (x_rcvOK (sl_lt hβ 0 rfl) (sl_s hβ 0 rfl rfl) rfl) (k_hasOpenBids H) rfl ?_
  refine e_cS (M := mX8_leastWinningRate) [] 2 12 dX8_leastWinningRate_30 pa_8037 cc_8037 rfl rfl rfl rfl rfl (x_kk rfl) (x_kk rfl) rfl (c_X8_requireState (x_bn h2)) rfl ?_
  refine f_aload_n (M := mX8_leastWinningRate) 34 dX8_leastWinningRate_33 rfl rfl ?_
  refine e_getR (M := mX8_leastWinningRate) dX8_leastWinningRate_34 fl_8026 (x_kk rfl) (x_kk rfl) rfl hS ?_
  refine e_getR (M := mX8_leastWinningRate) dX8_leastWinningRate_37 fl_8148 (x_kk rfl) (sl_lt hβ 0 rfl) (sl_s hβ 0 rfl rfl) (wf_6_3 hR hβ) ?_
  refine f_iload_n (M := mX8_leastWinningRate) 41 dX8_leastWinningRate_40 rfl rfl ?_
  refine f_iload_n (M := mX8_leastWinningRate) 42 dX8_leastWinningRate_41 rfl rfl ?_
  refine f_aload_n (M := mX8_leastWinningRate) 43 dX8_leastWinningRate_42 rfl rfl ?_
  refine e_getR (M := mX8_leastWinningRate) dX8_leastWinningRate_43 fl_8026 (x_kk rfl) (x_kk rfl) rfl hS ?_
  refine e_getR (M := mX8_leastWinningRate) dX8_leastWinningRate_46 fl_8083 (x_kk rfl) (sl_lt hβ 0 rfl) (sl_s hβ 0 rfl rfl) (wf_6_1 hR hβ) ?_
  refine e_cV (M := mX8_leastWinningRate) [_] 2 12 dX8_leastWinningRate_49 pa_8218 pb_8218 cc_8218 rfl rfl rfl rfl rfl (x_kk rfl) (x_kk rfl) (x_rcvOK (sl_lt hβ 7 rfl) (sl_s hβ 7 rfl rfl) rfl) ((by have e := k_leastRateToWin (X := X) H hq hNs hn hs; rw [show y_lw a q s Ns = (sp_least a q s Ns).toInt32 from if_pos h] at e; exact e)) rfl ?_
  refine f_istore_n (M := mX8_leastWinningRate) (ls' := [_, _, _, _]) 53 dX8_leastWinningRate_52 rfl rfl rfl ?_
  refine f_iload_n (M := mX8_leastWinningRate) 54 dX8_leastWinningRate_53 rfl rfl ?_
  refine f_iconst (M := mX8_leastWinningRate) 55 dX8_leastWinningRate_54 ki_m1 rfl ?_
  refine e_icmp_eqF (M := mX8_leastWinningRate) 62 dX8_leastWinningRate_55 rfl hne ?_
  refine f_iconst (M := mX8_leastWinningRate) 59 dX8_leastWinningRate_58 ki_1 rfl ?_
  refine f_goto (M := mX8_leastWinningRate) 63 dX8_leastWinningRate_59 rfl ?_
  refine e_cS (M := mX8_leastWinningRate) [] 3 18 dX8_leastWinningRate_63 pa_8211 cc_8211 rfl rfl rfl rfl rfl (x_kk rfl) (x_kk rfl) rfl (c_X8_requireFound (by decide)) rfl ?_
  refine f_iload_n (M := mX8_leastWinningRate) 67 dX8_leastWinningRate_66 rfl rfl ?_
  refine e_ri (M := mX8_leastWinningRate) dX8_leastWinningRate_67 rfl (x_kk rfl) (x_kk rfl) ?_
  rfl
theorem kf_leastWinningRate_3 {N β : Nat} {a : Nat → Int32} {b : Nat → Int64} (H : y_CS N I L R β a b) {Ns Np Nl Nm : Nat} (Z : y_Z a Ns Np Nl Nm) {q : Nat} (hq : q < 8) {s : Nat} (hs : s < Ns) (h2 : 1 < a 0 ∧ ¬ a 0 = 6) (h : ¬ (sp_could a q s Ns ∧ sp_least a q s Ns ≤ 1000000)) : x_Cv X mX8_leastWinningRate [.ref 0, .int (Int32.ofNat q), .int (Int32.ofNat s)] (I, L, R) 233 (.inr 3, (I, L, R), 233) := by
  obtain ⟨hNs, hn, hNp, hp, hNl, hl, hNm, hmm⟩ := Z
  have hR := h_R H
  have hβ := h_β H
  have hS := h_S H
  show x_Ev X mX8_leastWinningRate 0 [some (.ref 0), some (.int (Int32.ofNat q)), some (.int (Int32.ofNat s)), none] [] ((I, L, R), 233, 0, 0) _
  refine f_iload_n (M := mX8_leastWinningRate) 1 dX8_leastWinningRate_0 rfl rfl ?_
  refine e_cS (M := mX8_leastWinningRate) [_] 0 0 dX8_leastWinningRate_1 pa_8164 cc_8164 rfl rfl rfl rfl rfl (x_kk rfl) (x_kk rfl) rfl (c_X8_isBidder) rfl ?_
  refine e_if_eqF (M := mX8_leastWinningRate) 19 dX8_leastWinningRate_4 rfl (x_bn (ib_ok kn_7 (by omega) (by omega))) ?_
  refine f_aload_n (M := mX8_leastWinningRate) 8 dX8_leastWinningRate_7 rfl rfl ?_
  refine f_iload_n (M := mX8_leastWinningRate) 9 dX8_leastWinningRate_8 rfl rfl ?_
  refine e_cV (M := mX8_leastWinningRate) [_] 0 0 dX8_leastWinningRate_9 pa_8161 pb_8161 cc_8161 rfl rfl rfl rfl rfl (x_kk rfl) (x_kk rfl) rfl (k_isSpecies H) rfl ?_
  refine e_if_eqF (M := mX8_leastWinningRate) 19 dX8_leastWinningRate_12 rfl (x_bn (in_ok hn (by omega) hs)) ?_
  refine f_iconst (M := mX8_leastWinningRate) 16 dX8_leastWinningRate_15 ki_1 rfl ?_
  refine f_goto (M := mX8_leastWinningRate) 20 dX8_leastWinningRate_16 rfl ?_
  refine e_cS (M := mX8_leastWinningRate) [] 1 6 dX8_leastWinningRate_20 pa_8103 cc_8103 rfl rfl rfl rfl rfl (x_kk rfl) (x_kk rfl) rfl (c_X8_requireExisting (by decide)) rfl ?_
  refine f_aload_n (M := mX8_leastWinningRate) 24 dX8_leastWinningRate_23 rfl rfl ?_
  refine e_getR (M := mX8_leastWinningRate) dX8_leastWinningRate_24 fl_8026 (x_kk rfl) (x_kk rfl) rfl hS ?_
  refine e_cV (M := mX8_leastWinningRate) [_] 1 6 dX8_leastWinningRate_27 pa_8195 pb_8195 cc_8195 rfl rfl rfl rfl rfl (x_kk rfl) (x_kk rfl) (x_rcvOK (sl_lt hβ 0 rfl) (sl_s hβ 0 rfl rfl) rfl) (k_hasOpenBids H) rfl ?_
  refine e_cS (M := mX8_leastWinningRate) [] 2 12 dX8_leastWinningRate_30 pa_8037 cc_8037 rfl rfl rfl rfl rfl (x_kk rfl) (x_kk rfl) rfl (c_X8_requireState (x_bn h2)) rfl ?_
  refine f_aload_n (M := mX8_leastWinningRate) 34 dX8_leastWinningRate_33 rfl rfl ?_
  refine e_getR (M := mX8_leastWinningRate) dX8_leastWinningRate_34 fl_8026 (x_kk rfl) (x_kk rfl) rfl hS ?_
  refine e_getR (M := mX8_leastWinningRate) dX8_leastWinningRate_37 fl_8148 (x_kk rfl) (sl_lt hβ 0 rfl) (sl_s hβ 0 rfl rfl) (wf_6_3 hR hβ) ?_
  refine f_iload_n (M := mX8_leastWinningRate) 41 dX8_leastWinningRate_40 rfl rfl ?_
  refine f_iload_n (M := mX8_leastWinningRate) 42 dX8_leastWinningRate_41 rfl rfl ?_
  refine f_aload_n (M := mX8_leastWinningRate) 43 dX8_leastWinningRate_42 rfl rfl ?_
  refine e_getR (M := mX8_leastWinningRate) dX8_leastWinningRate_43 fl_8026 (x_kk rfl) (x_kk rfl) rfl hS ?_
  refine e_getR (M := mX8_leastWinningRate) dX8_leastWinningRate_46 fl_8083 (x_kk rfl) (sl_lt hβ 0 rfl) (sl_s hβ 0 rfl rfl) (wf_6_1 hR hβ) ?_
  refine e_cV (M := mX8_leastWinningRate) [_] 2 12 dX8_leastWinningRate_49 pa_8218 pb_8218 cc_8218 rfl rfl rfl rfl rfl (x_kk rfl) (x_kk rfl) (x_rcvOK (sl_lt hβ 7 rfl) (sl_s hβ 7 rfl rfl) rfl) ((by have e := k_leastRateToWin (X := X) H hq hNs hn hs; rw [show y_lw a q s Ns = -1 from if_neg h] at e; exact e)) rfl ?_
  refine f_istore_n (M := mX8_leastWinningRate) (ls' := [_, _, _, _]) 53 dX8_leastWinningRate_52 rfl rfl rfl ?_
  refine f_iload_n (M := mX8_leastWinningRate) 54 dX8_leastWinningRate_53 rfl rfl ?_
  refine f_iconst (M := mX8_leastWinningRate) 55 dX8_leastWinningRate_54 ki_m1 rfl ?_
  refine e_icmp_eqT (M := mX8_leastWinningRate) 62 dX8_leastWinningRate_55 rfl rfl ?_
  refine f_iconst (M := mX8_leastWinningRate) 63 dX8_leastWinningRate_62 ki_0 rfl ?_
  exact e_cSX (M := mX8_leastWinningRate) 3 18 dX8_leastWinningRate_63 pa_8211 cc_8211 rfl rfl rfl rfl rfl (x_kk rfl) (x_kk rfl) rfl (c_X8_requireFound_x rfl) rfl
theorem mo_leastWinningRate (hR : x_wf R) {Ns Np Nl Nm : Nat} (Z : y_Z (I 226) Ns Np Nl Nm) {q : Nat} (hq : q < 8) {s : Nat} (hs : s < Ns) (h2 : 1 < I 226 0 ∧ ¬ I 226 0 = 6) (h : sp_could (I 226) q s Ns ∧ sp_least (I 226) q s Ns ≤ 1000000) : x_Cv X mX9_leastWinningRate [.ref 225, .int (Int32.ofNat q), .int (Int32.ofNat s)] (I, L, R) 233 (.inl (some (.int ((sp_least (I 226) q s Ns).toInt32))), (x_tw I 0, L, R), 233) := by
  obtain ⟨hNs, hn, hNp, hp, hNl, hl, hNm, hmm⟩ := Z
  show x_Ev X mX9_leastWinningRate 0 [some (.ref 225), some (.int (Int32.ofNat q)), some (.int (Int32.ofNat s)), none, none] [] ((I, L, R), 233, 0, 0) _
  refine f_aload_n (M := mX9_leastWinningRate) 1 dX9_leastWinningRate_0 rfl rfl ?_
  refine f_iload_n (M := mX9_leastWinningRate) 2 dX9_leastWinningRate_1 rfl rfl ?_
  refine e_cS (M := mX9_leastWinningRate) [_, _] 0 0 dX9_leastWinningRate_2 pa_9185 cc_9185 rfl rfl rfl rfl rfl (x_kk rfl) (x_kk rfl) rfl (c_X9_isBidder) rfl ?_
  refine e_if_eqF (M := mX9_leastWinningRate) 16 dX9_leastWinningRate_5 rfl (x_bn (ib_ok kn_7 (by omega) (by omega))) ?_
  refine f_aload_n (M := mX9_leastWinningRate) 9 dX9_leastWinningRate_8 rfl rfl ?_
  refine f_iload_n (M := mX9_leastWinningRate) 10 dX9_leastWinningRate_9 rfl rfl ?_
  refine e_cV (M := mX9_leastWinningRate) [_, _] 0 0 dX9_leastWinningRate_10 pa_9137 pb_9137 cc_9137 rfl rfl rfl rfl rfl (x_kk rfl) (x_kk rfl) rfl (c_X9_isSpecies hR) rfl ?_
  refine e_if_neT (M := mX9_leastWinningRate) 20 dX9_leastWinningRate_13 rfl (x_bn (in_ok hn (by omega) hs)) ?_
  refine f_aload_n (M := mX9_leastWinningRate) 21 dX9_leastWinningRate_20 rfl rfl ?_
  refine e_cV (M := mX9_leastWinningRate) [_, _] 0 0 dX9_leastWinningRate_21 pa_9215 pb_9215 cc_9215 rfl rfl rfl rfl rfl (x_kk rfl) (x_kk rfl) rfl (c_X9_isOpened hR) rfl ?_
  refine e_if_neT (M := mX9_leastWinningRate) 31 dX9_leastWinningRate_24 rfl (x_bn h2) ?_
  refine f_iconst (M := mX9_leastWinningRate) 32 dX9_leastWinningRate_31 ki_0 rfl ?_
  refine e_putI (M := mX9_leastWinningRate) dX9_leastWinningRate_32 fl_9033 (x_kk rfl) (x_kk rfl) rfl (fun q9 => Bool.noConfusion q9) ?_
  refine f_aload_n (M := mX9_leastWinningRate) 36 dX9_leastWinningRate_35 rfl rfl ?_
  refine e_getI (M := mX9_leastWinningRate) dX9_leastWinningRate_36 fl_9033 (x_kk rfl) (x_kk rfl) rfl ?_
  refine e_if_leT (M := mX9_leastWinningRate) 44 dX9_leastWinningRate_39 rfl (show (0 : Int32) ≤ 0 by decide) ?_
  refine f_aload_n (M := mX9_leastWinningRate) 45 dX9_leastWinningRate_44 rfl rfl ?_
  refine f_iload_n (M := mX9_leastWinningRate) 46 dX9_leastWinningRate_45 rfl rfl ?_
  refine f_iload_n (M := mX9_leastWinningRate) 47 dX9_leastWinningRate_46 rfl rfl ?_
  refine e_cV (M := mX9_leastWinningRate) [_] 0 0 dX9_leastWinningRate_47 pa_9231 pb_9231 cc_9231 rfl rfl rfl rfl rfl (x_kk rfl) (x_kk rfl) rfl (c_X9_couldBeValid (I := x_tw I 0) hR hNs hn hq (by omega)) rfl ?_
  refine e_if_eqF (M := mX9_leastWinningRate) 62 dX9_leastWinningRate_50 rfl (x_bn h.1) ?_
  refine f_aload_n (M := mX9_leastWinningRate) 54 dX9_leastWinningRate_53 rfl rfl ?_
  refine f_iload_n (M := mX9_leastWinningRate) 55 dX9_leastWinningRate_54 rfl rfl ?_
  refine f_iload_n (M := mX9_leastWinningRate) 56 dX9_leastWinningRate_55 rfl rfl ?_
  refine e_cV (M := mX9_leastWinningRate) [_] 0 0 dX9_leastWinningRate_56 pa_9235 pb_9235 cc_9235 rfl rfl rfl rfl rfl (x_kk rfl) (x_kk rfl) rfl (c_X9_leastRate (I := x_tw I 0) hR hNs hn hq (by omega)) rfl ?_
  refine f_goto (M := mX9_leastWinningRate) 65 dX9_leastWinningRate_59 rfl ?_
  refine f_lstore_n (M := mX9_leastWinningRate) (ls' := [_, _, _, _, _]) 66 dX9_leastWinningRate_65 rfl rfl rfl ?_
  refine f_aload_n (M := mX9_leastWinningRate) 67 dX9_leastWinningRate_66 rfl rfl ?_
  refine f_lload_n (M := mX9_leastWinningRate) 68 dX9_leastWinningRate_67 rfl rfl ?_
  refine f_ldc2 (M := mX9_leastWinningRate) 71 dX9_leastWinningRate_68 (x_kk rfl) csl_9188 rfl ?_
  refine f_lcmp (M := mX9_leastWinningRate) 72 dX9_leastWinningRate_71 rfl ?_
  refine e_if_leT (M := mX9_leastWinningRate) 79 dX9_leastWinningRate_72 rfl (lc_le.mpr h.2) ?_
  refine f_iconst (M := mX9_leastWinningRate) 80 dX9_leastWinningRate_79 ki_0 rfl ?_
  refine e_putI (M := mX9_leastWinningRate) dX9_leastWinningRate_80 fl_9033 (x_kk rfl) (x_kk rfl) rfl (fun q9 => Bool.noConfusion q9) ?_
  refine f_aload_n (M := mX9_leastWinningRate) 84 dX9_leastWinningRate_83 rfl rfl ?_
  refine e_getI (M := mX9_leastWinningRate) dX9_leastWinningRate_84 fl_9033 (x_kk rfl) (x_kk rfl) rfl ?_
  refine e_if_leT (M := mX9_leastWinningRate) 94 dX9_leastWinningRate_87 rfl (show (0 : Int32) ≤ 0 by decide) ?_
  refine f_lload_n (M := mX9_leastWinningRate) 95 dX9_leastWinningRate_94 rfl rfl ?_
  refine f_l2i (M := mX9_leastWinningRate) 96 dX9_leastWinningRate_95 rfl ?_
  refine e_ri (M := mX9_leastWinningRate) dX9_leastWinningRate_96 rfl (x_kk rfl) (x_kk rfl) ?_
  exact congrArg (fun q9 => ((.inl (some (.int ((sp_least (I 226) q s Ns).toInt32))), (q9, L, R), 233) : x_O × x_Mem × Nat)) (tw_tw (I := I) (s := 0) (t := 0))
theorem mo_leastWinningRate_3 (hR : x_wf R) {Ns Np Nl Nm : Nat} (Z : y_Z (I 226) Ns Np Nl Nm) {q : Nat} (hq : q < 8) {s : Nat} (hs : s < Ns) (h2 : 1 < I 226 0 ∧ ¬ I 226 0 = 6) (h : sp_could (I 226) q s Ns) (g : ¬ sp_least (I 226) q s Ns ≤ 1000000) : x_Cv X mX9_leastWinningRate [.ref 225, .int (Int32.ofNat q), .int (Int32.ofNat s)] (I, L, R) 233 (.inl (some (.int (0))), (x_tw I 3, L, R), 233) := by
  obtain ⟨hNs, hn, hNp, hp, hNl, hl, hNm, hmm⟩ := Z
  show x_Ev X mX9_leastWinningRate 0 [some (.ref 225), some (.int (Int32.ofNat q)), some (.int (Int32.ofNat s)), none, none] [] ((I, L, R), 233, 0, 0) _
  refine f_aload_n (M := mX9_leastWinningRate) 1 dX9_leastWinningRate_0 rfl rfl ?_
  refine f_iload_n (M := mX9_leastWinningRate) 2 dX9_leastWinningRate_1 rfl rfl ?_
  refine e_cS (M := mX9_leastWinningRate) [_, _] 0 0 dX9_leastWinningRate_2 pa_9185 cc_9185 rfl rfl rfl rfl rfl (x_kk rfl) (x_kk rfl) rfl (c_X9_isBidder) rfl ?_
  refine e_if_eqF (M := mX9_leastWinningRate) 16 dX9_leastWinningRate_5 rfl (x_bn (ib_ok kn_7 (by omega) (by omega))) ?_
  refine f_aload_n (M := mX9_leastWinningRate) 9 dX9_leastWinningRate_8 rfl rfl ?_
  refine f_iload_n (M := mX9_leastWinningRate) 10 dX9_leastWinningRate_9 rfl rfl ?_
  refine e_cV (M := mX9_leastWinningRate) [_, _] 0 0 dX9_leastWinningRate_10 pa_9137 pb_9137 cc_9137 rfl rfl rfl rfl rfl (x_kk rfl) (x_kk rfl) rfl (c_X9_isSpecies hR) rfl ?_
  refine e_if_neT (M := mX9_leastWinningRate) 20 dX9_leastWinningRate_13 rfl (x_bn (in_ok hn (by omega) hs)) ?_
  refine f_aload_n (M := mX9_leastWinningRate) 21 dX9_leastWinningRate_20 rfl rfl ?_
  refine e_cV (M := mX9_leastWinningRate) [_, _] 0 0 dX9_leastWinningRate_21 pa_9215 pb_9215 cc_9215 rfl rfl rfl rfl rfl (x_kk rfl) (x_kk rfl) rfl (c_X9_isOpened hR) rfl ?_
  refine e_if_neT (M := mX9_leastWinningRate) 31 dX9_leastWinningRate_24 rfl (x_bn h2) ?_
  refine f_iconst (M := mX9_leastWinningRate) 32 dX9_leastWinningRate_31 ki_0 rfl ?_
  refine e_putI (M := mX9_leastWinningRate) dX9_leastWinningRate_32 fl_9033 (x_kk rfl) (x_kk rfl) rfl (fun q9 => Bool.noConfusion q9) ?_
  refine f_aload_n (M := mX9_leastWinningRate) 36 dX9_leastWinningRate_35 rfl rfl ?_
  refine e_getI (M := mX9_leastWinningRate) dX9_leastWinningRate_36 fl_9033 (x_kk rfl) (x_kk rfl) rfl ?_
  refine e_if_leT (M := mX9_leastWinningRate) 44 dX9_leastWinningRate_39 rfl (show (0 : Int32) ≤ 0 by decide) ?_
  refine f_aload_n (M := mX9_leastWinningRate) 45 dX9_leastWinningRate_44 rfl rfl ?_
  refine f_iload_n (M := mX9_leastWinningRate) 46 dX9_leastWinningRate_45 rfl rfl ?_
  refine f_iload_n (M := mX9_leastWinningRate) 47 dX9_leastWinningRate_46 rfl rfl ?_
  refine e_cV (M := mX9_leastWinningRate) [_] 0 0 dX9_leastWinningRate_47 pa_9231 pb_9231 cc_9231 rfl rfl rfl rfl rfl (x_kk rfl) (x_kk rfl) rfl (c_X9_couldBeValid (I := x_tw I 0) hR hNs hn hq (by omega)) rfl ?_
  refine e_if_eqF (M := mX9_leastWinningRate) 62 dX9_leastWinningRate_50 rfl (x_bn h) ?_
  refine f_aload_n (M := mX9_leastWinningRate) 54 dX9_leastWinningRate_53 rfl rfl ?_
  refine f_iload_n (M := mX9_leastWinningRate) 55 dX9_leastWinningRate_54 rfl rfl ?_
  refine f_iload_n (M := mX9_leastWinningRate) 56 dX9_leastWinningRate_55 rfl rfl ?_
  refine e_cV (M := mX9_leastWinningRate) [_] 0 0 dX9_leastWinningRate_56 pa_9235 pb_9235 cc_9235 rfl rfl rfl rfl rfl (x_kk rfl) (x_kk rfl) rfl (c_X9_leastRate (I := x_tw I 0) hR hNs hn hq (by omega)) rfl ?_
  refine f_goto (M := mX9_leastWinningRate) 65 dX9_leastWinningRate_59 rfl ?_
  refine f_lstore_n (M := mX9_leastWinningRate) (ls' := [_, _, _, _, _]) 66 dX9_leastWinningRate_65 rfl rfl rfl ?_
  refine f_aload_n (M := mX9_leastWinningRate) 67 dX9_leastWinningRate_66 rfl rfl ?_
  refine f_lload_n (M := mX9_leastWinningRate) 68 dX9_leastWinningRate_67 rfl rfl ?_
  refine f_ldc2 (M := mX9_leastWinningRate) 71 dX9_leastWinningRate_68 (x_kk rfl) csl_9188 rfl ?_
  refine f_lcmp (M := mX9_leastWinningRate) 72 dX9_leastWinningRate_71 rfl ?_
  refine e_if_leF (M := mX9_leastWinningRate) 79 dX9_leastWinningRate_72 rfl (fun z => g (lc_le.mp z)) ?_
  refine f_iconst (M := mX9_leastWinningRate) 76 dX9_leastWinningRate_75 ki_3 rfl ?_
  refine f_goto (M := mX9_leastWinningRate) 80 dX9_leastWinningRate_76 rfl ?_
  refine e_putI (M := mX9_leastWinningRate) dX9_leastWinningRate_80 fl_9033 (x_kk rfl) (x_kk rfl) rfl (fun q9 => Bool.noConfusion q9) ?_
  refine f_aload_n (M := mX9_leastWinningRate) 84 dX9_leastWinningRate_83 rfl rfl ?_
  refine e_getI (M := mX9_leastWinningRate) dX9_leastWinningRate_84 fl_9033 (x_kk rfl) (x_kk rfl) rfl ?_
  refine e_if_leF (M := mX9_leastWinningRate) 94 dX9_leastWinningRate_87 rfl (show ¬ ((3 : Int32) ≤ 0) by decide) ?_
  refine f_iconst (M := mX9_leastWinningRate) 91 dX9_leastWinningRate_90 ki_0 rfl ?_
  refine f_goto (M := mX9_leastWinningRate) 96 dX9_leastWinningRate_91 rfl ?_
  refine e_ri (M := mX9_leastWinningRate) dX9_leastWinningRate_96 rfl (x_kk rfl) (x_kk rfl) ?_
  exact congrArg (fun q9 => ((.inl (some (.int (0))), (q9, L, R), 233) : x_O × x_Mem × Nat)) (tw_tw (I := I) (s := 0) (t := 3))
theorem mo_leastWinningRate_4 (hR : x_wf R) {Ns Np Nl Nm : Nat} (Z : y_Z (I 226) Ns Np Nl Nm) {q : Nat} (hq : q < 8) {s : Nat} (hs : s < Ns) (h2 : 1 < I 226 0 ∧ ¬ I 226 0 = 6) (h : ¬ sp_could (I 226) q s Ns) : x_Cv X mX9_leastWinningRate [.ref 225, .int (Int32.ofNat q), .int (Int32.ofNat s)] (I, L, R) 233 (.inl (some (.int (0))), (x_tw I 3, L, R), 233) := by
  obtain ⟨hNs, hn, hNp, hp, hNl, hl, hNm, hmm⟩ := Z
  show x_Ev X mX9_leastWinningRate 0 [some (.ref 225), some (.int (Int32.ofNat q)), some (.int (Int32.ofNat s)), none, none] [] ((I, L, R), 233, 0, 0) _
  refine f_aload_n (M := mX9_leastWinningRate) 1 dX9_leastWinningRate_0 rfl rfl ?_
  refine f_iload_n (M := mX9_leastWinningRate) 2 dX9_leastWinningRate_1 rfl rfl ?_
  refine e_cS (M := mX9_leastWinningRate) [_, _] 0 0 dX9_leastWinningRate_2 pa_9185 cc_9185 rfl rfl rfl rfl rfl (x_kk rfl) (x_kk rfl) rfl (c_X9_isBidder) rfl ?_
  refine e_if_eqF (M := mX9_leastWinningRate) 16 dX9_leastWinningRate_5 rfl (x_bn (ib_ok kn_7 (by omega) (by omega))) ?_
  refine f_aload_n (M := mX9_leastWinningRate) 9 dX9_leastWinningRate_8 rfl rfl ?_
  refine f_iload_n (M := mX9_leastWinningRate) 10 dX9_leastWinningRate_9 rfl rfl ?_
  refine e_cV (M := mX9_leastWinningRate) [_, _] 0 0 dX9_leastWinningRate_10 pa_9137 pb_9137 cc_9137 rfl rfl rfl rfl rfl (x_kk rfl) (x_kk rfl) rfl (c_X9_isSpecies hR) rfl ?_
  refine e_if_neT (M := mX9_leastWinningRate) 20 dX9_leastWinningRate_13 rfl (x_bn (in_ok hn (by omega) hs)) ?_
  refine f_aload_n (M := mX9_leastWinningRate) 21 dX9_leastWinningRate_20 rfl rfl ?_
  refine e_cV (M := mX9_leastWinningRate) [_, _] 0 0 dX9_leastWinningRate_21 pa_9215 pb_9215 cc_9215 rfl rfl rfl rfl rfl (x_kk rfl) (x_kk rfl) rfl (c_X9_isOpened hR) rfl ?_
  refine e_if_neT (M := mX9_leastWinningRate) 31 dX9_leastWinningRate_24 rfl (x_bn h2) ?_
  refine f_iconst (M := mX9_leastWinningRate) 32 dX9_leastWinningRate_31 ki_0 rfl ?_
  refine e_putI (M := mX9_leastWinningRate) dX9_leastWinningRate_32 fl_9033 (x_kk rfl) (x_kk rfl) rfl (fun q9 => Bool.noConfusion q9) ?_
  refine f_aload_n (M := mX9_leastWinningRate) 36 dX9_leastWinningRate_35 rfl rfl ?_
  refine e_getI (M := mX9_leastWinningRate) dX9_leastWinningRate_36 fl_9033 (x_kk rfl) (x_kk rfl) rfl ?_
  refine e_if_leT (M := mX9_leastWinningRate) 44 dX9_leastWinningRate_39 rfl (show (0 : Int32) ≤ 0 by decide) ?_
  refine f_aload_n (M := mX9_leastWinningRate) 45 dX9_leastWinningRate_44 rfl rfl ?_
  refine f_iload_n (M := mX9_leastWinningRate) 46 dX9_leastWinningRate_45 rfl rfl ?_
  refine f_iload_n (M := mX9_leastWinningRate) 47 dX9_leastWinningRate_46 rfl rfl ?_
  refine e_cV (M := mX9_leastWinningRate) [_] 0 0 dX9_leastWinningRate_47 pa_9231 pb_9231 cc_9231 rfl rfl rfl rfl rfl (x_kk rfl) (x_kk rfl) rfl (c_X9_couldBeValid (I := x_tw I 0) hR hNs hn hq (by omega)) rfl ?_
  refine e_if_eqT (M := mX9_leastWinningRate) 62 dX9_leastWinningRate_50 rfl (x_b0 h) ?_
  refine f_ldc2 (M := mX9_leastWinningRate) 65 dX9_leastWinningRate_62 (x_kk rfl) csl_9229 rfl ?_
  refine f_lstore_n (M := mX9_leastWinningRate) (ls' := [_, _, _, _, _]) 66 dX9_leastWinningRate_65 rfl rfl rfl ?_
  refine f_aload_n (M := mX9_leastWinningRate) 67 dX9_leastWinningRate_66 rfl rfl ?_
  refine f_lload_n (M := mX9_leastWinningRate) 68 dX9_leastWinningRate_67 rfl rfl ?_
  refine f_ldc2 (M := mX9_leastWinningRate) 71 dX9_leastWinningRate_68 (x_kk rfl) csl_9188 rfl ?_
  refine f_lcmp (M := mX9_leastWinningRate) 72 dX9_leastWinningRate_71 rfl ?_
  refine e_if_leF (M := mX9_leastWinningRate) 79 dX9_leastWinningRate_72 rfl (by decide) ?_
  refine f_iconst (M := mX9_leastWinningRate) 76 dX9_leastWinningRate_75 ki_3 rfl ?_
  refine f_goto (M := mX9_leastWinningRate) 80 dX9_leastWinningRate_76 rfl ?_
  refine e_putI (M := mX9_leastWinningRate) dX9_leastWinningRate_80 fl_9033 (x_kk rfl) (x_kk rfl) rfl (fun q9 => Bool.noConfusion q9) ?_
  refine f_aload_n (M := mX9_leastWinningRate) 84 dX9_leastWinningRate_83 rfl rfl ?_
  refine e_getI (M := mX9_leastWinningRate) dX9_leastWinningRate_84 fl_9033 (x_kk rfl) (x_kk rfl) rfl ?_
  refine e_if_leF (M := mX9_leastWinningRate) 94 dX9_leastWinningRate_87 rfl (show ¬ ((3 : Int32) ≤ 0) by decide) ?_
  refine f_iconst (M := mX9_leastWinningRate) 91 dX9_leastWinningRate_90 ki_0 rfl ?_
  refine f_goto (M := mX9_leastWinningRate) 96 dX9_leastWinningRate_91 rfl ?_
  refine e_ri (M := mX9_leastWinningRate) dX9_leastWinningRate_96 rfl (x_kk rfl) (x_kk rfl) ?_
  exact congrArg (fun q9 => ((.inl (some (.int (0))), (q9, L, R), 233) : x_O × x_Mem × Nat)) (tw_tw (I := I) (s := 0) (t := 3))
theorem enough_i {a : Nat → Int32} {q s n : Nat} {x : Int64} (h : 0 ≤ x.toInt) : 0 ≤ (sp_enough a q s n x).toInt := by
  unfold sp_enough
  split
  · exact h
  · decide
theorem least_p {N β : Nat} {a : Nat → Int32} {b : Nat → Int64} (H : y_CS N I L R β a b) {q : Nat} (hq : q < 8) {Ns : Nat} (hNs : Ns ≤ 6) (hn : a 8 = Int32.ofNat Ns) {s : Nat} (hs : s < Ns) : 0 ≤ (sp_least a q s Ns).toInt := by
  have bm := ((h_IT H).2.2.2.2.2.2.2.2.2 s (by omega)).1
  have bv := vol_i (h_IV H) (show s < 6 by omega)
  have m := mv_i (h_IT H) (h_IV H) (show s < 6 by omega)
  by_cases h1 : sp_mis a q s Ns ≤ (a (20 + s)).toInt64 * (sp_vol a s).toInt64
  · rw [least_1 (h_IV H) (h_IB H) hNs h1]
    exact enough_i (by rw [T_w]; exact bm.1)
  · by_cases h2 : (sp_vol a s).toInt64 = 0
    · rw [least_2 (h_IT H) (h_IV H) (h_IB H) hq hNs hs h1 h2]; decide
    · rw [least_3 (h_IT H) (h_IV H) (h_IB H) hq hNs hs h1 h2]
      refine enough_i ?_
      cases hf : sp_fbut a Ns q 8 with
      | none => exact absurd (mis_n (h_IT H) (h_IV H) (h_IB H) hq hNs hs hf) h1
      | some j =>
        have hj : j < 8 := sp_fst_lt hf
        have bj := bd_val (h_IV H) (h_IB H) hj hNs
        have br := rest_i (h_IV H) (h_IB H) hq hNs hs
        have lj := ld_i (a := a) (q := q) (j := j)
        have e1 : (sp_lv a q Ns 8).toInt ≤ 600000000001 ∧ 0 ≤ (sp_lv a q Ns 8).toInt := by
          rw [(lv_eq (h_IV H) (h_IB H) (q := q) hNs 8 (by omega)).2 j hf, T_add (by split at lj <;> omega) (by split at lj <;> omega)]
          split at lj <;> omega
        have e2 : (sp_mis a q s Ns).toInt = (sp_lv a q Ns 8).toInt - (sp_rest a q s Ns).toInt := by unfold sp_mis; exact T_sub (by omega) (by omega)
        rw [T_le, m.1] at h1
        have o1 : (1 : Int64).toInt = 1 := by decide
        have v1 : (sp_vol a s).toInt64.toInt = (sp_vol a s).toInt := T_w
        have e3 : (sp_mis a q s Ns + (sp_vol a s).toInt64).toInt = (sp_mis a q s Ns).toInt + (sp_vol a s).toInt := by rw [T_add (by rw [v1]; omega) (by rw [v1]; omega), v1]
        have e4 : (sp_mis a q s Ns + (sp_vol a s).toInt64 - 1).toInt = (sp_mis a q s Ns).toInt + (sp_vol a s).toInt - 1 := by rw [T_sub (by rw [e3, o1]; omega) (by rw [e3, o1]; omega), e3, o1]
        rw [w0_i, v1] at h2
        rw [Int64.toInt_div_of_ne_left _ _ (fun z => by rw [z, show Int64.minValue.toInt = -9223372036854775808 from by decide] at e4; omega), e4, v1]
        exact Int.tdiv_nonneg (by omega) (by omega)
theorem least_ne {N β : Nat} {a : Nat → Int32} {b : Nat → Int64} (H : y_CS N I L R β a b) {q : Nat} (hq : q < 8) {Ns : Nat} (hNs : Ns ≤ 6) (hn : a 8 = Int32.ofNat Ns) {s : Nat} (hs : s < Ns) (h : sp_least a q s Ns ≤ 1000000) : ¬ (sp_least a q s Ns).toInt32 = -1 := by
  have p := least_p H hq hNs hn hs
  have h1 := T_le.mp h
  rw [show (1000000 : Int64).toInt = 1000000 from by decide] at h1
  rw [t_eq, T_n (by omega) (by omega), show (-1 : Int32).toInt = -1 from by decide]
  omega
theorem sim_leastWinningRate (T : y_T N I L R) {u : Int32} {v : Int32} : y_OI N X mL_leastWinningRate [.ref 0, .int u, .int v, .ref 232] mX9_leastWinningRate [.ref 225, .int u, .int v] I L R := by
  have T0 := T
  obtain ⟨a, b, kn, ks, bf, bn, ep, ⟨β, δ, γ, ν, hB⟩, hM, hI⟩ := T
  have H : y_CS N I L R β a b := ⟨hM.1, hB.1.2.1, hB.1.2.2.2.2.1, hB.2.2.2.2.2.1, hI.1⟩
  obtain ⟨Ns, Np, Nl, Nm, Z⟩ := Z_of hI.1
  have hR := hM.1
  have ha : I 226 = a := hM.2.1
  have hb : L 229 = b := hM.2.2.1
  subst ha
  subst hb
  obtain ⟨hNs, hn, hNp, hp, hNl, hl, hNm, hmm⟩ := id Z
  by_cases h0 : 0 ≤ u ∧ u ≤ 7
  · obtain ⟨q, hq, rfl⟩ := ib_of kn_7 (by omega) h0
    replace hq : q < 8 := by omega
    by_cases h1 : 0 ≤ v ∧ v ≤ I 226 8 - 1
    · obtain ⟨s, hs, rfl⟩ := in_of hn (by omega) h1
      by_cases h2 : 1 < I 226 0 ∧ ¬ I 226 0 = 6
      · skip
        by_cases h : sp_could (I 226) q s Ns
        · by_cases g : sp_least (I 226) q s Ns ≤ 1000000
          · exact OI_q T0 (w_leastWinningRate (ko_leastWinningRate H Z hq hs h2 ⟨h, g⟩ (least_ne H hq hNs hn hs g))) (mo_leastWinningRate hR Z hq hs h2 ⟨h, g⟩)
          · exact OI_x T0 (by decide) (w_leastWinningRate_x3 (kf_leastWinningRate_3 H Z hq hs h2 (fun z => g z.2))) (mo_leastWinningRate_3 hR Z hq hs h2 h g)
        · exact OI_x T0 (by decide) (w_leastWinningRate_x3 (kf_leastWinningRate_3 H Z hq hs h2 (fun z => h z.1))) (mo_leastWinningRate_4 hR Z hq hs h2 h)
      · exact OI_x T0 (by decide) (w_leastWinningRate_x0 (kf_leastWinningRate_2 H Z hq hs h2)) (mf_leastWinningRate_2 hR Z hq hs h2)
    · exact OI_x T0 (by decide) (w_leastWinningRate_x2 (kf_leastWinningRate_1 H Z hq h1)) (mf_leastWinningRate_1 hR Z hq h1)
  · exact OI_x T0 (by decide) (w_leastWinningRate_x2 (kf_leastWinningRate_0 H Z h0)) (mf_leastWinningRate_0 hR Z h0)
end

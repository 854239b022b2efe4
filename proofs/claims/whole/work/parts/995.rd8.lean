/-! ===== the class's reader, sixth: the whole text (laid by wip/whole/src/rd8.py) ===== -/
section
variable {X : x_X} {I : Nat → Nat → Int32} {L : Nat → Nat → Int64} {R : Nat → Nat → Option Nat} {N : Nat}
abbrev y_0 : Nat → Int32 := fun _ => 0
section
variable {δ : Nat}
theorem k_c7 (hR : x_wf R) (hδ : x_sl δ) : ∃ I', x_Cv X mX7_clear [.ref (δ + 1)] (I, L, R) 233 (.inl none, (I', L, R), 233) ∧ (∀ q, ¬ (δ + 1 ≤ q ∧ q ≤ δ + 4) → I' q = I q) ∧ I' (δ + 1) 0 = 0 ∧ (∀ s, s < 6 → I' (δ + 3) s = 0) ∧ (∀ s, s < 6 → I' (δ + 4) s = 0) := by
  refine ⟨_, c_X7_clear hR hδ, fun q hq => ?_, ?_, fun s hs => ?_, fun s hs => ?_⟩
  · rw [x_up_ne _ _ (by omega), x_up_ne _ _ (by omega), x_up_ne _ _ (by omega), x_up_ne _ _ (by omega)]
  · rw [x_up_ne _ _ (by omega), x_up_ne _ _ (by omega), x_up_ne _ _ (by omega), x_up_self, x_up_self]
  · rw [x_up_ne _ _ (by omega), x_up_self, z_i (by omega)]
  · rw [x_up_self, z_i (by omega)]
theorem k_c2 (hR : x_wf R) (hδ : x_sl δ) : ∃ I', x_Cv X mX2_clear [.ref (δ + 5)] (I, L, R) 233 (.inl none, (I', L, R), 233) ∧ (∀ q, ¬ (δ + 5 ≤ q ∧ q ≤ δ + 6) → I' q = I q) ∧ y_RC I' δ y_0 := by
  refine ⟨_, c_X2_clear hR hδ, fun q hq => ?_, ?_, fun s hs => ?_⟩
  · rw [x_up_ne _ _ (by omega), x_up_ne _ _ (by omega)]
  · rw [x_up_ne _ _ (by omega), x_up_self, x_up_self]
  · rw [x_up_self, z_i (by omega)]
theorem k_c0 (hR : x_wf R) (hδ : x_sl δ) : ∃ I', x_Cv X mX0_clear [.ref (δ + 7)] (I, L, R) 233 (.inl none, (I', L, R), 233) ∧ (∀ q, ¬ (δ + 7 ≤ q ∧ q ≤ δ + 11) → I' q = I q) ∧ y_RB I' δ y_0 := by
  refine ⟨_, c_X0_clear hR hδ, fun q hq => ?_, fun s hs => ?_, fun q hq s hs => ?_, fun q hq => ?_, fun q hq => ?_, ?_, ?_⟩
  · rw [x_up_ne _ _ (by omega), x_up_ne _ _ (by omega), x_up_ne _ _ (by omega), x_up_ne _ _ (by omega), x_up_ne _ _ (by omega)]
  · rw [x_up_ne _ _ (by omega), x_up_ne _ _ (by omega), x_up_ne _ _ (by omega), x_up_ne _ _ (by omega), x_up_self, z_i (by omega)]
    unfold sp_vol
    rw [if_neg (show ¬ (6 : Int32) ≤ y_0 0 by decide)]
  · rw [x_up_ne _ _ (by omega), x_up_ne _ _ (by omega), x_up_ne _ _ (by omega), x_up_self, z_i (by omega)]
  · rw [x_up_ne _ _ (by omega), x_up_ne _ _ (by omega), x_up_self, z_i (by omega)]
  · rw [x_up_ne _ _ (by omega), x_up_self, z_i (by omega)]
  · rw [x_up_self, x_up_ne _ _ (by decide), x_up_self]
  · rw [x_up_self, x_up_self, if_neg (show ¬ (6 : Int32) ≤ y_0 0 by decide)]
theorem k_c1 (hR : x_wf R) (hδ : x_sl δ) : ∃ I' L', x_Cv X mX1_clear [.ref (δ + 12)] (I, L, R) 233 (.inl none, (I', L', R), 233) ∧ (∀ q, ¬ (δ + 12 ≤ q ∧ q ≤ δ + 16) → I' q = I q ∧ L' q = L q) ∧ y_RK I' L' δ y_0 (fun _ => 0) := by
  have n3 : ¬ (3 : Int32) ≤ y_0 0 := by decide
  refine ⟨_, _, c_X1_clear hR hδ, fun q hq => ⟨?_, ?_⟩, fun z => absurd z n3, fun s hs => ?_, fun s hs q hq => ?_, fun z => absurd z n3, ?_, ?_, fun m hm => ?_, ?_⟩
  · rw [x_up_ne _ _ (by omega), x_up_ne _ _ (by omega), x_up_ne _ _ (by omega), x_up_ne _ _ (by omega)]
  · rw [x_up_ne _ _ (by omega), x_up_ne _ _ (by omega)]
  · rw [x_up_ne _ _ (by omega), x_up_ne _ _ (by omega), x_up_self, z_i (by omega)]
  · rw [x_up_ne _ _ (by omega), x_up_self, z_i (by omega)]
  · rw [x_up_self, x_up_ne _ _ (by decide), x_up_self]
  · rw [x_up_self, x_up_self]
  · rw [x_up_ne _ _ (by omega), x_up_self]
    exact if_pos hm
  · rw [x_up_self, x_up_self]
theorem k_c4 (hR : x_wf R) (hδ : x_sl δ) : ∃ I', x_Cv X mX4_clear [.ref (δ + 17)] (I, L, R) 233 (.inl none, (I', L, R), 233) ∧ (∀ q, ¬ q = δ + 17 → I' q = I q) ∧ y_RL I' δ y_0 := by
  have z0 : (y_0 14).toNatClampNeg = 0 := by decide
  refine ⟨_, c_X4_clear hR hδ, fun q hq => x_up_ne _ _ hq, ?_, fun k hk => ?_, ?_, ?_⟩
  · rw [x_up_self, x_up_ne _ _ (by decide), x_up_ne _ _ (by decide), x_up_self]
  · rw [z0] at hk; exact absurd hk (Nat.not_lt_zero _)
  · rw [x_up_self, x_up_ne _ _ (by decide), x_up_self, z0]; decide
  · rw [x_up_self, x_up_self, z0]; decide
def y_CZ (I : Nat → Nat → Int32) (L : Nat → Nat → Int64) (δ : Nat) : Prop := I δ 0 = 0 ∧ (I (δ + 1) 0 = 0 ∧ (∀ s, s < 6 → I (δ + 3) s = 0) ∧ (∀ s, s < 6 → I (δ + 4) s = 0)) ∧ y_RC I δ y_0 ∧ y_RB I δ y_0 ∧ y_RK I L δ y_0 (fun _ => 0) ∧ y_RL I δ y_0
theorem k_clear (hR : x_wf R) (hδ : x_sl δ) : ∃ I' L', x_Cv X mX6_clear [.ref δ] (I, L, R) 233 (.inl none, (I', L', R), 233) ∧ (∀ q, (∀ j, j < 22 → ¬ q = δ + j) → I' q = I q ∧ L' q = L q) ∧ y_CZ I' L' δ := by
  obtain ⟨I1, k1, f1, t1, t2, t3⟩ := k_c7 (X := X) (I := va_up I δ (va_up (I δ) 0 0)) (L := L) hR hδ
  obtain ⟨I2, k2, f2, c1⟩ := k_c2 (X := X) (I := I1) (L := L) hR hδ
  obtain ⟨I3, k3, f3, b1⟩ := k_c0 (X := X) (I := I2) (L := L) hR hδ
  obtain ⟨I4, L4, k4, f4, kk⟩ := k_c1 (X := X) (I := I3) (L := L) hR hδ
  obtain ⟨I5, k5, f5, l1⟩ := k_c4 (X := X) (I := I4) (L := L4) hR hδ
  refine ⟨I5, L4, ?_, fun q hq => ⟨?_, ?_⟩, ?_, ⟨?_, fun s hs => ?_, fun s hs => ?_⟩, ?_, ?_, ?_, l1⟩
  · show x_Ev X mX6_clear 0 [some (.ref δ)] [] ((I, L, R), 233, 0, 0) _
    refine f_aload_n (M := mX6_clear) 1 dX6_clear_0 rfl rfl ?_
    refine f_iconst (M := mX6_clear) 2 dX6_clear_1 ki_0 rfl ?_
    refine e_putI (M := mX6_clear) dX6_clear_2 fl_6046 (x_kk rfl) (sl_lt hδ 0 rfl) (sl_s hδ 0 rfl rfl) (fun q9 => Bool.noConfusion q9) ?_
    refine f_aload_n (M := mX6_clear) 6 dX6_clear_5 rfl rfl ?_
    refine e_getR (M := mX6_clear) dX6_clear_6 fl_6012 (x_kk rfl) (sl_lt hδ 0 rfl) (sl_s hδ 0 rfl rfl) (wf_6_1 hR hδ) ?_
    refine e_cV (M := mX6_clear) [] 0 0 dX6_clear_9 pa_6050 pb_6050 cc_6050 rfl rfl rfl rfl rfl (x_kk rfl) (x_kk rfl) (x_rcvOK (sl_lt hδ 1 rfl) (sl_s hδ 1 rfl rfl) rfl) (k1) rfl ?_
    refine f_aload_n (M := mX6_clear) 13 dX6_clear_12 rfl rfl ?_
    refine e_getR (M := mX6_clear) dX6_clear_13 fl_6021 (x_kk rfl) (sl_lt hδ 0 rfl) (sl_s hδ 0 rfl rfl) (wf_6_2 hR hδ) ?_
    refine e_cV (M := mX6_clear) [] 0 0 dX6_clear_16 pa_6053 pb_6053 cc_6053 rfl rfl rfl rfl rfl (x_kk rfl) (x_kk rfl) (x_rcvOK (sl_lt hδ 5 rfl) (sl_s hδ 5 rfl rfl) rfl) (k2) rfl ?_
    refine f_aload_n (M := mX6_clear) 20 dX6_clear_19 rfl rfl ?_
    refine e_getR (M := mX6_clear) dX6_clear_20 fl_6028 (x_kk rfl) (sl_lt hδ 0 rfl) (sl_s hδ 0 rfl rfl) (wf_6_3 hR hδ) ?_
    refine e_cV (M := mX6_clear) [] 0 0 dX6_clear_23 pa_6054 pb_6054 cc_6054 rfl rfl rfl rfl rfl (x_kk rfl) (x_kk rfl) (x_rcvOK (sl_lt hδ 7 rfl) (sl_s hδ 7 rfl rfl) rfl) (k3) rfl ?_
    refine f_aload_n (M := mX6_clear) 27 dX6_clear_26 rfl rfl ?_
    refine e_getR (M := mX6_clear) dX6_clear_27 fl_6035 (x_kk rfl) (sl_lt hδ 0 rfl) (sl_s hδ 0 rfl rfl) (wf_6_4 hR hδ) ?_
    refine e_cV (M := mX6_clear) [] 0 0 dX6_clear_30 pa_6055 pb_6055 cc_6055 rfl rfl rfl rfl rfl (x_kk rfl) (x_kk rfl) (x_rcvOK (sl_lt hδ 12 rfl) (sl_s hδ 12 rfl rfl) rfl) (k4) rfl ?_
    refine f_aload_n (M := mX6_clear) 34 dX6_clear_33 rfl rfl ?_
    refine e_getR (M := mX6_clear) dX6_clear_34 fl_6042 (x_kk rfl) (sl_lt hδ 0 rfl) (sl_s hδ 0 rfl rfl) (wf_6_5 hR hδ) ?_
    refine e_cV (M := mX6_clear) [] 0 0 dX6_clear_37 pa_6056 pb_6056 cc_6056 rfl rfl rfl rfl rfl (x_kk rfl) (x_kk rfl) (x_rcvOK (sl_lt hδ 17 rfl) (sl_s hδ 17 rfl rfl) rfl) (k5) rfl ?_
    refine e_rv (M := mX6_clear) dX6_clear_40 rfl (x_kk rfl) (x_kk rfl) ?_
    rfl
  · have g : ∀ j, j < 22 → ¬ q = δ + j := hq
    have g0 := g 0 (by decide)
    have g1 := g 1 (by decide)
    have g2 := g 2 (by decide)
    have g3 := g 3 (by decide)
    have g4 := g 4 (by decide)
    have g5 := g 5 (by decide)
    have g6 := g 6 (by decide)
    have g7 := g 7 (by decide)
    have g8 := g 8 (by decide)
    have g9 := g 9 (by decide)
    have g10 := g 10 (by decide)
    have g11 := g 11 (by decide)
    have g12 := g 12 (by decide)
    have g13 := g 13 (by decide)
    have g14 := g 14 (by decide)
    have g15 := g 15 (by decide)
    have g16 := g 16 (by decide)
    have g17 := g 17 (by decide)
    rw [f5 q g17, (f4 q (by omega)).1, f3 q (by omega), f2 q (by omega), f1 q (by omega), x_up_ne _ _ (by omega)]
  · refine (f4 q (fun z => ?_)).2
    exact hq (q - δ) (by omega) (by omega)
  · rw [f5 _ (by omega), (f4 _ (by omega)).1, f3 _ (by omega), f2 _ (by omega), f1 _ (by omega), x_up_self, x_up_self]
  · rw [f5 _ (by omega), (f4 _ (by omega)).1, f3 _ (by omega), f2 _ (by omega)]; exact t1
  · rw [f5 _ (by omega), (f4 _ (by omega)).1, f3 _ (by omega), f2 _ (by omega)]; exact t2 s hs
  · rw [f5 _ (by omega), (f4 _ (by omega)).1, f3 _ (by omega), f2 _ (by omega)]; exact t3 s hs
  · exact RC_1 c1 (fun k z1 z2 => by rw [f5 _ (by omega), (f4 _ (by omega)).1, f3 _ (by omega)])
  · exact RB_c (fun k z1 z2 => by rw [f5 _ (by omega), (f4 _ (by omega)).1]) Iff.rfl (fun _ _ => rfl) b1
  · exact RK_c (fun k z1 z2 => by rw [f5 _ (by omega)]) rfl rfl (fun z => z) (fun _ _ => rfl) kk
end
section
variable {g : Nat → Int32} {n : Nat} {e : Int32 × Nat} {w w2 w3 : Nat × (Nat → Int32)}
theorem all_1 (h1 : y_nums g n (y_sk g n 0) y_0 = .inl e) : y_all g n = .inl e := by unfold y_all; rw [show y_nums g n (y_sk g n 0) (fun _ => 0) = _ from h1]; rfl
theorem all_2 (h1 : y_nums g n (y_sk g n 0) y_0 = .inr w) (h2 : y_sps g n 6 0 w.1 w.2 = .inl e) : y_all g n = .inl e := by unfold y_all; rw [show y_nums g n (y_sk g n 0) (fun _ => 0) = _ from h1]; show y_bd (y_bd (y_sps g n 6 0 w.1 w.2) _) _ = _; rw [h2]; rfl
theorem all_3 (h1 : y_nums g n (y_sk g n 0) y_0 = .inr w) (h2 : y_sps g n 6 0 w.1 w.2 = .inr w2) (h3 : y_plots g n w2.1 w2.2 = .inl e) : y_all g n = .inl e := by unfold y_all; rw [show y_nums g n (y_sk g n 0) (fun _ => 0) = _ from h1]; show y_bd (y_bd (y_sps g n 6 0 w.1 w.2) _) _ = _; rw [h2]; show y_bd (y_plots g n w2.1 w2.2) _ = _; rw [h3]; rfl
theorem all_4 (h1 : y_nums g n (y_sk g n 0) y_0 = .inr w) (h2 : y_sps g n 6 0 w.1 w.2 = .inr w2) (h3 : y_plots g n w2.1 w2.2 = .inr w3) : y_all g n = y_fin n w3.1 w3.2 := by unfold y_all; rw [show y_nums g n (y_sk g n 0) (fun _ => 0) = _ from h1]; show y_bd (y_bd (y_sps g n 6 0 w.1 w.2) _) _ = _; rw [h2]; show y_bd (y_plots g n w2.1 w2.2) _ = _; rw [h3]; rfl
theorem PN_1 {a : Nat → Int32} (h : y_PN a 7) : ∃ z, 2 ≤ z ∧ z ≤ 200 ∧ a 1 = Int32.ofNat z := by
  obtain ⟨z, h1, h2, h3⟩ := h 0 (by decide)
  exact ⟨z, h1, h2, h3⟩
end
section
variable {g : Nat → Int32} {n : Nat}
theorem sps_44 : ∀ d m s a w, y_sps g n d m s a = .inr w → (∀ j, 44 ≤ j → a j = 0) → ∀ j, 44 ≤ j → m + d ≤ 6 → w.2 j = 0
  | 0, m, s, a, w, h, p => by
    unfold y_sps at h
    by_cases c : y_wd g n 1011 s
    · rw [if_pos c] at h; cases h
    · rw [if_neg c] at h; obtain rfl := Sum.inr.inj h; exact fun j hj _ => p j hj
  | d + 1, m, s, a, w, h, p => by
    unfold y_sps at h
    by_cases c : y_wd g n 1011 s
    · rw [if_pos c] at h
      obtain ⟨v, h1, h2⟩ := bd_r h
      obtain ⟨u, h3, h4⟩ := bd_r h1
      intro j hj hm
      refine sps_44 d (m + 1) _ _ w h2 (fun j hj => ?_) j hj (by omega)
      rw [sm_r h4, x_up_ne _ _ (by omega)]
      exact ns_inv (P := fun a _ => ∀ j, 44 ≤ j → a j = 0) (fun i a v p _ _ j hj => by
        rw [x_up_ne _ _ (by split <;> omega)]
        exact p j hj) 2 0 _ _ u h3 p j hj
    · rw [if_neg c] at h; obtain rfl := Sum.inr.inj h; exact fun j hj _ => p j hj
theorem pls_k {k : Nat} (hk : k ≤ 6) : ∀ d m s a w, m + d ≤ 30 → y_pls g n k d m s a = .inr w → ∀ j, ¬ j = 9 → ¬ (44 ≤ j ∧ j < 224) → w.2 j = a j
  | 0, m, s, a, w, _, h => by
    unfold y_pls at h
    by_cases c : y_wd g n 1012 s
    · rw [if_pos c] at h; cases h
    · rw [if_neg c] at h; obtain rfl := Sum.inr.inj h; exact fun j _ _ => rfl
  | d + 1, m, s, a, w, hd, h => by
    unfold y_pls at h
    by_cases c : y_wd g n 1012 s
    · rw [if_pos c] at h
      obtain ⟨v, h1, h2⟩ := bd_r h
      obtain ⟨u, h3, h4⟩ := bd_r h1
      intro j hj hm
      rw [pls_k hk d (m + 1) _ _ w (by omega) h2 j hj hm, sm_r h4, x_up_ne _ _ hj]
      exact ns_inv (P := fun b i => i ≤ k → b j = a j) (fun i b v p _ _ hi => by
        rw [x_up_ne _ _ (by omega)]
        exact p (by omega)) k 0 _ _ u h3 (fun _ => rfl) (by omega)
    · rw [if_neg c] at h; obtain rfl := Sum.inr.inj h; exact fun j _ _ => rfl
theorem plots_k {s z k : Nat} {a : Nat → Int32} {w : Nat × (Nat → Int32)} (hz : z ≤ 200) (h1 : a 1 = Int32.ofNat z) (hk : k ≤ 6) (h8 : a 8 = Int32.ofNat k) (h : y_plots g n s a = .inr w) (Z : y_Z0 a) : y_Z0 w.2 ∧ ∀ j, ¬ j = 9 → ¬ (44 ≤ j ∧ j < 224) → w.2 j = a j := by
  unfold y_plots at h
  rw [h1, h8, n_cl (by omega), n_cl (by omega)] at h
  have e := pls_k hk _ _ _ _ _ (by omega) h
  exact ⟨fun j h1 h2 h3 => (e j (by omega) h3).trans (Z j h1 h2 h3), e⟩
end
theorem k_into (hR : x_wf R) {δ : Nat} (hδ : x_sl δ) {g : Nat → Int32} {n : Nat} (hn : n ≤ 800) (G : y_G (I 2) n g) : y_PO (y_all g n) (fun e => ∃ I' L', x_Cv X mX5_readInto [.ref 1, .ref δ, .int (Int32.ofNat n)] (I, L, R) 233 (.inl (some (.int e.1)), (I', L', R), 233) ∧ (∀ q, ¬ q = 1 → (∀ j, j < 22 → ¬ q = δ + j) → I' q = I q ∧ L' q = L q) ∧ I' 1 1 = 0 ∧ I' 1 2 = Int32.ofNat e.2) (fun w => ∃ I' L', x_Cv X mX5_readInto [.ref 1, .ref δ, .int (Int32.ofNat n)] (I, L, R) 233 (.inl (some (.int (w.2 9))), (I', L', R), 233) ∧ (∀ q, ¬ q = 1 → (∀ j, j < 22 → ¬ q = δ + j) → I' q = I q ∧ L' q = L q) ∧ I' 1 1 = 0 ∧ I' 1 2 = -1 ∧ y_Rep I' L' δ w.2 (fun _ => 0)) := by
  have h5 := sl5 hδ
  obtain ⟨J, hJ⟩ : ∃ J, J = va_up I 1 (va_up (va_up (va_up (va_up (va_up (I 1) 1 0) 4 (Int32.ofNat n)) 5 0) 3 0) 2 (-1)) := ⟨_, rfl⟩
  have j1 : J 1 1 = 0 := by rw [hJ, x_up_self, x_up_ne _ _ (by decide), x_up_ne _ _ (by decide), x_up_ne _ _ (by decide), x_up_ne _ _ (by decide), x_up_self]
  have j4 : J 1 4 = Int32.ofNat n := by rw [hJ, x_up_self, x_up_ne _ _ (by decide), x_up_ne _ _ (by decide), x_up_ne _ _ (by decide), x_up_self]
  have j5 : J 1 5 = 0 := by rw [hJ, x_up_self, x_up_ne _ _ (by decide), x_up_ne _ _ (by decide), x_up_self]
  have j2 : J 1 2 = -1 := by rw [hJ, x_up_self, x_up_self]
  have jf : ∀ q, ¬ q = 1 → J q = I q := fun q hq => by rw [hJ]; exact x_up_ne _ _ hq
  obtain ⟨I1, L1, k1, f1, cz⟩ := k_clear (X := X) (I := J) (L := L) hR hδ
  obtain ⟨z0, ⟨z1, z3, z4⟩, zC, zB, zK, zL⟩ := cz
  have e1 : I1 1 = J 1 := (f1 1 (fun j hj => by omega)).1
  have e2 : I1 2 = I 2 := (f1 2 (fun j hj => by omega)).1.trans (jf 2 (by decide))
  have fr1 : ∀ q, ¬ q = 1 → (∀ j, j < 22 → ¬ q = δ + j) → I1 q = I q ∧ L1 q = L q := fun q h1 h2 => ⟨(f1 q h2).1.trans (jf q h1), (f1 q h2).2⟩
  have Q1 : y_QS I1 n g (y_sk g n 0) := ⟨0, ⟨hn, by rw [e1]; exact j4, by rw [e2]; exact G, by omega, by rw [e1]; exact j5⟩, rfl⟩
  have kpJ : I1 1 1 = 0 ∧ I1 1 2 = -1 := ⟨by rw [e1]; exact j1, by rw [e1]; exact j2⟩
  obtain ⟨I2, b2, k2, f2, co2⟩ := k_numbers (X := X) (L := L1) hR hδ Q1 y_0
  have fr2 : ∀ q, ¬ q = 1 → (∀ j, j < 22 → ¬ q = δ + j) → I2 q = I q ∧ L1 q = L q := fun q h1 h2 => ⟨(f2 q h1 (h2 2 (by decide))).trans (fr1 q h1 h2).1, (fr1 q h1 h2).2⟩
  cases e1 : y_nums g n (y_sk g n 0) y_0 with
  | inl e =>
    rw [all_1 e1]
    rw [e1] at co2
    obtain ⟨rfl, fl⟩ := co2
    refine ⟨I2, L1, ?_, fr2, fl.1.trans kpJ.1, fl.2.2⟩
    show x_Ev X mX5_readInto 0 [some (.ref 1), some (.ref δ), some (.int (Int32.ofNat n)), none] [] ((I, L, R), 233, 0, 0) _
    refine f_aload_n (M := mX5_readInto) 1 dX5_readInto_0 rfl rfl ?_
    refine f_iconst (M := mX5_readInto) 2 dX5_readInto_1 ki_0 rfl ?_
    refine e_putI (M := mX5_readInto) dX5_readInto_2 fl_5019 (x_kk rfl) (x_kk rfl) rfl (fun q9 => Bool.noConfusion q9) ?_
    refine f_aload_n (M := mX5_readInto) 6 dX5_readInto_5 rfl rfl ?_
    refine f_iload_n (M := mX5_readInto) 7 dX5_readInto_6 rfl rfl ?_
    refine e_putI (M := mX5_readInto) dX5_readInto_7 fl_5022 (x_kk rfl) (x_kk rfl) rfl (fun q9 => Bool.noConfusion q9) ?_
    refine f_aload_n (M := mX5_readInto) 11 dX5_readInto_10 rfl rfl ?_
    refine f_iconst (M := mX5_readInto) 12 dX5_readInto_11 ki_0 rfl ?_
    refine e_putI (M := mX5_readInto) dX5_readInto_12 fl_5025 (x_kk rfl) (x_kk rfl) rfl (fun q9 => Bool.noConfusion q9) ?_
    refine f_aload_n (M := mX5_readInto) 16 dX5_readInto_15 rfl rfl ?_
    refine f_iconst (M := mX5_readInto) 17 dX5_readInto_16 ki_0 rfl ?_
    refine e_putI (M := mX5_readInto) dX5_readInto_17 fl_5028 (x_kk rfl) (x_kk rfl) rfl (fun q9 => Bool.noConfusion q9) ?_
    refine f_aload_n (M := mX5_readInto) 21 dX5_readInto_20 rfl rfl ?_
    refine f_iconst (M := mX5_readInto) 22 dX5_readInto_21 ki_m1 rfl ?_
    refine e_putI (M := mX5_readInto) dX5_readInto_22 fl_5015 (x_kk rfl) (x_kk rfl) rfl (fun q9 => Bool.noConfusion q9) ?_
    simp only [up_up, x_up_self]; rw [← hJ]
    refine f_aload_n (M := mX5_readInto) 26 dX5_readInto_25 rfl rfl ?_
    refine e_cV (M := mX5_readInto) [] 0 0 dX5_readInto_26 pa_5031 pb_5031 cc_5031 rfl rfl rfl rfl rfl (x_kk rfl) (x_kk rfl) (x_rcvOK (sl_lt hδ 0 rfl) (sl_s hδ 0 rfl rfl) rfl) (k1) rfl ?_
    refine f_aload_n (M := mX5_readInto) 30 dX5_readInto_29 rfl rfl ?_
    refine f_aload_n (M := mX5_readInto) 31 dX5_readInto_30 rfl rfl ?_
    refine e_getR (M := mX5_readInto) dX5_readInto_31 fl_5036 (x_kk rfl) (sl_lt hδ 0 rfl) (sl_s hδ 0 rfl rfl) (wf_6_1 hR hδ) ?_
    refine e_cV (M := mX5_readInto) [_] 0 0 dX5_readInto_34 pa_5040 pb_5040 cc_5040 rfl rfl rfl rfl rfl (x_kk rfl) (x_kk rfl) rfl (k2) rfl ?_
    refine e_if_eqT (M := mX5_readInto) 77 dX5_readInto_37 rfl (show (0 : Int32) = 0 by decide) ?_
    refine f_iconst (M := mX5_readInto) 78 dX5_readInto_77 ki_0 rfl ?_
    refine f_istore_n (M := mX5_readInto) (ls' := [_, _, _, _]) 79 dX5_readInto_78 rfl rfl rfl ?_
    refine f_iload_n (M := mX5_readInto) 80 dX5_readInto_79 rfl rfl ?_
    refine e_if_eqT (M := mX5_readInto) 93 dX5_readInto_80 rfl (show (0 : Int32) = 0 by decide) ?_
    refine f_aload_n (M := mX5_readInto) 94 dX5_readInto_93 rfl rfl ?_
    refine e_getI (M := mX5_readInto) dX5_readInto_94 fl_5028 (x_kk rfl) (x_kk rfl) rfl ?_
    refine e_ri (M := mX5_readInto) dX5_readInto_97 rfl (x_kk rfl) (x_kk rfl) ?_
    exact r_i fl.2.1
  | inr w =>
    rw [e1] at co2
    obtain ⟨rfl, Q2, kp2, hp2⟩ := co2
    obtain ⟨Z2, N2, S2, C2, zz⟩ := nums_r e1
    have T2 : y_RT I2 δ w.2 := by
      refine ⟨?_, hp2, fun s hs => ?_, fun s hs => ?_⟩
      · rw [f2 _ (by omega) (by omega), z1, zz 8 (by decide)]
      · rw [f2 _ (by omega) (by omega), z3 s hs, zz _ (by omega)]
      · rw [f2 _ (by omega) (by omega), z4 s hs, zz _ (by omega)]
    obtain ⟨I3, b3, k3, f3, co3⟩ := k_species (X := X) (L := L1) hR hδ Q2 T2
    have fr3 : ∀ q, ¬ q = 1 → (∀ j, j < 22 → ¬ q = δ + j) → I3 q = I q ∧ L1 q = L q := fun q h1 h2 => ⟨(f3 q h1 (h2 1 (by decide)) (h2 3 (by decide)) (h2 4 (by decide))).trans (fr2 q h1 h2).1, (fr2 q h1 h2).2⟩
    have kp2J : I2 1 1 = 0 ∧ I2 1 2 = -1 := ⟨kp2.1.trans kpJ.1, kp2.2.trans kpJ.2⟩
    cases e2 : y_sps g n 6 0 w.1 w.2 with
    | inl e =>
      rw [all_2 e1 e2]
      rw [e2] at co3
      obtain ⟨rfl, fl⟩ := co3
      refine ⟨I3, L1, ?_, fr3, fl.1.trans kp2J.1, fl.2.2⟩
      show x_Ev X mX5_readInto 0 [some (.ref 1), some (.ref δ), some (.int (Int32.ofNat n)), none] [] ((I, L, R), 233, 0, 0) _
      refine f_aload_n (M := mX5_readInto) 1 dX5_readInto_0 rfl rfl ?_
      refine f_iconst (M := mX5_readInto) 2 dX5_readInto_1 ki_0 rfl ?_
      refine e_putI (M := mX5_readInto) dX5_readInto_2 fl_5019 (x_kk rfl) (x_kk rfl) rfl (fun q9 => Bool.noConfusion q9) ?_
      refine f_aload_n (M := mX5_readInto) 6 dX5_readInto_5 rfl rfl ?_
      refine f_iload_n (M := mX5_readInto) 7 dX5_readInto_6 rfl rfl ?_
      refine e_putI (M := mX5_readInto) dX5_readInto_7 fl_5022 (x_kk rfl) (x_kk rfl) rfl (fun q9 => Bool.noConfusion q9) ?_
      refine f_aload_n (M := mX5_readInto) 11 dX5_readInto_10 rfl rfl ?_
      refine f_iconst (M := mX5_readInto) 12 dX5_readInto_11 ki_0 rfl ?_
      refine e_putI (M := mX5_readInto) dX5_readInto_12 fl_5025 (x_kk rfl) (x_kk rfl) rfl (fun q9 => Bool.noConfusion q9) ?_
      refine f_aload_n (M := mX5_readInto) 16 dX5_readInto_15 rfl rfl ?_
      refine f_iconst (M := mX5_readInto) 17 dX5_readInto_16 ki_0 rfl ?_
      refine e_putI (M := mX5_readInto) dX5_readInto_17 fl_5028 (x_kk rfl) (x_kk rfl) rfl (fun q9 => Bool.noConfusion q9) ?_
      refine f_aload_n (M := mX5_readInto) 21 dX5_readInto_20 rfl rfl ?_
      refine f_iconst (M := mX5_readInto) 22 dX5_readInto_21 ki_m1 rfl ?_
      refine e_putI (M := mX5_readInto) dX5_readInto_22 fl_5015 (x_kk rfl) (x_kk rfl) rfl (fun q9 => Bool.noConfusion q9) ?_
      simp only [up_up, x_up_self]; rw [← hJ]
      refine f_aload_n (M := mX5_readInto) 26 dX5_readInto_25 rfl rfl ?_
      refine e_cV (M := mX5_readInto) [] 0 0 dX5_readInto_26 pa_5031 pb_5031 cc_5031 rfl rfl rfl rfl rfl (x_kk rfl) (x_kk rfl) (x_rcvOK (sl_lt hδ 0 rfl) (sl_s hδ 0 rfl rfl) rfl) (k1) rfl ?_
      refine f_aload_n (M := mX5_readInto) 30 dX5_readInto_29 rfl rfl ?_
      refine f_aload_n (M := mX5_readInto) 31 dX5_readInto_30 rfl rfl ?_
      refine e_getR (M := mX5_readInto) dX5_readInto_31 fl_5036 (x_kk rfl) (sl_lt hδ 0 rfl) (sl_s hδ 0 rfl rfl) (wf_6_1 hR hδ) ?_
      refine e_cV (M := mX5_readInto) [_] 0 0 dX5_readInto_34 pa_5040 pb_5040 cc_5040 rfl rfl rfl rfl rfl (x_kk rfl) (x_kk rfl) rfl (k2) rfl ?_
      refine e_if_eqF (M := mX5_readInto) 77 dX5_readInto_37 rfl (show ¬ ((1 : Int32) = 0) by decide) ?_
      refine f_aload_n (M := mX5_readInto) 41 dX5_readInto_40 rfl rfl ?_
      refine f_aload_n (M := mX5_readInto) 42 dX5_readInto_41 rfl rfl ?_
      refine e_getR (M := mX5_readInto) dX5_readInto_42 fl_5036 (x_kk rfl) (sl_lt hδ 0 rfl) (sl_s hδ 0 rfl rfl) (wf_6_1 hR hδ) ?_
      refine e_cV (M := mX5_readInto) [_] 0 0 dX5_readInto_45 pa_5044 pb_5044 cc_5044 rfl rfl rfl rfl rfl (x_kk rfl) (x_kk rfl) rfl (k3) rfl ?_
      refine e_if_eqT (M := mX5_readInto) 77 dX5_readInto_48 rfl (show (0 : Int32) = 0 by decide) ?_
      refine f_iconst (M := mX5_readInto) 78 dX5_readInto_77 ki_0 rfl ?_
      refine f_istore_n (M := mX5_readInto) (ls' := [_, _, _, _]) 79 dX5_readInto_78 rfl rfl rfl ?_
      refine f_iload_n (M := mX5_readInto) 80 dX5_readInto_79 rfl rfl ?_
      refine e_if_eqT (M := mX5_readInto) 93 dX5_readInto_80 rfl (show (0 : Int32) = 0 by decide) ?_
      refine f_aload_n (M := mX5_readInto) 94 dX5_readInto_93 rfl rfl ?_
      refine e_getI (M := mX5_readInto) dX5_readInto_94 fl_5028 (x_kk rfl) (x_kk rfl) rfl ?_
      refine e_ri (M := mX5_readInto) dX5_readInto_97 rfl (x_kk rfl) (x_kk rfl) ?_
      exact r_i fl.2.1
    | inr w2 =>
      rw [e2] at co3
      obtain ⟨rfl, Q3, kp3, T3⟩ := co3
      obtain ⟨ks, Z3, N3, S3, C3⟩ := sps_r 6 0 _ _ _ rfl e2 ⟨Z2, N2, S2, C2⟩
      obtain ⟨z, hz2, hz, hz1⟩ := PN_1 N3
      have C3r : y_RC I3 δ w2.2 := by
        refine ⟨?_, fun j hj => ?_⟩
        · rw [f3 _ (by omega) (by omega) (by omega) (by omega), f2 _ (by omega) (by omega), zC.1, C3.1]; rfl
        · rw [f3 _ (by omega) (by omega) (by omega) (by omega), f2 _ (by omega) (by omega), zC.2 j hj]; exact (sps_44 6 0 _ _ _ e2 (fun j hj => zz j (by omega)) (44 + j) (by omega) (by omega)).symm
      obtain ⟨I4, b4, k4, f4, co4⟩ := k_plots (X := X) (L := L1) hR hδ Q3 T3 C3r hz hz1 S3.1 S3.2.1
      have fr4 : ∀ q, ¬ q = 1 → (∀ j, j < 22 → ¬ q = δ + j) → I4 q = I q ∧ L1 q = L q := fun q h1 h2 => ⟨(f4 q h1 (h2 5 (by decide)) (h2 6 (by decide))).trans (fr3 q h1 h2).1, (fr3 q h1 h2).2⟩
      have kp3J : I3 1 1 = 0 ∧ I3 1 2 = -1 := ⟨kp3.1.trans kp2J.1, kp3.2.trans kp2J.2⟩
      cases e3 : y_plots g n w2.1 w2.2 with
      | inl e =>
        rw [all_3 e1 e2 e3]
        rw [e3] at co4
        obtain ⟨rfl, fl⟩ := co4
        refine ⟨I4, L1, ?_, fr4, fl.1.trans kp3J.1, fl.2.2⟩
        show x_Ev X mX5_readInto 0 [some (.ref 1), some (.ref δ), some (.int (Int32.ofNat n)), none] [] ((I, L, R), 233, 0, 0) _
        refine f_aload_n (M := mX5_readInto) 1 dX5_readInto_0 rfl rfl ?_
        refine f_iconst (M := mX5_readInto) 2 dX5_readInto_1 ki_0 rfl ?_
        refine e_putI (M := mX5_readInto) dX5_readInto_2 fl_5019 (x_kk rfl) (x_kk rfl) rfl (fun q9 => Bool.noConfusion q9) ?_
        refine f_aload_n (M := mX5_readInto) 6 dX5_readInto_5 rfl rfl ?_
        refine f_iload_n (M := mX5_readInto) 7 dX5_readInto_6 rfl rfl ?_
        refine e_putI (M := mX5_readInto) dX5_readInto_7 fl_5022 (x_kk rfl) (x_kk rfl) rfl (fun q9 => Bool.noConfusion q9) ?_
        refine f_aload_n (M := mX5_readInto) 11 dX5_readInto_10 rfl rfl ?_
        refine f_iconst (M := mX5_readInto) 12 dX5_readInto_11 ki_0 rfl ?_
        refine e_putI (M := mX5_readInto) dX5_readInto_12 fl_5025 (x_kk rfl) (x_kk rfl) rfl (fun q9 => Bool.noConfusion q9) ?_
        refine f_aload_n (M := mX5_readInto) 16 dX5_readInto_15 rfl rfl ?_
        refine f_iconst (M := mX5_readInto) 17 dX5_readInto_16 ki_0 rfl ?_
        refine e_putI (M := mX5_readInto) dX5_readInto_17 fl_5028 (x_kk rfl) (x_kk rfl) rfl (fun q9 => Bool.noConfusion q9) ?_
        refine f_aload_n (M := mX5_readInto) 21 dX5_readInto_20 rfl rfl ?_
        refine f_iconst (M := mX5_readInto) 22 dX5_readInto_21 ki_m1 rfl ?_
        refine e_putI (M := mX5_readInto) dX5_readInto_22 fl_5015 (x_kk rfl) (x_kk rfl) rfl (fun q9 => Bool.noConfusion q9) ?_
        simp only [up_up, x_up_self]; rw [← hJ]
        refine f_aload_n (M := mX5_readInto) 26 dX5_readInto_25 rfl rfl ?_
        refine e_cV (M := mX5_readInto) [] 0 0 dX5_readInto_26 pa_5031 pb_5031 cc_5031 rfl rfl rfl rfl rfl (x_kk rfl) (x_kk rfl) (x_rcvOK (sl_lt hδ 0 rfl) (sl_s hδ 0 rfl rfl) rfl) (k1) rfl ?_
        refine f_aload_n (M := mX5_readInto) 30 dX5_readInto_29 rfl rfl ?_
        refine f_aload_n (M := mX5_readInto) 31 dX5_readInto_30 rfl rfl ?_
        refine e_getR (M := mX5_readInto) dX5_readInto_31 fl_5036 (x_kk rfl) (sl_lt hδ 0 rfl) (sl_s hδ 0 rfl rfl) (wf_6_1 hR hδ) ?_
        refine e_cV (M := mX5_readInto) [_] 0 0 dX5_readInto_34 pa_5040 pb_5040 cc_5040 rfl rfl rfl rfl rfl (x_kk rfl) (x_kk rfl) rfl (k2) rfl ?_
        refine e_if_eqF (M := mX5_readInto) 77 dX5_readInto_37 rfl (show ¬ ((1 : Int32) = 0) by decide) ?_
        refine f_aload_n (M := mX5_readInto) 41 dX5_readInto_40 rfl rfl ?_
        refine f_aload_n (M := mX5_readInto) 42 dX5_readInto_41 rfl rfl ?_
        refine e_getR (M := mX5_readInto) dX5_readInto_42 fl_5036 (x_kk rfl) (sl_lt hδ 0 rfl) (sl_s hδ 0 rfl rfl) (wf_6_1 hR hδ) ?_
        refine e_cV (M := mX5_readInto) [_] 0 0 dX5_readInto_45 pa_5044 pb_5044 cc_5044 rfl rfl rfl rfl rfl (x_kk rfl) (x_kk rfl) rfl (k3) rfl ?_
        refine e_if_eqF (M := mX5_readInto) 77 dX5_readInto_48 rfl (show ¬ ((1 : Int32) = 0) by decide) ?_
        refine f_aload_n (M := mX5_readInto) 52 dX5_readInto_51 rfl rfl ?_
        refine f_aload_n (M := mX5_readInto) 53 dX5_readInto_52 rfl rfl ?_
        refine e_getR (M := mX5_readInto) dX5_readInto_53 fl_5047 (x_kk rfl) (sl_lt hδ 0 rfl) (sl_s hδ 0 rfl rfl) (wf_6_2 hR hδ) ?_
        refine f_aload_n (M := mX5_readInto) 57 dX5_readInto_56 rfl rfl ?_
        refine e_getR (M := mX5_readInto) dX5_readInto_57 fl_5036 (x_kk rfl) (sl_lt hδ 0 rfl) (sl_s hδ 0 rfl rfl) (wf_6_1 hR hδ) ?_
        refine e_cV (M := mX5_readInto) [_] 0 0 dX5_readInto_60 pa_5051 pb_5051 cc_5051 rfl rfl rfl rfl rfl (x_kk rfl) (x_kk rfl) rfl (k4) rfl ?_
        refine e_if_eqT (M := mX5_readInto) 77 dX5_readInto_63 rfl (show (0 : Int32) = 0 by decide) ?_
        refine f_iconst (M := mX5_readInto) 78 dX5_readInto_77 ki_0 rfl ?_
        refine f_istore_n (M := mX5_readInto) (ls' := [_, _, _, _]) 79 dX5_readInto_78 rfl rfl rfl ?_
        refine f_iload_n (M := mX5_readInto) 80 dX5_readInto_79 rfl rfl ?_
        refine e_if_eqT (M := mX5_readInto) 93 dX5_readInto_80 rfl (show (0 : Int32) = 0 by decide) ?_
        refine f_aload_n (M := mX5_readInto) 94 dX5_readInto_93 rfl rfl ?_
        refine e_getI (M := mX5_readInto) dX5_readInto_94 fl_5028 (x_kk rfl) (x_kk rfl) rfl ?_
        refine e_ri (M := mX5_readInto) dX5_readInto_97 rfl (x_kk rfl) (x_kk rfl) ?_
        exact r_i fl.2.1
      | inr w3 =>
        rw [e3] at co4
        obtain ⟨rfl, Q4, kp4, C4⟩ := co4
        rw [all_4 e1 e2 e3]
        have kp4J : I4 1 1 = 0 ∧ I4 1 2 = -1 := ⟨kp4.1.trans kp3J.1, kp4.2.trans kp3J.2⟩
        unfold y_fin
        by_cases c : w3.1 = n
        · rw [if_pos c]
          obtain ⟨I5, k5, f5, kp5⟩ := k_end_ok (X := X) (L := L1) hR Q4 c
          have fr5 : ∀ q, ¬ q = 1 → (∀ j, j < 22 → ¬ q = δ + j) → I5 q = I q ∧ L1 q = L q := fun q h1 h2 => ⟨(f5 q h1).trans (fr4 q h1 h2).1, (fr4 q h1 h2).2⟩
          have h9 : I5 (δ + 5) 0 = w3.2 9 := by rw [f5 _ (by omega)]; exact C4.1
          refine ⟨I5, L1, ?_, fr5, kp5.1.trans kp4J.1, kp5.2.trans kp4J.2, ?_⟩
          · show x_Ev X mX5_readInto 0 [some (.ref 1), some (.ref δ), some (.int (Int32.ofNat n)), none] [] ((I, L, R), 233, 0, 0) _
            refine f_aload_n (M := mX5_readInto) 1 dX5_readInto_0 rfl rfl ?_
            refine f_iconst (M := mX5_readInto) 2 dX5_readInto_1 ki_0 rfl ?_
            refine e_putI (M := mX5_readInto) dX5_readInto_2 fl_5019 (x_kk rfl) (x_kk rfl) rfl (fun q9 => Bool.noConfusion q9) ?_
            refine f_aload_n (M := mX5_readInto) 6 dX5_readInto_5 rfl rfl ?_
            refine f_iload_n (M := mX5_readInto) 7 dX5_readInto_6 rfl rfl ?_
            refine e_putI (M := mX5_readInto) dX5_readInto_7 fl_5022 (x_kk rfl) (x_kk rfl) rfl (fun q9 => Bool.noConfusion q9) ?_
            refine f_aload_n (M := mX5_readInto) 11 dX5_readInto_10 rfl rfl ?_
            refine f_iconst (M := mX5_readInto) 12 dX5_readInto_11 ki_0 rfl ?_
            refine e_putI (M := mX5_readInto) dX5_readInto_12 fl_5025 (x_kk rfl) (x_kk rfl) rfl (fun q9 => Bool.noConfusion q9) ?_
            refine f_aload_n (M := mX5_readInto) 16 dX5_readInto_15 rfl rfl ?_
            refine f_iconst (M := mX5_readInto) 17 dX5_readInto_16 ki_0 rfl ?_
            refine e_putI (M := mX5_readInto) dX5_readInto_17 fl_5028 (x_kk rfl) (x_kk rfl) rfl (fun q9 => Bool.noConfusion q9) ?_
            refine f_aload_n (M := mX5_readInto) 21 dX5_readInto_20 rfl rfl ?_
            refine f_iconst (M := mX5_readInto) 22 dX5_readInto_21 ki_m1 rfl ?_
            refine e_putI (M := mX5_readInto) dX5_readInto_22 fl_5015 (x_kk rfl) (x_kk rfl) rfl (fun q9 => Bool.noConfusion q9) ?_
            simp only [up_up, x_up_self]; rw [← hJ]
            refine f_aload_n (M := mX5_readInto) 26 dX5_readInto_25 rfl rfl ?_
            refine e_cV (M := mX5_readInto) [] 0 0 dX5_readInto_26 pa_5031 pb_5031 cc_5031 rfl rfl rfl rfl rfl (x_kk rfl) (x_kk rfl) (x_rcvOK (sl_lt hδ 0 rfl) (sl_s hδ 0 rfl rfl) rfl) (k1) rfl ?_
            refine f_aload_n (M := mX5_readInto) 30 dX5_readInto_29 rfl rfl ?_
            refine f_aload_n (M := mX5_readInto) 31 dX5_readInto_30 rfl rfl ?_
            refine e_getR (M := mX5_readInto) dX5_readInto_31 fl_5036 (x_kk rfl) (sl_lt hδ 0 rfl) (sl_s hδ 0 rfl rfl) (wf_6_1 hR hδ) ?_
            refine e_cV (M := mX5_readInto) [_] 0 0 dX5_readInto_34 pa_5040 pb_5040 cc_5040 rfl rfl rfl rfl rfl (x_kk rfl) (x_kk rfl) rfl (k2) rfl ?_
            refine e_if_eqF (M := mX5_readInto) 77 dX5_readInto_37 rfl (show ¬ ((1 : Int32) = 0) by decide) ?_
            refine f_aload_n (M := mX5_readInto) 41 dX5_readInto_40 rfl rfl ?_
            refine f_aload_n (M := mX5_readInto) 42 dX5_readInto_41 rfl rfl ?_
            refine e_getR (M := mX5_readInto) dX5_readInto_42 fl_5036 (x_kk rfl) (sl_lt hδ 0 rfl) (sl_s hδ 0 rfl rfl) (wf_6_1 hR hδ) ?_
            refine e_cV (M := mX5_readInto) [_] 0 0 dX5_readInto_45 pa_5044 pb_5044 cc_5044 rfl rfl rfl rfl rfl (x_kk rfl) (x_kk rfl) rfl (k3) rfl ?_
            refine e_if_eqF (M := mX5_readInto) 77 dX5_readInto_48 rfl (show ¬ ((1 : Int32) = 0) by decide) ?_
            refine f_aload_n (M := mX5_readInto) 52 dX5_readInto_51 rfl rfl ?_
            refine f_aload_n (M := mX5_readInto) 53 dX5_readInto_52 rfl rfl ?_
            refine e_getR (M := mX5_readInto) dX5_readInto_53 fl_5047 (x_kk rfl) (sl_lt hδ 0 rfl) (sl_s hδ 0 rfl rfl) (wf_6_2 hR hδ) ?_
            refine f_aload_n (M := mX5_readInto) 57 dX5_readInto_56 rfl rfl ?_
            refine e_getR (M := mX5_readInto) dX5_readInto_57 fl_5036 (x_kk rfl) (sl_lt hδ 0 rfl) (sl_s hδ 0 rfl rfl) (wf_6_1 hR hδ) ?_
            refine e_cV (M := mX5_readInto) [_] 0 0 dX5_readInto_60 pa_5051 pb_5051 cc_5051 rfl rfl rfl rfl rfl (x_kk rfl) (x_kk rfl) rfl (k4) rfl ?_
            refine e_if_eqF (M := mX5_readInto) 77 dX5_readInto_63 rfl (show ¬ ((1 : Int32) = 0) by decide) ?_
            refine f_aload_n (M := mX5_readInto) 67 dX5_readInto_66 rfl rfl ?_
            refine e_cV (M := mX5_readInto) [_] 0 0 dX5_readInto_67 pa_5055 pb_5055 cc_5055 rfl rfl rfl rfl rfl (x_kk rfl) (x_kk rfl) rfl (k5) rfl ?_
            refine e_if_eqF (M := mX5_readInto) 77 dX5_readInto_70 rfl (show ¬ ((1 : Int32) = 0) by decide) ?_
            refine f_iconst (M := mX5_readInto) 74 dX5_readInto_73 ki_1 rfl ?_
            refine f_goto (M := mX5_readInto) 78 dX5_readInto_74 rfl ?_
            refine f_istore_n (M := mX5_readInto) (ls' := [_, _, _, _]) 79 dX5_readInto_78 rfl rfl rfl ?_
            refine f_iload_n (M := mX5_readInto) 80 dX5_readInto_79 rfl rfl ?_
            refine e_if_eqF (M := mX5_readInto) 93 dX5_readInto_80 rfl (show ¬ ((1 : Int32) = 0) by decide) ?_
            refine f_aload_n (M := mX5_readInto) 84 dX5_readInto_83 rfl rfl ?_
            refine e_getR (M := mX5_readInto) dX5_readInto_84 fl_5047 (x_kk rfl) (sl_lt hδ 0 rfl) (sl_s hδ 0 rfl rfl) (wf_6_2 hR hδ) ?_
            refine e_getI (M := mX5_readInto) dX5_readInto_87 fl_5059 (x_kk rfl) (sl_lt hδ 5 rfl) (sl_s hδ 5 rfl rfl) ?_
            refine f_goto (M := mX5_readInto) 97 dX5_readInto_90 rfl ?_
            refine e_ri (M := mX5_readInto) dX5_readInto_97 rfl (x_kk rfl) (x_kk rfl) ?_
            exact r_i h9
          · have hp := plots_k hz hz1 S3.1 S3.2.1 e3
            obtain ⟨Z4, E4⟩ := hp Z3
            have f51 : ∀ k, 7 ≤ k → I5 (δ + k) = I1 (δ + k) := fun k hk => by rw [f5 _ (by omega), f4 _ (by omega) (by omega) (by omega), f3 _ (by omega) (by omega) (by omega) (by omega), f2 _ (by omega) (by omega)]
            have zr : ∀ j, ¬ (1 ≤ j ∧ j ≤ 9) → ¬ (20 ≤ j ∧ j ≤ 31) → ¬ (44 ≤ j ∧ j < 224) → w3.2 j = y_0 j := Z4
            have f50 : I5 δ = I1 δ := by rw [f5 _ (by omega), f4 _ (by omega) (by omega) (by omega), f3 _ (by omega) (by omega) (by omega) (by omega), f2 _ (by omega) (by omega)]
            refine ⟨by rw [f50, z0, zr 0 (by omega) (by omega) (by omega)], RT_c (I := I3) (a := w2.2) (fun k h1 h2 => by rw [f5 _ (by omega), f4 _ (by omega) (by omega) (by omega)]) (fun j hj => E4 j (by omega) (by omega)) T3, RC_1 C4 (fun k h1 h2 => f5 _ (by omega)), RB_c (fun k h1 h2 => f51 k (by omega)) (by rw [zr 0 (by omega) (by omega) (by omega)]) (fun j hj => zr j (by omega) (by omega) (by omega)) zB, RK_c (fun k h1 h2 => f51 k (by omega)) rfl rfl (by rw [zr 0 (by omega) (by omega) (by omega)]; exact fun z => z) (fun j hj => zr j (by omega) (by omega) (by omega)) zK, RL_c (fun k h1 h2 => f51 k (by omega)) (fun j hj => zr j (by omega) (by omega) (by omega)) (by decide) zL⟩
        · rw [if_neg c]
          obtain ⟨I5, k5, f5, fl⟩ := k_end_no (X := X) (L := L1) hR Q4 c
          refine ⟨I5, L1, ?_, fun q h1 h2 => ⟨(f5 q h1).trans (fr4 q h1 h2).1, (fr4 q h1 h2).2⟩, fl.1.trans kp4J.1, fl.2.2⟩
          show x_Ev X mX5_readInto 0 [some (.ref 1), some (.ref δ), some (.int (Int32.ofNat n)), none] [] ((I, L, R), 233, 0, 0) _
          refine f_aload_n (M := mX5_readInto) 1 dX5_readInto_0 rfl rfl ?_
          refine f_iconst (M := mX5_readInto) 2 dX5_readInto_1 ki_0 rfl ?_
          refine e_putI (M := mX5_readInto) dX5_readInto_2 fl_5019 (x_kk rfl) (x_kk rfl) rfl (fun q9 => Bool.noConfusion q9) ?_
          refine f_aload_n (M := mX5_readInto) 6 dX5_readInto_5 rfl rfl ?_
          refine f_iload_n (M := mX5_readInto) 7 dX5_readInto_6 rfl rfl ?_
          refine e_putI (M := mX5_readInto) dX5_readInto_7 fl_5022 (x_kk rfl) (x_kk rfl) rfl (fun q9 => Bool.noConfusion q9) ?_
          refine f_aload_n (M := mX5_readInto) 11 dX5_readInto_10 rfl rfl ?_
          refine f_iconst (M := mX5_readInto) 12 dX5_readInto_11 ki_0 rfl ?_
          refine e_putI (M := mX5_readInto) dX5_readInto_12 fl_5025 (x_kk rfl) (x_kk rfl) rfl (fun q9 => Bool.noConfusion q9) ?_
          refine f_aload_n (M := mX5_readInto) 16 dX5_readInto_15 rfl rfl ?_
          refine f_iconst (M := mX5_readInto) 17 dX5_readInto_16 ki_0 rfl ?_
          refine e_putI (M := mX5_readInto) dX5_readInto_17 fl_5028 (x_kk rfl) (x_kk rfl) rfl (fun q9 => Bool.noConfusion q9) ?_
          refine f_aload_n (M := mX5_readInto) 21 dX5_readInto_20 rfl rfl ?_
          refine f_iconst (M := mX5_readInto) 22 dX5_readInto_21 ki_m1 rfl ?_
          refine e_putI (M := mX5_readInto) dX5_readInto_22 fl_5015 (x_kk rfl) (x_kk rfl) rfl (fun q9 => Bool.noConfusion q9) ?_
          simp only [up_up, x_up_self]; rw [← hJ]
          refine f_aload_n (M := mX5_readInto) 26 dX5_readInto_25 rfl rfl ?_
          refine e_cV (M := mX5_readInto) [] 0 0 dX5_readInto_26 pa_5031 pb_5031 cc_5031 rfl rfl rfl rfl rfl (x_kk rfl) (x_kk rfl) (x_rcvOK (sl_lt hδ 0 rfl) (sl_s hδ 0 rfl rfl) rfl) (k1) rfl ?_
          refine f_aload_n (M := mX5_readInto) 30 dX5_readInto_29 rfl rfl ?_
          refine f_aload_n (M := mX5_readInto) 31 dX5_readInto_30 rfl rfl ?_
          refine e_getR (M := mX5_readInto) dX5_readInto_31 fl_5036 (x_kk rfl) (sl_lt hδ 0 rfl) (sl_s hδ 0 rfl rfl) (wf_6_1 hR hδ) ?_
          refine e_cV (M := mX5_readInto) [_] 0 0 dX5_readInto_34 pa_5040 pb_5040 cc_5040 rfl rfl rfl rfl rfl (x_kk rfl) (x_kk rfl) rfl (k2) rfl ?_
          refine e_if_eqF (M := mX5_readInto) 77 dX5_readInto_37 rfl (show ¬ ((1 : Int32) = 0) by decide) ?_
          refine f_aload_n (M := mX5_readInto) 41 dX5_readInto_40 rfl rfl ?_
          refine f_aload_n (M := mX5_readInto) 42 dX5_readInto_41 rfl rfl ?_
          refine e_getR (M := mX5_readInto) dX5_readInto_42 fl_5036 (x_kk rfl) (sl_lt hδ 0 rfl) (sl_s hδ 0 rfl rfl) (wf_6_1 hR hδ) ?_
          refine e_cV (M := mX5_readInto) [_] 0 0 dX5_readInto_45 pa_5044 pb_5044 cc_5044 rfl rfl rfl rfl rfl (x_kk rfl) (x_kk rfl) rfl (k3) rfl ?_
          refine e_if_eqF (M := mX5_readInto) 77 dX5_readInto_48 rfl (show ¬ ((1 : Int32) = 0) by decide) ?_
          refine f_aload_n (M := mX5_readInto) 52 dX5_readInto_51 rfl rfl ?_
          refine f_aload_n (M := mX5_readInto) 53 dX5_readInto_52 rfl rfl ?_
          refine e_getR (M := mX5_readInto) dX5_readInto_53 fl_5047 (x_kk rfl) (sl_lt hδ 0 rfl) (sl_s hδ 0 rfl rfl) (wf_6_2 hR hδ) ?_
          refine f_aload_n (M := mX5_readInto) 57 dX5_readInto_56 rfl rfl ?_
          refine e_getR (M := mX5_readInto) dX5_readInto_57 fl_5036 (x_kk rfl) (sl_lt hδ 0 rfl) (sl_s hδ 0 rfl rfl) (wf_6_1 hR hδ) ?_
          refine e_cV (M := mX5_readInto) [_] 0 0 dX5_readInto_60 pa_5051 pb_5051 cc_5051 rfl rfl rfl rfl rfl (x_kk rfl) (x_kk rfl) rfl (k4) rfl ?_
          refine e_if_eqF (M := mX5_readInto) 77 dX5_readInto_63 rfl (show ¬ ((1 : Int32) = 0) by decide) ?_
          refine f_aload_n (M := mX5_readInto) 67 dX5_readInto_66 rfl rfl ?_
          refine e_cV (M := mX5_readInto) [_] 0 0 dX5_readInto_67 pa_5055 pb_5055 cc_5055 rfl rfl rfl rfl rfl (x_kk rfl) (x_kk rfl) rfl (k5) rfl ?_
          refine e_if_eqT (M := mX5_readInto) 77 dX5_readInto_70 rfl (show (0 : Int32) = 0 by decide) ?_
          refine f_iconst (M := mX5_readInto) 78 dX5_readInto_77 ki_0 rfl ?_
          refine f_istore_n (M := mX5_readInto) (ls' := [_, _, _, _]) 79 dX5_readInto_78 rfl rfl rfl ?_
          refine f_iload_n (M := mX5_readInto) 80 dX5_readInto_79 rfl rfl ?_
          refine e_if_eqT (M := mX5_readInto) 93 dX5_readInto_80 rfl (show (0 : Int32) = 0 by decide) ?_
          refine f_aload_n (M := mX5_readInto) 94 dX5_readInto_93 rfl rfl ?_
          refine e_getI (M := mX5_readInto) dX5_readInto_94 fl_5028 (x_kk rfl) (x_kk rfl) rfl ?_
          refine e_ri (M := mX5_readInto) dX5_readInto_97 rfl (x_kk rfl) (x_kk rfl) ?_
          exact r_i fl.2.1
end

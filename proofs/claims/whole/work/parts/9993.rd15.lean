/-! ===== load, of both, second (laid by wip/whole/src/rd15.py) ===== -/
section
variable {X : x_X} {I : Nat → Nat → Int32} {L : Nat → Nat → Int64} {R : Nat → Nat → Option Nat} {N : Nat}
section
variable {g : Nat → Int32} {n : Nat}
theorem all_r {w : Nat × (Nat → Int32)} (h : y_all g n = .inr w) : ∃ k m z, k ≤ 6 ∧ m ≤ 30 ∧ m ≤ z ∧ 2 ≤ z ∧ z ≤ 200 ∧ w.2 1 = Int32.ofNat z ∧ y_Z0 w.2 ∧ y_PN w.2 7 ∧ y_PS w.2 k ∧ y_PC w.2 m := by
  unfold y_all at h
  obtain ⟨w3, h3, hf⟩ := bd_r h
  obtain ⟨w2, h2, hp⟩ := bd_r h3
  obtain ⟨w1, h1, hs⟩ := bd_r h2
  obtain ⟨Z1, N1, S1, C1, zz⟩ := nums_r h1
  obtain ⟨k, Z2, N2, S2, C2⟩ := sps_r 6 0 _ _ _ rfl hs ⟨Z1, N1, S1, C1⟩
  obtain ⟨z, hz2, hz, hz1⟩ := PN_1 N2
  unfold y_plots at hp
  rw [hz1, S2.2.1, n_cl (by have := S2.1; omega), n_cl (by omega)] at hp
  obtain ⟨m, hm, Z3, N3, S3, C3, e1⟩ := pls_r (z := min 30 z) (by omega) S2.1 _ _ _ _ _ (by omega) hp ⟨Z2, N2, S2, C2⟩
  have ew : w.2 = w3.2 := by
    unfold y_fin at hf
    by_cases c : w3.1 = n
    · rw [if_pos c] at hf; obtain rfl := Sum.inr.inj hf; rfl
    · rw [if_neg c] at hf; cases hf
  rw [ew]
  exact ⟨k, m, z, S2.1, by omega, by omega, hz2, hz, e1.trans hz1, Z3, N3, S3, C3⟩
theorem pn_in {a : Nat → Int32} {i : Nat} (h : y_PN a 7) (hi : i < 7) : ((y_l7 i : Nat) : Int) ≤ (a (1 + i)).toInt ∧ (a (1 + i)).toInt ≤ (y_h7 i : Nat) := by
  obtain ⟨v, h1, h2, h3⟩ := h i hi
  have := (l7_b i hi).2
  rw [h3, t_n (by omega)]
  omega
theorem inv_load {M : Nat} {w : Nat × (Nat → Int32)} (h : y_all g n = .inr w) : y_Inv M w.2 (fun _ => 0) := by
  obtain ⟨k, m, z, hk, hm, hmz, hz2, hz, h1, Z, PN, PS, PC⟩ := all_r h
  have z0 := Z 0 (by omega) (by omega) (by omega)
  have zj : ∀ j, 224 ≤ j → w.2 j = 0 := fun j hj => Z j (by omega) (by omega) (by omega)
  have n3 : ¬ 3 ≤ w.2 0 := by rw [z0]; decide
  refine ⟨⟨⟨0, by omega, z0⟩, pn_in PN (i := 0) (by decide), pn_in PN (i := 1) (by decide), pn_in PN (i := 2) (by decide), pn_in PN (i := 3) (by decide), pn_in PN (i := 4) (by decide), pn_in PN (i := 5) (by decide), pn_in PN (i := 6) (by decide), ⟨k, hk, PS.2.1⟩, PS.2.2⟩, ⟨⟨m, hm, PC.1, by rw [h1, t_n (by omega)]; omega⟩, PC.2⟩, ?_, ?_, ?_, ?_, fun j hj => zj j (by omega), fun j hj => rfl⟩
  · have z10 := Z 10 (by omega) (by omega) (by omega)
    refine ⟨by rw [z10]; exact zin (by omega), fun q hq => ⟨fun s hs => by rw [zj _ (by omega)]; exact zin (by decide), by rw [zj _ (by omega)]; exact zin (by decide), by rw [zj _ (by omega), z10]; exact zin (by decide)⟩, fun q j hq hj hne hp => ?_, fun _ => ⟨z10, fun j hj => zj _ (by omega)⟩⟩
    rw [zj _ (by omega)] at hp
    exact absurd hp (by decide)
  · intro s hs
    rw [Z (32 + s) (by omega) (by omega) (by omega), Z (38 + s) (by omega) (by omega) (by omega)]
    exact ⟨zin (by decide), zin (by decide), fun _ => ⟨rfl, rfl⟩⟩
  · refine ⟨⟨0, by omega, Z 13 (by omega) (by omega) (by omega)⟩, by rw [Z 15 (by omega) (by omega) (by omega)]; exact zin (by decide), fun s hs => by rw [zj _ (by omega)]; exact zin (by decide), fun j hj => by rw [zj _ (by omega)]; exact zin (by decide), fun q => absurd q n3, ?_, fun q => ?_⟩
    · rw [Z 16 (by omega) (by omega) (by omega), z0]; decide
    · rw [z0] at q; exact absurd q (by decide)
  · exact ⟨0, by omega, Z 14 (by omega) (by omega) (by omega), fun k hk => absurd hk (Nat.not_lt_zero _)⟩
end
section
variable {kn bn : Nat} {a : Nat → Int32} {b : Nat → Int64} {ks : Nat → (Nat → Int32) × (Nat → Int64)} {bf : Nat → Int32} {ep : Int32}
theorem m_load0 {n : Nat} (M : y_SM I L R a b kn ks bf bn ep) (hn : n ≤ bn) (hbn : bn ≤ 800) (hb : ∀ j, j < bn → y_in (bf j) 0 255) : ∃ I3 L3, (∀ r, x_Ev X mX9_load 82 [some (.ref 225), some (.int (Int32.ofNat n)), some (.int (Int32.ofNat 606))] [] ((I3, L3, R), 233, 0, 0) r → x_Cv X mX9_load [.ref 225, .int (Int32.ofNat n)] (I, L, R) 233 r) ∧ (∀ q, ¬ q = 225 → ¬ q = 227 → I3 q = I q) ∧ (∀ q, ¬ q = 225 → L3 q = L q) ∧ I3 225 5 = I 225 5 ∧ I3 225 6 = 0 ∧ I3 225 8 = 0 ∧ y_MS I3 L3 n bf (y_all bf n) := by
  obtain ⟨hR, m1, m2, m3, m4, m5, m6, m7, m8⟩ := M
  obtain ⟨J, hJ⟩ : ∃ J, J = va_up I 225 (va_up (va_up (va_up (va_up (va_up (I 225) 6 0) 9 (Int32.ofNat n)) 8 0) 11 0) 13 0) := ⟨_, rfl⟩
  have jf : ∀ q, ¬ q = 225 → J q = I q := fun q hq => by rw [hJ]; exact x_up_ne _ _ hq
  have j5 : J 225 5 = I 225 5 := by rw [hJ, x_up_self, x_up_ne _ _ (by decide), x_up_ne _ _ (by decide), x_up_ne _ _ (by decide), x_up_ne _ _ (by decide), x_up_ne _ _ (by decide)]
  have j6 : J 225 6 = 0 := by rw [hJ, x_up_self, x_up_ne _ _ (by decide), x_up_ne _ _ (by decide), x_up_ne _ _ (by decide), x_up_ne _ _ (by decide), x_up_self]
  have j9 : J 225 9 = Int32.ofNat n := by rw [hJ, x_up_self, x_up_ne _ _ (by decide), x_up_ne _ _ (by decide), x_up_ne _ _ (by decide), x_up_self]
  have j8 : J 225 8 = 0 := by rw [hJ, x_up_self, x_up_ne _ _ (by decide), x_up_ne _ _ (by decide), x_up_self]
  have j11 : J 225 11 = 0 := by rw [hJ, x_up_self, x_up_ne _ _ (by decide), x_up_self]
  have j13 : J 225 13 = 0 := by rw [hJ, x_up_self, x_up_self]
  have lo : ∀ r, x_Ev X mX9_load 74 [some (.ref 225), some (.int (Int32.ofNat n)), some (.int (Int32.ofNat 606))] [] ((va_up J 227 (y_z (J 227) 0 606), L, R), 233, 0, 0) r → x_Ev X mX9_load 54 [some (.ref 225), some (.int (Int32.ofNat n)), some (.int (Int32.ofNat 0))] [] ((J, L, R), 233, 0, 0) r := fun r kk => by
    have l := l_ld1 (X := X) (I := J) (L := L) hR kk 606 0 rfl
    rw [z_0, up_self] at l
    exact l
  obtain ⟨K, hK⟩ : ∃ K, K = va_up J 227 (y_z (J 227) 0 606) := ⟨_, rfl⟩
  rw [← hK] at lo
  have kf : ∀ q, ¬ q = 225 → ¬ q = 227 → K q = I q := fun q h1 h2 => by rw [hK, x_up_ne _ _ h2]; exact jf q h1
  have k225 : K 225 = J 225 := by rw [hK]; exact x_up_ne _ _ (by decide)
  have k227 : ∀ j, j < 606 → K 227 j = 0 := fun j hj => by rw [hK, x_up_self, z_i (by omega)]
  have hdg : ∀ q, q < n → y_dg bf q ≤ 300 := fun q hq => by have := (hb q (by omega)).2; unfold y_dg; omega
  have hbb : ∀ j, j < n → K 231 j = bf j := fun j hj => by rw [kf 231 (by decide) (by decide)]; exact m7 j (by omega)
  obtain ⟨I2, L2, k2, f2, g2, e10, e11, e12, e16⟩ := m_next (X := X) (I := K) (L := L) (g := bf) (n := n) (p := 0) hR (by omega) (by rw [k225]; exact j9) hbb hdg (by omega) (by rw [k225]; exact j11) rfl
  have ML2 : y_ML I2 L2 n bf (y_sk bf n 0) := ⟨by omega, by rw [g2 9 (by decide) (by decide) (by decide), k225]; exact j9, fun j hj => by rw [(f2 231 (by decide)).1]; exact hbb j hj, hdg, fw_le (by omega), e10, e11, e12, e16, by rw [g2 13 (by decide) (by decide) (by decide), k225]; exact j13⟩
  have MS2 : y_MS I2 L2 n bf (.inr (y_sk bf n 0, y_0)) := ⟨ML2, fun j hj => by rw [(f2 227 (by decide)).1]; exact k227 j hj⟩
  obtain ⟨I3, L3, k3, f3, S3⟩ := m_all (X := X) hR MS2
  have g3 : ∀ j, j < 9 → I3 225 j = J 225 j := fun j hj => by rw [f3.2.2 j (by omega), g2 j (by omega) (by omega) (by omega), k225]
  refine ⟨I3, L3, fun r hr => ?_, fun q h1 h2 => by rw [f3.1 q h1 h2, (f2 q h1).1]; exact kf q h1 h2, fun q h1 => by rw [f3.2.1 q h1, (f2 q h1).2], by rw [g3 5 (by decide)]; exact j5, by rw [g3 6 (by decide)]; exact j6, by rw [g3 8 (by decide)]; exact j8, S3⟩
  show x_Ev X mX9_load 0 [some (.ref 225), some (.int (Int32.ofNat n)), none] [] ((I, L, R), 233, 0, 0) _
  refine f_aload_n (M := mX9_load) 1 dX9_load_0 rfl rfl ?_
  refine f_iload_n (M := mX9_load) 2 dX9_load_1 rfl rfl ?_
  refine f_i2l (M := mX9_load) 3 dX9_load_2 rfl ?_
  refine f_lconst (M := mX9_load) 4 dX9_load_3 kl_0 rfl ?_
  refine f_aload_n (M := mX9_load) 5 dX9_load_4 rfl rfl ?_
  refine e_getI (M := mX9_load) dX9_load_5 fl_9039 (x_kk rfl) (x_kk rfl) rfl ?_
  refine f_i2l (M := mX9_load) 9 dX9_load_8 rfl ?_
  refine e_cS (M := mX9_load) [_, _] 0 0 dX9_load_9 pa_9074 cc_9074 rfl rfl rfl rfl rfl (x_kk rfl) (x_kk rfl) rfl (c_X9_isInI (lo := 0)) rfl ?_
  refine e_if_eqF (M := mX9_load) 19 dX9_load_12 rfl (x_bn (ib_ok m6 (by omega) hn)) ?_
  refine f_iconst (M := mX9_load) 16 dX9_load_15 ki_0 rfl ?_
  refine f_goto (M := mX9_load) 20 dX9_load_16 rfl ?_
  refine e_putI (M := mX9_load) dX9_load_20 fl_9033 (x_kk rfl) (x_kk rfl) rfl (fun q9 => Bool.noConfusion q9) ?_
  refine f_aload_n (M := mX9_load) 24 dX9_load_23 rfl rfl ?_
  refine e_getI (M := mX9_load) dX9_load_24 fl_9033 (x_kk rfl) (x_kk rfl) rfl ?_
  refine e_if_leT (M := mX9_load) 32 dX9_load_27 rfl (show (0 : Int32) ≤ 0 by decide) ?_
  refine f_aload_n (M := mX9_load) 33 dX9_load_32 rfl rfl ?_
  refine f_iload_n (M := mX9_load) 34 dX9_load_33 rfl rfl ?_
  refine e_putI (M := mX9_load) dX9_load_34 fl_9042 (x_kk rfl) (x_kk rfl) rfl (fun q9 => Bool.noConfusion q9) ?_
  refine f_aload_n (M := mX9_load) 38 dX9_load_37 rfl rfl ?_
  refine f_iconst (M := mX9_load) 39 dX9_load_38 ki_0 rfl ?_
  refine e_putI (M := mX9_load) dX9_load_39 fl_9039 (x_kk rfl) (x_kk rfl) rfl (fun q9 => Bool.noConfusion q9) ?_
  refine f_aload_n (M := mX9_load) 43 dX9_load_42 rfl rfl ?_
  refine f_iconst (M := mX9_load) 44 dX9_load_43 ki_0 rfl ?_
  refine e_putI (M := mX9_load) dX9_load_44 fl_9060 (x_kk rfl) (x_kk rfl) rfl (fun q9 => Bool.noConfusion q9) ?_
  refine f_aload_n (M := mX9_load) 48 dX9_load_47 rfl rfl ?_
  refine f_iconst (M := mX9_load) 49 dX9_load_48 ki_0 rfl ?_
  refine e_putI (M := mX9_load) dX9_load_49 fl_9093 (x_kk rfl) (x_kk rfl) rfl (fun q9 => Bool.noConfusion q9) ?_
  refine f_iconst (M := mX9_load) 53 dX9_load_52 ki_0 rfl ?_
  refine f_istore_n (M := mX9_load) (ls' := [_, _, _]) 54 dX9_load_53 rfl rfl rfl ?_
  simp only [up_up, x_up_self]; rw [← hJ]; refine lo _ ?_
  refine f_aload_n (M := mX9_load) 75 dX9_load_74 rfl rfl ?_
  refine e_cV (M := mX9_load) [] 0 0 dX9_load_75 pa_9107 pb_9107 cc_9107 rfl rfl rfl rfl rfl (x_kk rfl) (x_kk rfl) rfl (k2) rfl ?_
  refine f_aload_n (M := mX9_load) 79 dX9_load_78 rfl rfl ?_
  refine e_cV (M := mX9_load) [] 0 0 dX9_load_79 pa_9125 pb_9125 cc_9125 rfl rfl rfl rfl rfl (x_kk rfl) (x_kk rfl) rfl (k3) rfl ?_
  exact hr
theorem m_load {n : Nat} (M : y_SM I L R a b kn ks bf bn ep) (hn : n ≤ bn) (hbn : bn ≤ 800) (hb : ∀ j, j < bn → y_in (bf j) 0 255) (h606 : ∀ j, 606 ≤ j → a j = 0) (h37 : ∀ j, 37 ≤ j → b j = 0) : y_PO (y_all bf n) (fun e => ∃ I6 L6, x_Cv X mX9_load [.ref 225, .int (Int32.ofNat n)] (I, L, R) 233 (.inl (some (.int e.1)), (I6, L6, R), 233) ∧ y_SM I6 L6 R a b kn ks bf 0 (Int32.ofNat e.2) ∧ I6 225 6 = 0 ∧ y_fr I I6 L L6) (fun w => ∃ I6 L6, x_Cv X mX9_load [.ref 225, .int (Int32.ofNat n)] (I, L, R) 233 (.inl (some (.int (w.2 9))), (I6, L6, R), 233) ∧ y_SM I6 L6 R w.2 (fun _ => 0) (min (kn + 1) 8) (y_push a b ks) bf 0 (-1) ∧ I6 225 6 = 0 ∧ y_fr I I6 L L6) := by
  obtain ⟨I3, L3, ev, f3, g3, e5, e6, e8, S3⟩ := m_load0 (X := X) M hn hbn hb
  obtain ⟨hR, m1, m2, m3, m4, m5, m6, m7, m8⟩ := M
  cases ea : y_all bf n with
  | inl e =>
    rw [ea] at S3
    refine ⟨va_up I3 225 (va_up (I3 225) 15 (I3 225 14)), L3, ev _ ?_, ⟨hR, ?_, ?_, m3, ?_, ?_, ?_, fun j hj => absurd hj (Nat.not_lt_zero _), ?_⟩, ?_, fun q hq => ⟨?_, ?_⟩⟩
    · refine f_aload_n (M := mX9_load) 83 dX9_load_82 rfl rfl ?_
      refine f_aload_n (M := mX9_load) 84 dX9_load_83 rfl rfl ?_
      refine e_getI (M := mX9_load) dX9_load_84 fl_9093 (x_kk rfl) (x_kk rfl) rfl ?_
      refine e_if_neT (M := mX9_load) 94 dX9_load_87 rfl S3.1 ?_
      refine f_aload_n (M := mX9_load) 95 dX9_load_94 rfl rfl ?_
      refine e_getI (M := mX9_load) dX9_load_95 fl_9096 (x_kk rfl) (x_kk rfl) rfl ?_
      refine e_putI (M := mX9_load) dX9_load_98 fl_9029 (x_kk rfl) (x_kk rfl) rfl (fun q9 => Bool.noConfusion q9) ?_
      refine f_aload_n (M := mX9_load) 102 dX9_load_101 rfl rfl ?_
      refine e_getI (M := mX9_load) dX9_load_102 fl_9093 (x_kk rfl) (x_kk rfl) rfl ?_
      refine e_if_eqF (M := mX9_load) 113 dX9_load_105 rfl S3.1 ?_
      refine f_aload_n (M := mX9_load) 109 dX9_load_108 rfl rfl ?_
      refine e_getI (M := mX9_load) dX9_load_109 fl_9093 (x_kk rfl) (x_kk rfl) rfl ?_
      refine e_ri (M := mX9_load) dX9_load_112 rfl (x_kk rfl) (x_kk rfl) ?_
      exact r_i (by rw [x_up_self, x_up_ne _ _ (by decide)]; exact S3.2.1)
    · rw [x_up_ne _ _ (by decide), f3 226 (by decide) (by decide)]; exact m1
    · rw [g3 229 (by decide)]; exact m2
    · rw [x_up_self, x_up_ne _ _ (by decide), e5]; exact m4
    · intro i hi
      rw [x_up_ne _ _ (by decide), f3 228 (by decide) (by decide), g3 230 (by decide)]
      exact m5 i hi
    · rw [x_up_self, x_up_ne _ _ (by decide)]; exact e8
    · rw [x_up_self, x_up_self]; exact S3.2.2
    · rw [x_up_self, x_up_ne _ _ (by decide)]; exact e6
    · rw [x_up_ne _ _ (by omega)]; exact f3 q (by omega) (by omega)
    · exact g3 q (by omega)
  | inr w =>
    rw [ea] at S3
    have z13 := S3.1.2.2.2.2.2.2.2.2.2
    obtain ⟨_, _, _, _, _, _, _, _, _, Z, _, _, _⟩ := all_r ea
    obtain ⟨K, hK⟩ : ∃ K, K = va_up I3 225 (va_up (I3 225) 15 (-1)) := ⟨_, rfl⟩
    have kf : ∀ q, ¬ q = 225 → K q = I3 q := fun q hq => by rw [hK]; exact x_up_ne _ _ hq
    have kj : ∀ j, ¬ j = 15 → K 225 j = I3 225 j := fun j hj => by rw [hK, x_up_self, x_up_ne _ _ hj]
    have MK : y_SM K L3 R a b kn ks bf 0 (-1) := by
      refine ⟨hR, ?_, ?_, m3, ?_, ?_, ?_, fun j hj => absurd hj (Nat.not_lt_zero _), ?_⟩
      · rw [kf 226 (by decide), f3 226 (by decide) (by decide)]; exact m1
      · rw [g3 229 (by decide)]; exact m2
      · rw [kj 5 (by decide), e5]; exact m4
      · intro i hi
        rw [kf 228 (by decide), f3 228 (by decide) (by decide), g3 230 (by decide)]
        exact m5 i hi
      · rw [kj 8 (by decide)]; exact e8
      · rw [hK, x_up_self, x_up_self]
    obtain ⟨I5, L5, hk9, M5, t6, l25, fr5⟩ := keeps_ok (X := X) MK
    have e227 := keeps_d MK hk9
    obtain ⟨_, n1, n2, n3, n4, n5, n6, n7, n8⟩ := M5
    have ea2 : x_mix (I5 227) (I5 226) 606 = w.2 := by
      funext j
      unfold x_mix
      by_cases c : j < 606
      · rw [if_pos c, e227, kf 227 (by decide)]; exact S3.2 j c
      · rw [if_neg c, n1, h606 j (by omega)]; exact (Z j (by omega) (by omega) (by omega)).symm
    have eb2 : y_zl (L5 229) 37 = fun _ => 0 := by
      funext j
      unfold y_zl
      by_cases c : j < 37
      · rw [if_pos c]
      · rw [if_neg c, n2]; exact h37 j (by omega)
    have lp2 : ∀ r, x_Ev X mX9_load 144 [some (.ref 225), some (.int (Int32.ofNat n)), some (.int (Int32.ofNat 606))] [] ((va_up I5 226 (x_mix (I5 227) (I5 226) 606), L5, R), 233, 0, 0) r → x_Ev X mX9_load 119 [some (.ref 225), some (.int (Int32.ofNat n)), some (.int (Int32.ofNat 0))] [] ((I5, L5, R), 233, 0, 0) r := fun r kk => by
      have l := l_ld2 (X := X) (I := I5) (L := L5) hR kk 606 0 rfl
      rw [mix_0, up_self] at l
      exact l
    rw [ea2] at lp2
    have lp3 : ∀ r, x_Ev X mX9_load 165 [some (.ref 225), some (.int (Int32.ofNat n)), some (.int (Int32.ofNat 37))] [] ((va_up I5 226 w.2, va_up L5 229 (y_zl (L5 229) 37), R), 233, 0, 0) r → x_Ev X mX9_load 146 [some (.ref 225), some (.int (Int32.ofNat n)), some (.int (Int32.ofNat 0))] [] ((va_up I5 226 w.2, L5, R), 233, 0, 0) r := fun r kk => by
      have l := l_ld3 (X := X) (I := va_up I5 226 w.2) (L := L5) hR kk 37 0 rfl
      rw [zl_0, up_self] at l
      exact l
    rw [eb2] at lp3
    refine ⟨va_up I5 226 w.2, va_up L5 229 (fun _ => 0), ev _ ?_, ⟨hR, x_up_self _ _ _, x_up_self _ _ _, n3, n4, ?_, n6, fun j hj => absurd hj (Nat.not_lt_zero _), n8⟩, ?_, fun q hq => ⟨?_, ?_⟩⟩
    · refine f_aload_n (M := mX9_load) 83 dX9_load_82 rfl rfl ?_
      refine f_aload_n (M := mX9_load) 84 dX9_load_83 rfl rfl ?_
      refine e_getI (M := mX9_load) dX9_load_84 fl_9093 (x_kk rfl) (x_kk rfl) rfl ?_
      refine e_if_neF (M := mX9_load) 94 dX9_load_87 rfl (fun z => z z13) ?_
      refine f_iconst (M := mX9_load) 91 dX9_load_90 ki_m1 rfl ?_
      refine f_goto (M := mX9_load) 98 dX9_load_91 rfl ?_
      refine e_putI (M := mX9_load) dX9_load_98 fl_9029 (x_kk rfl) (x_kk rfl) rfl (fun q9 => Bool.noConfusion q9) ?_
      rw [← hK]
      refine f_aload_n (M := mX9_load) 102 dX9_load_101 rfl rfl ?_
      refine e_getI (M := mX9_load) dX9_load_102 fl_9093 (x_kk rfl) (x_kk rfl) rfl ?_
      refine e_if_eqT (M := mX9_load) 113 dX9_load_105 rfl ((kj 13 (by decide)).trans z13) ?_
      refine f_aload_n (M := mX9_load) 114 dX9_load_113 rfl rfl ?_
      refine e_cV (M := mX9_load) [] 0 0 dX9_load_114 pa_9128 pb_9128 cc_9128 rfl rfl rfl rfl rfl (x_kk rfl) (x_kk rfl) rfl (hk9) rfl ?_
      refine f_iconst (M := mX9_load) 118 dX9_load_117 ki_0 rfl ?_
      refine f_istore_n (M := mX9_load) (ls' := [_, _, _]) 119 dX9_load_118 rfl rfl rfl ?_
      refine lp2 _ ?_
      refine f_iconst (M := mX9_load) 145 dX9_load_144 ki_0 rfl ?_
      refine f_istore_n (M := mX9_load) (ls' := [_, _, _]) 146 dX9_load_145 rfl rfl rfl ?_
      refine lp3 _ ?_
      refine f_aload_n (M := mX9_load) 166 dX9_load_165 rfl rfl ?_
      refine e_getR (M := mX9_load) dX9_load_166 fl_9007 (x_kk rfl) (x_kk rfl) rfl (wf_9_0 hR) ?_
      refine f_bipush (M := mX9_load) 171 dX9_load_169 kb_9 rfl ?_
      refine e_ild (M := mX9_load) (w := 606) (j := 9) dX9_load_171 (x_kk rfl) rfl kn_9 (by omega) (by omega) ?_
      refine e_ri (M := mX9_load) dX9_load_172 rfl (x_kk rfl) (x_kk rfl) ?_
      exact r_i (by rw [x_up_self])
    · intro i hi
      rw [x_up_ne _ _ (by decide), x_up_ne _ _ (by decide)]
      exact n5 i hi
    · rw [x_up_ne _ _ (by decide), t6, kj 6 (by decide)]; exact e6
    · rw [x_up_ne _ _ (by omega), (fr5 q hq).1, kf q (by omega)]; exact f3 q (by omega) (by omega)
    · rw [x_up_ne _ _ (by omega), (fr5 q hq).2]; exact g3 q (by omega)
end
theorem sim_load (T : y_T N I L R) {v : Int32} : y_OI N X mL_load [.ref 0, .int v, .ref 232] mX9_load [.ref 225, .int v] I L R := by
  have T0 := T
  obtain ⟨a, b, kn, ks, bf, bn, ep, ⟨β, δ, γ, ν, hB⟩, hM, hI⟩ := T
  have H : y_CS N I L R β a b := ⟨hM.1, hB.1.2.1, hB.1.2.2.2.2.1, hB.2.2.2.2.2.1, hI.1⟩
  obtain ⟨Ns, Np, Nl, Nm, Z⟩ := Z_of hI.1
  have hR := hM.1
  have ha : I 226 = a := hM.2.1
  have hb : L 229 = b := hM.2.2.1
  subst ha
  subst hb
  obtain ⟨hNs, hn, hNp, hp, hNl, hl, hNm, hmm⟩ := id Z
  obtain ⟨hSR, hν, h31, hkn, h32, hrep, hks, hbn, d11, d2, d12⟩ := id hB
  obtain ⟨_, hβ, hδ, hγ, h02, h03, h4, hbd, hgn, hgg⟩ := id hSR
  obtain ⟨_, _, _, m3, m4, m5, m6, m7, m8⟩ := id hM
  by_cases h : 0 ≤ v ∧ v ≤ I 1 1
  · obtain ⟨n, hn, rfl⟩ := ib_of d11 (by omega) h
    have G : y_G (I 2) n bf := fun j hj => ⟨d2 j (by omega), hI.2.2 j (by omega)⟩
    have K := k_into (X := X) (L := L) hR hδ (show n ≤ 800 by omega) G
    cases ea : y_all bf n with
    | inl e =>
      rw [ea] at K
      obtain ⟨I1, L1, ki, fr1, e11, e12⟩ := K
      have k1 := w_load (kl_no hR hβ hδ h02 h03 h ki (all_e ea))
      have SB1 := SB_r hB fr1 e11 e12
      have M1 := SM_f (I' := I1) (L' := va_up L1 232 (va_up (L1 232) 0 e.1.toInt64)) hM hR (fun q z1 z2 => ⟨(fr1 q (by omega) (fun j hj => sl_far hδ (Or.inr z1) hj)).1, (x_up_ne _ _ (by omega)).trans (fr1 q (by omega) (fun j hj => sl_far hδ (Or.inr z1) hj)).2⟩)
      have m := m_load (X := X) (n := n) M1 hn hbn hI.2.2 hI.1.2.2.2.2.2.2.1 hI.1.2.2.2.2.2.2.2
      rw [ea] at m
      obtain ⟨I6, L6, k6, S6, t6, f6⟩ := m
      exact OI_c (a' := I 226) (b' := L 229) k1 ⟨β, δ, γ, ν, SB1⟩ k6 t6 S6 f6 ⟨Inv_m (by omega) hI.1, fun i hi => Inv_m (by omega) (hI.2.1 i hi), fun j hj => absurd hj (Nat.not_lt_zero _)⟩
    | inr w =>
      rw [ea] at K
      obtain ⟨I1, L1, ki, fr1, e11, e12, rep⟩ := K
      have SB1 := SB_r hB fr1 e11 e12
      obtain ⟨_, pm, _, _, hpm, _, _, _, _, _, _, _, PC⟩ := all_r ea
      obtain ⟨I0, L0, hk, S1, fr, sm⟩ := keep_ok (X := X) SB1 (h60_of (h_IL H))
      have kd := keep_d SB1 hk
      have rep0 : y_Rep I0 L0 δ w.2 (fun _ => 0) := Rep_c (fun k hk => (kd k hk).1) (fun k hk => (kd k hk).2) rep
      have SB2 := SB_sw S1 rep0
      have k1 := w_load (kl_ok hR hβ hδ h02 h03 h ki (by rw [PC.1, kn_0, n_lt (by omega) (by omega)]; omega) hk)
      have M1 := SM_f (I' := I0) (L' := va_up L0 232 (va_up (L0 232) 0 (w.2 9).toInt64)) hM SB2.1.1 (fun q z1 z2 => ⟨(fr q z1).1.trans (fr1 q (by omega) (fun j hj => sl_far hδ (Or.inr z1) hj)).1, (x_up_ne _ _ (by omega)).trans ((fr q z1).2.trans (fr1 q (by omega) (fun j hj => sl_far hδ (Or.inr z1) hj)).2)⟩)
      have m := m_load (X := X) (n := n) M1 hn hbn hI.2.2 hI.1.2.2.2.2.2.2.1 hI.1.2.2.2.2.2.2.2
      rw [ea] at m
      obtain ⟨I6, L6, k6, S6, t6, f6⟩ := m
      refine OI_c (a' := w.2) (b' := fun _ => 0) k1 ⟨_, _, _, _, SB2⟩ k6 t6 S6 f6 ?_
      have q := In_p (N := N) (M := N + 1) (by omega) hI (inv_load ea)
      exact ⟨q.1, q.2.1, fun j hj => absurd hj (Nat.not_lt_zero _)⟩
  · exact OI_x T0 (by decide) (w_load_x1 (kf_load hR h)) (mf_load hR (by rw [m6, ← d11]; exact h))
end

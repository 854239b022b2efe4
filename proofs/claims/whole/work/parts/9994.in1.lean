/-! ===== the beginning: constructors (laid by wip/whole/src/in1.py) ===== -/
section
variable {X : x_X} {I : Nat → Nat → Int32} {L : Nat → Nat → Int64} {R : Nat → Nat → Option Nat} {N : Nat}
section
variable {M : x_MI} {pc pc' : Nat} {ls ls' : x_Ls} {st st' : List Value} {S S' : x_S} {n c k m : Nat} {r : x_O × x_Mem × Nat} {F : (Nat → Nat → Int32) → (Nat → Nat → Int64) → (Nat → Nat → Option Nat) → Prop}
def y_Ex (X : x_X) (M : x_MI) (pc : Nat) (ls : x_Ls) (st : List Value) (S : x_S) (m : Nat) (F : (Nat → Nat → Int32) → (Nat → Nat → Int64) → (Nat → Nat → Option Nat) → Prop) : Prop := ∃ I' L' R', x_Ev X M pc ls st S (.inl none, (I', L', R'), m) ∧ F I' L' R'
theorem ex_l (h : ∀ r, x_Ev X M pc' ls' st' S' r → x_Ev X M pc ls st S r) (k : y_Ex X M pc' ls' st' S' m F) : y_Ex X M pc ls st S m F := by
  obtain ⟨I', L', R', e, f⟩ := k
  exact ⟨I', L', R', h _ e, f⟩
theorem e_newN {idx ci w : Nat} (n1 c' k' : Nat) (hd : decode (x_mb M) pc = .ok (.new idx, 3)) (hk : idx < 1000) (h1 : x_look (x_key M idx) x_newT = some ci) (hw : (x_fks ci).length = w) (hn1 : n + 1 = n1) (hcc : c + 1 = c') (hkk : k + w = k') (hc : c' ≤ x_mc M) (hs : k' ≤ x_ms M) (hn : n < 233) (hsh : (x_shp n).1 = 10 + ci) (kk : x_Ev X M (pc + 3) ls (.ref n :: st) ((va_up I n (fun _ => 0), va_up L n (fun _ => 0), va_up R n (fun _ => none)), n1, c', k') r) : x_Ev X M pc ls st ((I, L, R), n, c, k) r := by
  subst hn1
  exact e_new c' k' hd hk h1 hw hcc hkk hc hs hn hsh kk
theorem e_naN {t : ArrayType} {w : Nat} {i : Int32} (n1 c' k' : Nat) (hd : decode (x_mb M) pc = .ok (.newarray t, 2)) (hi : i = Int32.ofNat w) (hw : w < 10000) (hn1 : n + 1 = n1) (hcc : c + 1 = c') (hkk : k + w = k') (hc : c' ≤ x_mc M) (hs : k' ≤ x_ms M) (hn : n < 233) (hsh : x_shp n = (x_atk t, w)) (kk : x_Ev X M (pc + 2) ls (.ref n :: st) ((va_up I n (fun _ => 0), va_up L n (fun _ => 0), va_up R n (fun _ => none)), n1, c', k') r) : x_Ev X M pc ls (.int i :: st) ((I, L, R), n, c, k) r := by
  subst hn1
  exact e_na c' k' hd hi hw hcc hkk hc hs hn hsh kk
theorem e_anaN {idx w : Nat} {i : Int32} (n1 c' k' : Nat) (hd : decode (x_mb M) pc = .ok (.anewarray idx, 3)) (h1 : x_look (x_key M idx) x_newT = some 6) (hk : idx < 1000) (hi : i = Int32.ofNat w) (hw : w < 10000) (hn1 : n + 1 = n1) (hcc : c + 1 = c') (hkk : k + w = k') (hc : c' ≤ x_mc M) (hs : k' ≤ x_ms M) (hn : n < 233) (hsh : x_shp n = (3, w)) (kk : x_Ev X M (pc + 3) ls (.ref n :: st) ((va_up I n (fun _ => 0), va_up L n (fun _ => 0), va_up R n (fun _ => none)), n1, c', k') r) : x_Ev X M pc ls (.int i :: st) ((I, L, R), n, c, k) r := by
  subst hn1
  exact e_ana c' k' hd h1 hk hi hw hcc hkk hc hs hn hsh kk
end
theorem ob_8001 : x_look 8001 x_obiT = some () := rfl
theorem ob_5003 : x_look 5003 x_obiT = some () := rfl
theorem ob_3003 : x_look 3003 x_obiT = some () := rfl
theorem ob_6003 : x_look 6003 x_obiT = some () := rfl
theorem ob_7003 : x_look 7003 x_obiT = some () := rfl
theorem ob_2003 : x_look 2003 x_obiT = some () := rfl
theorem ob_3 : x_look 3 x_obiT = some () := rfl
theorem ob_1003 : x_look 1003 x_obiT = some () := rfl
theorem ob_4003 : x_look 4003 x_obiT = some () := rfl
theorem ob_9001 : x_look 9001 x_obiT = some () := rfl
theorem nt_10008 : x_look 10008 x_newT = some 8 := rfl
theorem nt_8007 : x_look 8007 x_newT = some 5 := rfl
theorem nt_8016 : x_look 8016 x_newT = some 3 := rfl
theorem nt_3009 : x_look 3009 x_newT = some 6 := rfl
theorem nt_6009 : x_look 6009 x_newT = some 7 := rfl
theorem nt_6018 : x_look 6018 x_newT = some 2 := rfl
theorem nt_6025 : x_look 6025 x_newT = some 0 := rfl
theorem nt_6032 : x_look 6032 x_newT = some 1 := rfl
theorem nt_6039 : x_look 6039 x_newT = some 4 := rfl
theorem nt_8023 : x_look 8023 x_newT = some 6 := rfl
theorem nt_10154 : x_look 10154 x_newT = some 9 := rfl
theorem i_X2 {β : Nat} (hβ : x_sl β) : ∃ I' L' R', x_Cv X mX2_init [.ref (β + 5)] (I, L, R) (β + 6) (.inl none, (I', L', R'), β + 7) ∧ (∀ q, q < β + 6 ∨ β + 7 ≤ q → I' q = I q ∧ L' q = L q) ∧ (∀ q, q < β + 5 ∨ β + 7 ≤ q → R' q = R q) ∧ I' (β + 6) = y_0 ∧ R' (β + 5) 1 = some (β + 6) := by
  have h5 := sl5 hβ
  show y_Ex X mX2_init 0 [some (.ref (β + 5))] [] ((I, L, R), β + 6, 0, 0) (β + 7) (fun I' L' R' => (∀ q, q < β + 6 ∨ β + 7 ≤ q → I' q = I q ∧ L' q = L q) ∧ (∀ q, q < β + 5 ∨ β + 7 ≤ q → R' q = R q) ∧ I' (β + 6) = y_0 ∧ R' (β + 5) 1 = some (β + 6))
  refine ex_l (fun _ kk => f_aload_n (M := mX2_init) 1 dX2_init_0 rfl rfl kk) ?_
  refine ex_l (fun _ kk => e_obi (M := mX2_init) dX2_init_1 ob_2003 (x_kk rfl) (x_kk rfl) kk) ?_
  refine ex_l (fun _ kk => f_aload_n (M := mX2_init) 5 dX2_init_4 rfl rfl kk) ?_
  refine ex_l (fun _ kk => f_sipush (M := mX2_init) 8 dX2_init_5 ks_180 rfl kk) ?_
  refine ex_l (fun _ kk => e_naN (M := mX2_init) (w := 180) (β + 7) 1 180 dX2_init_8 kn_180 (by decide) rfl rfl rfl (x_kk rfl) (x_kk rfl) (by omega) (sl_shp hβ 6 rfl) kk) ?_
  refine ex_l (fun _ kk => e_putR (M := mX2_init) dX2_init_10 fl_2009 (x_kk rfl) (by omega) (sl_s hβ 5 rfl rfl) (fun _ => ⟨rfl, rfl⟩) kk) ?_
  refine ⟨_, _, _, e_rv (M := mX2_init) dX2_init_13 rfl (x_kk rfl) (x_kk rfl) rfl, ?_⟩
  refine ⟨fun q hq => ⟨?_, ?_⟩, fun q hq => ?_, ?_, ?_⟩
  · repeat (first | rw [x_up_self] | rw [x_up_ne _ _ (by omega)])
  · repeat (first | rw [x_up_self] | rw [x_up_ne _ _ (by omega)])
  · repeat (first | rw [x_up_self] | rw [x_up_ne _ _ (by omega)])
  · repeat (first | rw [x_up_self] | rw [x_up_ne _ _ (by omega)])
  · repeat (first | rw [x_up_self] | rw [x_up_ne _ _ (by omega)])
theorem i_X0 {β : Nat} (hβ : x_sl β) : ∃ I' L' R', x_Cv X mX0_init [.ref (β + 7)] (I, L, R) (β + 8) (.inl none, (I', L', R'), β + 12) ∧ (∀ q, q < β + 7 ∨ β + 12 ≤ q → I' q = I q ∧ L' q = L q) ∧ (∀ q, q < β + 7 ∨ β + 12 ≤ q → R' q = R q) ∧ I' (β + 8) = y_0 ∧ I' (β + 9) = y_0 ∧ I' (β + 10) = y_0 ∧ I' (β + 11) = y_0 ∧ R' (β + 7) 0 = some (β + 8) ∧ R' (β + 7) 1 = some (β + 9) ∧ R' (β + 7) 2 = some (β + 10) ∧ R' (β + 7) 3 = some (β + 11) ∧ I' (β + 7) 4 = I (β + 7) 4 ∧ I' (β + 7) 5 = -1 := by
  have h5 := sl5 hβ
  show y_Ex X mX0_init 0 [some (.ref (β + 7))] [] ((I, L, R), β + 8, 0, 0) (β + 12) (fun I' L' R' => (∀ q, q < β + 7 ∨ β + 12 ≤ q → I' q = I q ∧ L' q = L q) ∧ (∀ q, q < β + 7 ∨ β + 12 ≤ q → R' q = R q) ∧ I' (β + 8) = y_0 ∧ I' (β + 9) = y_0 ∧ I' (β + 10) = y_0 ∧ I' (β + 11) = y_0 ∧ R' (β + 7) 0 = some (β + 8) ∧ R' (β + 7) 1 = some (β + 9) ∧ R' (β + 7) 2 = some (β + 10) ∧ R' (β + 7) 3 = some (β + 11) ∧ I' (β + 7) 4 = I (β + 7) 4 ∧ I' (β + 7) 5 = -1)
  refine ex_l (fun _ kk => f_aload_n (M := mX0_init) 1 dX0_init_0 rfl rfl kk) ?_
  refine ex_l (fun _ kk => e_obi (M := mX0_init) dX0_init_1 ob_3 (x_kk rfl) (x_kk rfl) kk) ?_
  refine ex_l (fun _ kk => f_aload_n (M := mX0_init) 5 dX0_init_4 rfl rfl kk) ?_
  refine ex_l (fun _ kk => f_bipush (M := mX0_init) 7 dX0_init_5 kb_6 rfl kk) ?_
  refine ex_l (fun _ kk => e_naN (M := mX0_init) (w := 6) (β + 9) 1 6 dX0_init_7 kn_6 (by decide) rfl rfl rfl (x_kk rfl) (x_kk rfl) (by omega) (sl_shp hβ 8 rfl) kk) ?_
  refine ex_l (fun _ kk => e_putR (M := mX0_init) dX0_init_9 fl_9 (x_kk rfl) (by omega) (sl_s hβ 7 rfl rfl) (fun _ => ⟨rfl, rfl⟩) kk) ?_
  refine ex_l (fun _ kk => f_aload_n (M := mX0_init) 13 dX0_init_12 rfl rfl kk) ?_
  refine ex_l (fun _ kk => f_bipush (M := mX0_init) 15 dX0_init_13 kb_48 rfl kk) ?_
  refine ex_l (fun _ kk => e_naN (M := mX0_init) (w := 48) (β + 10) 2 54 dX0_init_15 kn_48 (by decide) rfl rfl rfl (x_kk rfl) (x_kk rfl) (by omega) (sl_shp hβ 9 rfl) kk) ?_
  refine ex_l (fun _ kk => e_putR (M := mX0_init) dX0_init_17 fl_15 (x_kk rfl) (by omega) (sl_s hβ 7 rfl rfl) (fun _ => ⟨rfl, rfl⟩) kk) ?_
  refine ex_l (fun _ kk => f_aload_n (M := mX0_init) 21 dX0_init_20 rfl rfl kk) ?_
  refine ex_l (fun _ kk => f_bipush (M := mX0_init) 23 dX0_init_21 kb_8 rfl kk) ?_
  refine ex_l (fun _ kk => e_naN (M := mX0_init) (w := 8) (β + 11) 3 62 dX0_init_23 kn_8 (by decide) rfl rfl rfl (x_kk rfl) (x_kk rfl) (by omega) (sl_shp hβ 10 rfl) kk) ?_
  refine ex_l (fun _ kk => e_putR (M := mX0_init) dX0_init_25 fl_18 (x_kk rfl) (by omega) (sl_s hβ 7 rfl rfl) (fun _ => ⟨rfl, rfl⟩) kk) ?_
  refine ex_l (fun _ kk => f_aload_n (M := mX0_init) 29 dX0_init_28 rfl rfl kk) ?_
  refine ex_l (fun _ kk => f_bipush (M := mX0_init) 31 dX0_init_29 kb_8 rfl kk) ?_
  refine ex_l (fun _ kk => e_naN (M := mX0_init) (w := 8) (β + 12) 4 70 dX0_init_31 kn_8 (by decide) rfl rfl rfl (x_kk rfl) (x_kk rfl) (by omega) (sl_shp hβ 11 rfl) kk) ?_
  refine ex_l (fun _ kk => e_putR (M := mX0_init) dX0_init_33 fl_21 (x_kk rfl) (by omega) (sl_s hβ 7 rfl rfl) (fun _ => ⟨rfl, rfl⟩) kk) ?_
  refine ex_l (fun _ kk => f_aload_n (M := mX0_init) 37 dX0_init_36 rfl rfl kk) ?_
  refine ex_l (fun _ kk => f_iconst (M := mX0_init) 38 dX0_init_37 ki_m1 rfl kk) ?_
  refine ex_l (fun _ kk => e_putI (M := mX0_init) dX0_init_38 fl_24 (x_kk rfl) (by omega) (sl_s hβ 7 rfl rfl) (fun q9 => Bool.noConfusion q9) kk) ?_
  refine ⟨_, _, _, e_rv (M := mX0_init) dX0_init_41 rfl (x_kk rfl) (x_kk rfl) rfl, ?_⟩
  refine ⟨fun q hq => ⟨?_, ?_⟩, fun q hq => ?_, ?_, ?_, ?_, ?_, ?_, ?_, ?_, ?_, ?_, ?_⟩
  · repeat (first | rw [x_up_self] | rw [x_up_ne _ _ (by omega)])
  · repeat (first | rw [x_up_self] | rw [x_up_ne _ _ (by omega)])
  · repeat (first | rw [x_up_self] | rw [x_up_ne _ _ (by omega)])
  · repeat (first | rw [x_up_self] | rw [x_up_ne _ _ (by omega)])
  · repeat (first | rw [x_up_self] | rw [x_up_ne _ _ (by omega)])
  · repeat (first | rw [x_up_self] | rw [x_up_ne _ _ (by omega)])
  · repeat (first | rw [x_up_self] | rw [x_up_ne _ _ (by omega)])
  · repeat (first | rw [x_up_self] | rw [x_up_ne _ _ (by omega)])
  · repeat (first | rw [x_up_self] | rw [x_up_ne _ _ (by omega)])
  · repeat (first | rw [x_up_self] | rw [x_up_ne _ _ (by omega)])
  · repeat (first | rw [x_up_self] | rw [x_up_ne _ _ (by omega)])
  · repeat (first | rw [x_up_self] | rw [x_up_ne _ _ (by omega)])
  · repeat (first | rw [x_up_self] | rw [x_up_ne _ _ (by omega)])
theorem i_X1 {β : Nat} (hβ : x_sl β) : ∃ I' L' R', x_Cv X mX1_init [.ref (β + 12)] (I, L, R) (β + 13) (.inl none, (I', L', R'), β + 17) ∧ (∀ q, q < β + 12 ∨ β + 17 ≤ q → I' q = I q ∧ L' q = L q) ∧ (∀ q, q < β + 12 ∨ β + 17 ≤ q → R' q = R q) ∧ I' (β + 13) = y_0 ∧ I' (β + 14) = y_0 ∧ I' (β + 15) = y_0 ∧ L' (β + 16) = (fun _ => 0) ∧ L' (β + 12) = L (β + 12) ∧ R' (β + 12) 0 = some (β + 13) ∧ R' (β + 12) 1 = some (β + 14) ∧ R' (β + 12) 2 = some (β + 15) ∧ R' (β + 12) 3 = some (β + 16) ∧ I' (β + 12) 5 = I (β + 12) 5 ∧ I' (β + 12) 6 = I (β + 12) 6 := by
  have h5 := sl5 hβ
  show y_Ex X mX1_init 0 [some (.ref (β + 12))] [] ((I, L, R), β + 13, 0, 0) (β + 17) (fun I' L' R' => (∀ q, q < β + 12 ∨ β + 17 ≤ q → I' q = I q ∧ L' q = L q) ∧ (∀ q, q < β + 12 ∨ β + 17 ≤ q → R' q = R q) ∧ I' (β + 13) = y_0 ∧ I' (β + 14) = y_0 ∧ I' (β + 15) = y_0 ∧ L' (β + 16) = (fun _ => 0) ∧ L' (β + 12) = L (β + 12) ∧ R' (β + 12) 0 = some (β + 13) ∧ R' (β + 12) 1 = some (β + 14) ∧ R' (β + 12) 2 = some (β + 15) ∧ R' (β + 12) 3 = some (β + 16) ∧ I' (β + 12) 5 = I (β + 12) 5 ∧ I' (β + 12) 6 = I (β + 12) 6)
  refine ex_l (fun _ kk => f_aload_n (M := mX1_init) 1 dX1_init_0 rfl rfl kk) ?_
  refine ex_l (fun _ kk => e_obi (M := mX1_init) dX1_init_1 ob_1003 (x_kk rfl) (x_kk rfl) kk) ?_
  refine ex_l (fun _ kk => f_aload_n (M := mX1_init) 5 dX1_init_4 rfl rfl kk) ?_
  refine ex_l (fun _ kk => f_bipush (M := mX1_init) 7 dX1_init_5 kb_6 rfl kk) ?_
  refine ex_l (fun _ kk => e_naN (M := mX1_init) (w := 6) (β + 14) 1 6 dX1_init_7 kn_6 (by decide) rfl rfl rfl (x_kk rfl) (x_kk rfl) (by omega) (sl_shp hβ 13 rfl) kk) ?_
  refine ex_l (fun _ kk => e_putR (M := mX1_init) dX1_init_9 fl_1009 (x_kk rfl) (by omega) (sl_s hβ 12 rfl rfl) (fun _ => ⟨rfl, rfl⟩) kk) ?_
  refine ex_l (fun _ kk => f_aload_n (M := mX1_init) 13 dX1_init_12 rfl rfl kk) ?_
  refine ex_l (fun _ kk => f_bipush (M := mX1_init) 15 dX1_init_13 kb_6 rfl kk) ?_
  refine ex_l (fun _ kk => e_naN (M := mX1_init) (w := 6) (β + 15) 2 12 dX1_init_15 kn_6 (by decide) rfl rfl rfl (x_kk rfl) (x_kk rfl) (by omega) (sl_shp hβ 14 rfl) kk) ?_
  refine ex_l (fun _ kk => e_putR (M := mX1_init) dX1_init_17 fl_1015 (x_kk rfl) (by omega) (sl_s hβ 12 rfl rfl) (fun _ => ⟨rfl, rfl⟩) kk) ?_
  refine ex_l (fun _ kk => f_aload_n (M := mX1_init) 21 dX1_init_20 rfl rfl kk) ?_
  refine ex_l (fun _ kk => f_bipush (M := mX1_init) 23 dX1_init_21 kb_72 rfl kk) ?_
  refine ex_l (fun _ kk => e_naN (M := mX1_init) (w := 72) (β + 16) 3 84 dX1_init_23 kn_72 (by decide) rfl rfl rfl (x_kk rfl) (x_kk rfl) (by omega) (sl_shp hβ 15 rfl) kk) ?_
  refine ex_l (fun _ kk => e_putR (M := mX1_init) dX1_init_25 fl_1018 (x_kk rfl) (by omega) (sl_s hβ 12 rfl rfl) (fun _ => ⟨rfl, rfl⟩) kk) ?_
  refine ex_l (fun _ kk => f_aload_n (M := mX1_init) 29 dX1_init_28 rfl rfl kk) ?_
  refine ex_l (fun _ kk => f_bipush (M := mX1_init) 31 dX1_init_29 kb_36 rfl kk) ?_
  refine ex_l (fun _ kk => e_naN (M := mX1_init) (w := 36) (β + 17) 4 120 dX1_init_31 kn_36 (by decide) rfl rfl rfl (x_kk rfl) (x_kk rfl) (by omega) (sl_shp hβ 16 rfl) kk) ?_
  refine ex_l (fun _ kk => e_putR (M := mX1_init) dX1_init_33 fl_1021 (x_kk rfl) (by omega) (sl_s hβ 12 rfl rfl) (fun _ => ⟨rfl, rfl⟩) kk) ?_
  refine ex_l (fun _ kk => f_aload_n (M := mX1_init) 37 dX1_init_36 rfl rfl kk) ?_
  refine ex_l (fun _ kk => f_iconst (M := mX1_init) 38 dX1_init_37 ki_m1 rfl kk) ?_
  refine ex_l (fun _ kk => e_putI (M := mX1_init) dX1_init_38 fl_1025 (x_kk rfl) (by omega) (sl_s hβ 12 rfl rfl) (fun q9 => Bool.noConfusion q9) kk) ?_
  refine ⟨_, _, _, e_rv (M := mX1_init) dX1_init_41 rfl (x_kk rfl) (x_kk rfl) rfl, ?_⟩
  refine ⟨fun q hq => ⟨?_, ?_⟩, fun q hq => ?_, ?_, ?_, ?_, ?_, ?_, ?_, ?_, ?_, ?_, ?_, ?_⟩
  · repeat (first | rw [x_up_self] | rw [x_up_ne _ _ (by omega)])
  · repeat (first | rw [x_up_self] | rw [x_up_ne _ _ (by omega)])
  · repeat (first | rw [x_up_self] | rw [x_up_ne _ _ (by omega)])
  · repeat (first | rw [x_up_self] | rw [x_up_ne _ _ (by omega)])
  · repeat (first | rw [x_up_self] | rw [x_up_ne _ _ (by omega)])
  · repeat (first | rw [x_up_self] | rw [x_up_ne _ _ (by omega)])
  · repeat (first | rw [x_up_self] | rw [x_up_ne _ _ (by omega)])
  · repeat (first | rw [x_up_self] | rw [x_up_ne _ _ (by omega)])
  · repeat (first | rw [x_up_self] | rw [x_up_ne _ _ (by omega)])
  · repeat (first | rw [x_up_self] | rw [x_up_ne _ _ (by omega)])
  · repeat (first | rw [x_up_self] | rw [x_up_ne _ _ (by omega)])
  · repeat (first | rw [x_up_self] | rw [x_up_ne _ _ (by omega)])
  · repeat (first | rw [x_up_self] | rw [x_up_ne _ _ (by omega)])
  · repeat (first | rw [x_up_self] | rw [x_up_ne _ _ (by omega)])
theorem i_X4 {β : Nat} (hβ : x_sl β) : ∃ I' L' R', x_Cv X mX4_init [.ref (β + 17)] (I, L, R) (β + 18) (.inl none, (I', L', R'), β + 22) ∧ (∀ q, q < β + 18 ∨ β + 22 ≤ q → I' q = I q ∧ L' q = L q) ∧ (∀ q, q < β + 17 ∨ β + 22 ≤ q → R' q = R q) ∧ R' (β + 17) 3 = some (β + 18) ∧ R' (β + 17) 4 = some (β + 19) ∧ R' (β + 17) 5 = some (β + 20) ∧ R' (β + 17) 6 = some (β + 21) := by
  have h5 := sl5 hβ
  show y_Ex X mX4_init 0 [some (.ref (β + 17))] [] ((I, L, R), β + 18, 0, 0) (β + 22) (fun I' L' R' => (∀ q, q < β + 18 ∨ β + 22 ≤ q → I' q = I q ∧ L' q = L q) ∧ (∀ q, q < β + 17 ∨ β + 22 ≤ q → R' q = R q) ∧ R' (β + 17) 3 = some (β + 18) ∧ R' (β + 17) 4 = some (β + 19) ∧ R' (β + 17) 5 = some (β + 20) ∧ R' (β + 17) 6 = some (β + 21))
  refine ex_l (fun _ kk => f_aload_n (M := mX4_init) 1 dX4_init_0 rfl rfl kk) ?_
  refine ex_l (fun _ kk => e_obi (M := mX4_init) dX4_init_1 ob_4003 (x_kk rfl) (x_kk rfl) kk) ?_
  refine ex_l (fun _ kk => f_aload_n (M := mX4_init) 5 dX4_init_4 rfl rfl kk) ?_
  refine ex_l (fun _ kk => f_bipush (M := mX4_init) 7 dX4_init_5 kb_60 rfl kk) ?_
  refine ex_l (fun _ kk => e_naN (M := mX4_init) (w := 60) (β + 19) 1 60 dX4_init_7 kn_60 (by decide) rfl rfl rfl (x_kk rfl) (x_kk rfl) (by omega) (sl_shp hβ 18 rfl) kk) ?_
  refine ex_l (fun _ kk => e_putR (M := mX4_init) dX4_init_9 fl_4009 (x_kk rfl) (by omega) (sl_s hβ 17 rfl rfl) (fun _ => ⟨rfl, rfl⟩) kk) ?_
  refine ex_l (fun _ kk => f_aload_n (M := mX4_init) 13 dX4_init_12 rfl rfl kk) ?_
  refine ex_l (fun _ kk => f_bipush (M := mX4_init) 15 dX4_init_13 kb_60 rfl kk) ?_
  refine ex_l (fun _ kk => e_naN (M := mX4_init) (w := 60) (β + 20) 2 120 dX4_init_15 kn_60 (by decide) rfl rfl rfl (x_kk rfl) (x_kk rfl) (by omega) (sl_shp hβ 19 rfl) kk) ?_
  refine ex_l (fun _ kk => e_putR (M := mX4_init) dX4_init_17 fl_4015 (x_kk rfl) (by omega) (sl_s hβ 17 rfl rfl) (fun _ => ⟨rfl, rfl⟩) kk) ?_
  refine ex_l (fun _ kk => f_aload_n (M := mX4_init) 21 dX4_init_20 rfl rfl kk) ?_
  refine ex_l (fun _ kk => f_bipush (M := mX4_init) 23 dX4_init_21 kb_60 rfl kk) ?_
  refine ex_l (fun _ kk => e_naN (M := mX4_init) (w := 60) (β + 21) 3 180 dX4_init_23 kn_60 (by decide) rfl rfl rfl (x_kk rfl) (x_kk rfl) (by omega) (sl_shp hβ 20 rfl) kk) ?_
  refine ex_l (fun _ kk => e_putR (M := mX4_init) dX4_init_25 fl_4018 (x_kk rfl) (by omega) (sl_s hβ 17 rfl rfl) (fun _ => ⟨rfl, rfl⟩) kk) ?_
  refine ex_l (fun _ kk => f_aload_n (M := mX4_init) 29 dX4_init_28 rfl rfl kk) ?_
  refine ex_l (fun _ kk => f_bipush (M := mX4_init) 31 dX4_init_29 kb_60 rfl kk) ?_
  refine ex_l (fun _ kk => e_naN (M := mX4_init) (w := 60) (β + 22) 4 240 dX4_init_31 kn_60 (by decide) rfl rfl rfl (x_kk rfl) (x_kk rfl) (by omega) (sl_shp hβ 21 rfl) kk) ?_
  refine ex_l (fun _ kk => e_putR (M := mX4_init) dX4_init_33 fl_4021 (x_kk rfl) (by omega) (sl_s hβ 17 rfl rfl) (fun _ => ⟨rfl, rfl⟩) kk) ?_
  refine ⟨_, _, _, e_rv (M := mX4_init) dX4_init_36 rfl (x_kk rfl) (x_kk rfl) rfl, ?_⟩
  refine ⟨fun q hq => ⟨?_, ?_⟩, fun q hq => ?_, ?_, ?_, ?_, ?_⟩
  · repeat (first | rw [x_up_self] | rw [x_up_ne _ _ (by omega)])
  · repeat (first | rw [x_up_self] | rw [x_up_ne _ _ (by omega)])
  · repeat (first | rw [x_up_self] | rw [x_up_ne _ _ (by omega)])
  · repeat (first | rw [x_up_self] | rw [x_up_ne _ _ (by omega)])
  · repeat (first | rw [x_up_self] | rw [x_up_ne _ _ (by omega)])
  · repeat (first | rw [x_up_self] | rw [x_up_ne _ _ (by omega)])
  · repeat (first | rw [x_up_self] | rw [x_up_ne _ _ (by omega)])
theorem i_X7 {β : Nat} (hβ : x_sl β) : ∃ I' L' R', x_Cv X mX7_init [.ref (β + 1)] (I, L, R) (β + 2) (.inl none, (I', L', R'), β + 5) ∧ (∀ q, q < β + 2 ∨ β + 5 ≤ q → I' q = I q ∧ L' q = L q) ∧ (∀ q, q < β + 1 ∨ β + 5 ≤ q → R' q = R q) ∧ (∀ i, i < 7 → I' (β + 2) i = x_least i) ∧ I' (β + 3) = y_0 ∧ I' (β + 4) = y_0 ∧ R' (β + 1) 1 = some (β + 2) ∧ R' (β + 1) 2 = some (β + 3) ∧ R' (β + 1) 3 = some (β + 4) := by
  have h5 := sl5 hβ
  show y_Ex X mX7_init 0 [some (.ref (β + 1))] [] ((I, L, R), β + 2, 0, 0) (β + 5) (fun I' L' R' => (∀ q, q < β + 2 ∨ β + 5 ≤ q → I' q = I q ∧ L' q = L q) ∧ (∀ q, q < β + 1 ∨ β + 5 ≤ q → R' q = R q) ∧ (∀ i, i < 7 → I' (β + 2) i = x_least i) ∧ I' (β + 3) = y_0 ∧ I' (β + 4) = y_0 ∧ R' (β + 1) 1 = some (β + 2) ∧ R' (β + 1) 2 = some (β + 3) ∧ R' (β + 1) 3 = some (β + 4))
  refine ex_l (fun _ kk => f_aload_n (M := mX7_init) 1 dX7_init_0 rfl rfl kk) ?_
  refine ex_l (fun _ kk => e_obi (M := mX7_init) dX7_init_1 ob_7003 (x_kk rfl) (x_kk rfl) kk) ?_
  refine ex_l (fun _ kk => f_aload_n (M := mX7_init) 5 dX7_init_4 rfl rfl kk) ?_
  refine ex_l (fun _ kk => f_bipush (M := mX7_init) 7 dX7_init_5 kb_7 rfl kk) ?_
  refine ex_l (fun _ kk => e_naN (M := mX7_init) (w := 7) (β + 3) 1 7 dX7_init_7 kn_7 (by decide) rfl rfl rfl (x_kk rfl) (x_kk rfl) (by omega) (sl_shp hβ 2 rfl) kk) ?_
  refine ex_l (fun _ kk => e_putR (M := mX7_init) dX7_init_9 fl_7009 (x_kk rfl) (by omega) (sl_s hβ 1 rfl rfl) (fun _ => ⟨rfl, rfl⟩) kk) ?_
  refine ex_l (fun _ kk => f_aload_n (M := mX7_init) 13 dX7_init_12 rfl rfl kk) ?_
  refine ex_l (fun _ kk => f_bipush (M := mX7_init) 15 dX7_init_13 kb_6 rfl kk) ?_
  refine ex_l (fun _ kk => e_naN (M := mX7_init) (w := 6) (β + 4) 2 13 dX7_init_15 kn_6 (by decide) rfl rfl rfl (x_kk rfl) (x_kk rfl) (by omega) (sl_shp hβ 3 rfl) kk) ?_
  refine ex_l (fun _ kk => e_putR (M := mX7_init) dX7_init_17 fl_7015 (x_kk rfl) (by omega) (sl_s hβ 1 rfl rfl) (fun _ => ⟨rfl, rfl⟩) kk) ?_
  refine ex_l (fun _ kk => f_aload_n (M := mX7_init) 21 dX7_init_20 rfl rfl kk) ?_
  refine ex_l (fun _ kk => f_bipush (M := mX7_init) 23 dX7_init_21 kb_6 rfl kk) ?_
  refine ex_l (fun _ kk => e_naN (M := mX7_init) (w := 6) (β + 5) 3 19 dX7_init_23 kn_6 (by decide) rfl rfl rfl (x_kk rfl) (x_kk rfl) (by omega) (sl_shp hβ 4 rfl) kk) ?_
  refine ex_l (fun _ kk => e_putR (M := mX7_init) dX7_init_25 fl_7018 (x_kk rfl) (by omega) (sl_s hβ 1 rfl rfl) (fun _ => ⟨rfl, rfl⟩) kk) ?_
  refine ex_l (fun _ kk => e_sta (M := mX7_init) dX7_init_28 (x_kk rfl) sa_7021 kk) ?_
  refine ex_l (fun _ kk => f_aload_n (M := mX7_init) 32 dX7_init_31 rfl rfl kk) ?_
  refine ex_l (fun _ kk => e_getR (M := mX7_init) dX7_init_32 fl_7009 (x_kk rfl) (by omega) (sl_s hβ 1 rfl rfl) (by repeat (first | rw [x_up_self] | rw [x_up_ne _ _ (by omega)])) kk) ?_
  refine ex_l (fun _ kk => e_cS (M := mX7_init) [] 3 19 dX7_init_35 pa_7024 cc_7024 rfl rfl rfl rfl rfl (x_kk rfl) (x_kk rfl) rfl (n_copyL (by omega) (by omega) (sl_shp hβ 2 rfl)) rfl kk) ?_
  refine ⟨_, _, _, e_rv (M := mX7_init) dX7_init_38 rfl (x_kk rfl) (x_kk rfl) rfl, ?_⟩
  refine ⟨fun q hq => ⟨?_, ?_⟩, fun q hq => ?_, ?_, ?_, ?_, ?_, ?_, ?_⟩
  · repeat (first | rw [x_up_self] | rw [x_up_ne _ _ (by omega)])
  · repeat (first | rw [x_up_self] | rw [x_up_ne _ _ (by omega)])
  · repeat (first | rw [x_up_self] | rw [x_up_ne _ _ (by omega)])
  · intro i hi; rw [x_up_self]; unfold va_cpy; rw [if_pos (by omega)]; congr 1; omega
  · repeat (first | rw [x_up_self] | rw [x_up_ne _ _ (by omega)])
  · repeat (first | rw [x_up_self] | rw [x_up_ne _ _ (by omega)])
  · repeat (first | rw [x_up_self] | rw [x_up_ne _ _ (by omega)])
  · repeat (first | rw [x_up_self] | rw [x_up_ne _ _ (by omega)])
  · repeat (first | rw [x_up_self] | rw [x_up_ne _ _ (by omega)])
def y_i : Nat → Int32 := va_up (va_up y_0 1 2) 2 1
theorem yi_7 : ∀ i, i < 7 → x_least i = y_i (1 + i) := by decide
theorem yi_0 {j : Nat} (h : 3 ≤ j ∨ j = 0) : y_i j = 0 := by
  unfold y_i
  rw [x_up_ne _ _ (by omega), x_up_ne _ _ (by omega)]
def y_wb (R : Nat → Nat → Option Nat) (β : Nat) : Prop := R (β + 7) 0 = some (β + 8) ∧ R (β + 7) 1 = some (β + 9) ∧ R (β + 7) 2 = some (β + 10) ∧ R (β + 7) 3 = some (β + 11) ∧ R (β + 12) 0 = some (β + 13) ∧ R (β + 12) 1 = some (β + 14) ∧ R (β + 12) 2 = some (β + 15) ∧ R (β + 12) 3 = some (β + 16) ∧ R (β + 5) 1 = some (β + 6) ∧ R (β + 17) 3 = some (β + 18) ∧ R (β + 17) 4 = some (β + 19) ∧ R (β + 17) 5 = some (β + 20) ∧ R (β + 17) 6 = some (β + 21) ∧ R (β + 0) 1 = some (β + 1) ∧ R (β + 0) 2 = some (β + 5) ∧ R (β + 0) 3 = some (β + 7) ∧ R (β + 0) 4 = some (β + 12) ∧ R (β + 0) 5 = some (β + 17) ∧ R (β + 1) 1 = some (β + 2) ∧ R (β + 1) 2 = some (β + 3) ∧ R (β + 1) 3 = some (β + 4)
theorem i_X6 {β : Nat} (hβ : x_sl β) : ∃ I' L' R', x_Cv X mX6_init [.ref β] (I, L, R) (β + 1) (.inl none, (I', L', R'), β + 22) ∧ (∀ q, q < β + 1 ∨ β + 22 ≤ q → I' q = I q ∧ L' q = L q) ∧ (∀ q, q < β ∨ β + 22 ≤ q → R' q = R q) ∧ y_wb R' β ∧ (I β 0 = 0 → y_Rep I' L' β y_i (fun _ => 0)) := by
  have h5 := sl5 hβ
  obtain ⟨I1, L1, R1, k1, a1, b1, c1, c2, c3, d1, d2, d3⟩ := i_X7 (X := X) (I := va_up I (β + 1) (fun _ => 0)) (L := va_up L (β + 1) (fun _ => 0)) (R := va_up R (β + 1) (fun _ => none)) hβ
  obtain ⟨I2, L2, R2, k2, a2, b2, c6, d4⟩ := i_X2 (X := X) (I := va_up I1 (β + 5) (fun _ => 0)) (L := va_up L1 (β + 5) (fun _ => 0)) (R := va_up (va_up R1 β (va_up (R1 β) 1 (some (β + 1)))) (β + 5) (fun _ => none)) hβ
  obtain ⟨I3, L3, R3, k3, a3, b3, c8, c9, c10, c11, d5, d6, d7, d8, x4, x5⟩ := i_X0 (X := X) (I := va_up I2 (β + 7) (fun _ => 0)) (L := va_up L2 (β + 7) (fun _ => 0)) (R := va_up (va_up R2 β (va_up (R2 β) 2 (some (β + 5)))) (β + 7) (fun _ => none)) hβ
  obtain ⟨I4, L4, R4, k4, a4, b4, c13, c14, c15, l16, l12, d9, d10, d11, d12, x12, x13⟩ := i_X1 (X := X) (I := va_up I3 (β + 12) (fun _ => 0)) (L := va_up L3 (β + 12) (fun _ => 0)) (R := va_up (va_up R3 β (va_up (R3 β) 3 (some (β + 7)))) (β + 12) (fun _ => none)) hβ
  obtain ⟨I5, L5, R5, k5, a5, b5, d13, d14, d15, d16⟩ := i_X4 (X := X) (I := va_up I4 (β + 17) (fun _ => 0)) (L := va_up L4 (β + 17) (fun _ => 0)) (R := va_up (va_up R4 β (va_up (R4 β) 4 (some (β + 12)))) (β + 17) (fun _ => none)) hβ
  show y_Ex X mX6_init 0 [some (.ref β)] [] ((I, L, R), β + 1, 0, 0) (β + 22) (fun I' L' R' => (∀ q, q < β + 1 ∨ β + 22 ≤ q → I' q = I q ∧ L' q = L q) ∧ (∀ q, q < β ∨ β + 22 ≤ q → R' q = R q) ∧ y_wb R' β ∧ (I β 0 = 0 → y_Rep I' L' β y_i (fun _ => 0)))
  refine ex_l (fun _ kk => f_aload_n (M := mX6_init) 1 dX6_init_0 rfl rfl kk) ?_
  refine ex_l (fun _ kk => e_obi (M := mX6_init) dX6_init_1 ob_6003 (x_kk rfl) (x_kk rfl) kk) ?_
  refine ex_l (fun _ kk => f_aload_n (M := mX6_init) 5 dX6_init_4 rfl rfl kk) ?_
  refine ex_l (fun _ kk => e_newN (M := mX6_init) (w := 4) (β + 2) 1 4 dX6_init_5 (x_kk rfl) nt_6009 rfl rfl rfl rfl (x_kk rfl) (x_kk rfl) (by omega) (sl_s hβ 1 rfl rfl) kk) ?_
  refine ex_l (fun _ kk => f_dup (M := mX6_init) 9 dX6_init_8 rfl rfl kk) ?_
  refine ex_l (fun _ kk => e_cI (M := mX6_init) [_, _] 4 23 dX6_init_9 pa_6011 cc_6011 rfl rfl rfl rfl rfl (x_kk rfl) (x_kk rfl) rfl (k1) rfl kk) ?_
  refine ex_l (fun _ kk => e_putR (M := mX6_init) dX6_init_12 fl_6012 (x_kk rfl) (by omega) (sl_s hβ 0 rfl rfl) (fun _ => ⟨rfl, rfl⟩) kk) ?_
  refine ex_l (fun _ kk => f_aload_n (M := mX6_init) 16 dX6_init_15 rfl rfl kk) ?_
  refine ex_l (fun _ kk => e_newN (M := mX6_init) (w := 2) (β + 6) 5 25 dX6_init_16 (x_kk rfl) nt_6018 rfl rfl rfl rfl (x_kk rfl) (x_kk rfl) (by omega) (sl_s hβ 5 rfl rfl) kk) ?_
  refine ex_l (fun _ kk => f_dup (M := mX6_init) 20 dX6_init_19 rfl rfl kk) ?_
  refine ex_l (fun _ kk => e_cI (M := mX6_init) [_, _] 6 205 dX6_init_20 pa_6020 cc_6020 rfl rfl rfl rfl rfl (x_kk rfl) (x_kk rfl) rfl (k2) rfl kk) ?_
  refine ex_l (fun _ kk => e_putR (M := mX6_init) dX6_init_23 fl_6021 (x_kk rfl) (by omega) (sl_s hβ 0 rfl rfl) (fun _ => ⟨rfl, rfl⟩) kk) ?_
  refine ex_l (fun _ kk => f_aload_n (M := mX6_init) 27 dX6_init_26 rfl rfl kk) ?_
  refine ex_l (fun _ kk => e_newN (M := mX6_init) (w := 6) (β + 8) 7 211 dX6_init_27 (x_kk rfl) nt_6025 rfl rfl rfl rfl (x_kk rfl) (x_kk rfl) (by omega) (sl_s hβ 7 rfl rfl) kk) ?_
  refine ex_l (fun _ kk => f_dup (M := mX6_init) 31 dX6_init_30 rfl rfl kk) ?_
  refine ex_l (fun _ kk => e_cI (M := mX6_init) [_, _] 11 281 dX6_init_31 pa_6027 cc_6027 rfl rfl rfl rfl rfl (x_kk rfl) (x_kk rfl) rfl (k3) rfl kk) ?_
  refine ex_l (fun _ kk => e_putR (M := mX6_init) dX6_init_34 fl_6028 (x_kk rfl) (by omega) (sl_s hβ 0 rfl rfl) (fun _ => ⟨rfl, rfl⟩) kk) ?_
  refine ex_l (fun _ kk => f_aload_n (M := mX6_init) 38 dX6_init_37 rfl rfl kk) ?_
  refine ex_l (fun _ kk => e_newN (M := mX6_init) (w := 8) (β + 13) 12 289 dX6_init_38 (x_kk rfl) nt_6032 rfl rfl rfl rfl (x_kk rfl) (x_kk rfl) (by omega) (sl_s hβ 12 rfl rfl) kk) ?_
  refine ex_l (fun _ kk => f_dup (M := mX6_init) 42 dX6_init_41 rfl rfl kk) ?_
  refine ex_l (fun _ kk => e_cI (M := mX6_init) [_, _] 16 409 dX6_init_42 pa_6034 cc_6034 rfl rfl rfl rfl rfl (x_kk rfl) (x_kk rfl) rfl (k4) rfl kk) ?_
  refine ex_l (fun _ kk => e_putR (M := mX6_init) dX6_init_45 fl_6035 (x_kk rfl) (by omega) (sl_s hβ 0 rfl rfl) (fun _ => ⟨rfl, rfl⟩) kk) ?_
  refine ex_l (fun _ kk => f_aload_n (M := mX6_init) 49 dX6_init_48 rfl rfl kk) ?_
  refine ex_l (fun _ kk => e_newN (M := mX6_init) (w := 7) (β + 18) 17 416 dX6_init_49 (x_kk rfl) nt_6039 rfl rfl rfl rfl (x_kk rfl) (x_kk rfl) (by omega) (sl_s hβ 17 rfl rfl) kk) ?_
  refine ex_l (fun _ kk => f_dup (M := mX6_init) 53 dX6_init_52 rfl rfl kk) ?_
  refine ex_l (fun _ kk => e_cI (M := mX6_init) [_, _] 21 656 dX6_init_53 pa_6041 cc_6041 rfl rfl rfl rfl rfl (x_kk rfl) (x_kk rfl) rfl (k5) rfl kk) ?_
  refine ex_l (fun _ kk => e_putR (M := mX6_init) dX6_init_56 fl_6042 (x_kk rfl) (by omega) (sl_s hβ 0 rfl rfl) (fun _ => ⟨rfl, rfl⟩) kk) ?_
  refine ⟨_, _, _, e_rv (M := mX6_init) dX6_init_59 rfl (x_kk rfl) (x_kk rfl) rfl, ?_⟩
  refine ⟨fun q hq => ⟨?_, ?_⟩, fun q hq => ?_, ?_, fun h0 => ?_⟩
  · repeat (first | rw [x_up_self] | rw [x_up_ne _ _ (by omega)] | rw [(a5 _ (by omega)).1] | rw [(a4 _ (by omega)).1] | rw [(a3 _ (by omega)).1] | rw [(a2 _ (by omega)).1] | rw [(a1 _ (by omega)).1])
  · repeat (first | rw [x_up_self] | rw [x_up_ne _ _ (by omega)] | rw [(a5 _ (by omega)).2] | rw [(a4 _ (by omega)).2] | rw [(a3 _ (by omega)).2] | rw [(a2 _ (by omega)).2] | rw [(a1 _ (by omega)).2])
  · repeat (first | rw [x_up_self] | rw [x_up_ne _ _ (by omega)] | rw [b5 _ (by omega)] | rw [b4 _ (by omega)] | rw [b3 _ (by omega)] | rw [b2 _ (by omega)] | rw [b1 _ (by omega)])
  · refine ⟨?_, ?_, ?_, ?_, ?_, ?_, ?_, ?_, ?_, ?_, ?_, ?_, ?_, ?_, ?_, ?_, ?_, ?_, ?_, ?_, ?_⟩
    · (repeat (first | rw [x_up_self] | rw [x_up_ne _ _ (by omega)] | rw [b5 _ (by omega)] | rw [b4 _ (by omega)] | rw [b3 _ (by omega)] | rw [b2 _ (by omega)] | rw [b1 _ (by omega)])); exact d5
    · (repeat (first | rw [x_up_self] | rw [x_up_ne _ _ (by omega)] | rw [b5 _ (by omega)] | rw [b4 _ (by omega)] | rw [b3 _ (by omega)] | rw [b2 _ (by omega)] | rw [b1 _ (by omega)])); exact d6
    · (repeat (first | rw [x_up_self] | rw [x_up_ne _ _ (by omega)] | rw [b5 _ (by omega)] | rw [b4 _ (by omega)] | rw [b3 _ (by omega)] | rw [b2 _ (by omega)] | rw [b1 _ (by omega)])); exact d7
    · (repeat (first | rw [x_up_self] | rw [x_up_ne _ _ (by omega)] | rw [b5 _ (by omega)] | rw [b4 _ (by omega)] | rw [b3 _ (by omega)] | rw [b2 _ (by omega)] | rw [b1 _ (by omega)])); exact d8
    · (repeat (first | rw [x_up_self] | rw [x_up_ne _ _ (by omega)] | rw [b5 _ (by omega)] | rw [b4 _ (by omega)] | rw [b3 _ (by omega)] | rw [b2 _ (by omega)] | rw [b1 _ (by omega)])); exact d9
    · (repeat (first | rw [x_up_self] | rw [x_up_ne _ _ (by omega)] | rw [b5 _ (by omega)] | rw [b4 _ (by omega)] | rw [b3 _ (by omega)] | rw [b2 _ (by omega)] | rw [b1 _ (by omega)])); exact d10
    · (repeat (first | rw [x_up_self] | rw [x_up_ne _ _ (by omega)] | rw [b5 _ (by omega)] | rw [b4 _ (by omega)] | rw [b3 _ (by omega)] | rw [b2 _ (by omega)] | rw [b1 _ (by omega)])); exact d11
    · (repeat (first | rw [x_up_self] | rw [x_up_ne _ _ (by omega)] | rw [b5 _ (by omega)] | rw [b4 _ (by omega)] | rw [b3 _ (by omega)] | rw [b2 _ (by omega)] | rw [b1 _ (by omega)])); exact d12
    · (repeat (first | rw [x_up_self] | rw [x_up_ne _ _ (by omega)] | rw [b5 _ (by omega)] | rw [b4 _ (by omega)] | rw [b3 _ (by omega)] | rw [b2 _ (by omega)] | rw [b1 _ (by omega)])); exact d4
    · rw [x_up_ne _ _ (by omega)]; exact d13
    · rw [x_up_ne _ _ (by omega)]; exact d14
    · rw [x_up_ne _ _ (by omega)]; exact d15
    · rw [x_up_ne _ _ (by omega)]; exact d16
    · show _ = _; simp only [Nat.add_zero]; repeat (first | rw [x_up_self] | rw [x_up_ne _ _ (by omega)] | rw [b5 _ (by omega)] | rw [b4 _ (by omega)] | rw [b3 _ (by omega)] | rw [b2 _ (by omega)] | rw [b1 _ (by omega)])
    · show _ = _; simp only [Nat.add_zero]; repeat (first | rw [x_up_self] | rw [x_up_ne _ _ (by omega)] | rw [b5 _ (by omega)] | rw [b4 _ (by omega)] | rw [b3 _ (by omega)] | rw [b2 _ (by omega)] | rw [b1 _ (by omega)])
    · show _ = _; simp only [Nat.add_zero]; repeat (first | rw [x_up_self] | rw [x_up_ne _ _ (by omega)] | rw [b5 _ (by omega)] | rw [b4 _ (by omega)] | rw [b3 _ (by omega)] | rw [b2 _ (by omega)] | rw [b1 _ (by omega)])
    · show _ = _; simp only [Nat.add_zero]; repeat (first | rw [x_up_self] | rw [x_up_ne _ _ (by omega)] | rw [b5 _ (by omega)] | rw [b4 _ (by omega)] | rw [b3 _ (by omega)] | rw [b2 _ (by omega)] | rw [b1 _ (by omega)])
    · show _ = _; simp only [Nat.add_zero]; repeat (first | rw [x_up_self] | rw [x_up_ne _ _ (by omega)] | rw [b5 _ (by omega)] | rw [b4 _ (by omega)] | rw [b3 _ (by omega)] | rw [b2 _ (by omega)] | rw [b1 _ (by omega)])
    · (repeat (first | rw [x_up_self] | rw [x_up_ne _ _ (by omega)] | rw [b5 _ (by omega)] | rw [b4 _ (by omega)] | rw [b3 _ (by omega)] | rw [b2 _ (by omega)] | rw [b1 _ (by omega)])); exact d1
    · (repeat (first | rw [x_up_self] | rw [x_up_ne _ _ (by omega)] | rw [b5 _ (by omega)] | rw [b4 _ (by omega)] | rw [b3 _ (by omega)] | rw [b2 _ (by omega)] | rw [b1 _ (by omega)])); exact d2
    · (repeat (first | rw [x_up_self] | rw [x_up_ne _ _ (by omega)] | rw [b5 _ (by omega)] | rw [b4 _ (by omega)] | rw [b3 _ (by omega)] | rw [b2 _ (by omega)] | rw [b1 _ (by omega)])); exact d3
  · have n3 : ¬ (3 : Int32) ≤ y_i 0 := by decide
    have n6 : ¬ (6 : Int32) ≤ y_i 0 := by decide
    have z14 : (y_i 14).toNatClampNeg = 0 := by decide
    refine ⟨?_, ⟨?_, fun i hi => ?_, fun s hs => ?_, fun s hs => ?_⟩, ⟨?_, fun j hj => ?_⟩, ⟨fun s hs => ?_, fun q hq s hs => ?_, fun q hq => ?_, fun q hq => ?_, ?_, ?_⟩, ⟨fun z => absurd z n3, fun s hs => ?_, fun s hs q hq => ?_, fun z => absurd z n3, ?_, ?_, fun m hm => ?_, ?_⟩, ⟨?_, fun k hk => ?_, ?_, ?_⟩⟩
    · (repeat (first | rw [x_up_self] | rw [x_up_ne _ _ (by omega)] | rw [(a5 _ (by omega)).1] | rw [(a4 _ (by omega)).1] | rw [(a3 _ (by omega)).1] | rw [(a2 _ (by omega)).1] | rw [(a1 _ (by omega)).1])); exact h0
    · have e : I5 (β + 1) = y_0 := by (repeat (first | rw [x_up_self] | rw [x_up_ne _ _ (by omega)] | rw [(a5 _ (by omega)).1] | rw [(a4 _ (by omega)).1] | rw [(a3 _ (by omega)).1] | rw [(a2 _ (by omega)).1] | rw [(a1 _ (by omega)).1]))
      rw [e]; exact (yi_0 (by omega)).symm
    · (repeat (first | rw [x_up_self] | rw [x_up_ne _ _ (by omega)] | rw [(a5 _ (by omega)).1] | rw [(a4 _ (by omega)).1] | rw [(a3 _ (by omega)).1] | rw [(a2 _ (by omega)).1] | rw [(a1 _ (by omega)).1])); rw [c1 i hi]; exact yi_7 i hi
    · (repeat (first | rw [x_up_self] | rw [x_up_ne _ _ (by omega)] | rw [(a5 _ (by omega)).1] | rw [(a4 _ (by omega)).1] | rw [(a3 _ (by omega)).1] | rw [(a2 _ (by omega)).1] | rw [(a1 _ (by omega)).1])); rw [c2]; exact (yi_0 (by omega)).symm
    · (repeat (first | rw [x_up_self] | rw [x_up_ne _ _ (by omega)] | rw [(a5 _ (by omega)).1] | rw [(a4 _ (by omega)).1] | rw [(a3 _ (by omega)).1] | rw [(a2 _ (by omega)).1] | rw [(a1 _ (by omega)).1])); rw [c3]; exact (yi_0 (by omega)).symm
    · have e : I5 (β + 5) = y_0 := by (repeat (first | rw [x_up_self] | rw [x_up_ne _ _ (by omega)] | rw [(a5 _ (by omega)).1] | rw [(a4 _ (by omega)).1] | rw [(a3 _ (by omega)).1] | rw [(a2 _ (by omega)).1] | rw [(a1 _ (by omega)).1]))
      rw [e]; exact (yi_0 (by omega)).symm
    · (repeat (first | rw [x_up_self] | rw [x_up_ne _ _ (by omega)] | rw [(a5 _ (by omega)).1] | rw [(a4 _ (by omega)).1] | rw [(a3 _ (by omega)).1] | rw [(a2 _ (by omega)).1] | rw [(a1 _ (by omega)).1])); rw [c6]; exact (yi_0 (by omega)).symm
    · unfold sp_vol; rw [if_neg n6]; (repeat (first | rw [x_up_self] | rw [x_up_ne _ _ (by omega)] | rw [(a5 _ (by omega)).1] | rw [(a4 _ (by omega)).1] | rw [(a3 _ (by omega)).1] | rw [(a2 _ (by omega)).1] | rw [(a1 _ (by omega)).1])); rw [c8]; exact (yi_0 (by omega)).symm
    · (repeat (first | rw [x_up_self] | rw [x_up_ne _ _ (by omega)] | rw [(a5 _ (by omega)).1] | rw [(a4 _ (by omega)).1] | rw [(a3 _ (by omega)).1] | rw [(a2 _ (by omega)).1] | rw [(a1 _ (by omega)).1])); rw [c9]; exact (yi_0 (by omega)).symm
    · (repeat (first | rw [x_up_self] | rw [x_up_ne _ _ (by omega)] | rw [(a5 _ (by omega)).1] | rw [(a4 _ (by omega)).1] | rw [(a3 _ (by omega)).1] | rw [(a2 _ (by omega)).1] | rw [(a1 _ (by omega)).1])); rw [c10]; exact (yi_0 (by omega)).symm
    · (repeat (first | rw [x_up_self] | rw [x_up_ne _ _ (by omega)] | rw [(a5 _ (by omega)).1] | rw [(a4 _ (by omega)).1] | rw [(a3 _ (by omega)).1] | rw [(a2 _ (by omega)).1] | rw [(a1 _ (by omega)).1])); rw [c11]; exact (yi_0 (by omega)).symm
    · have e : I5 (β + 7) 4 = 0 := by
        have e2 : I5 (β + 7) = I3 (β + 7) := by (repeat (first | rw [x_up_self] | rw [x_up_ne _ _ (by omega)] | rw [(a5 _ (by omega)).1] | rw [(a4 _ (by omega)).1] | rw [(a3 _ (by omega)).1] | rw [(a2 _ (by omega)).1] | rw [(a1 _ (by omega)).1]))
        rw [e2, x4, x_up_self]
      rw [e]; exact (yi_0 (by omega)).symm
    · have e2 : I5 (β + 7) = I3 (β + 7) := by (repeat (first | rw [x_up_self] | rw [x_up_ne _ _ (by omega)] | rw [(a5 _ (by omega)).1] | rw [(a4 _ (by omega)).1] | rw [(a3 _ (by omega)).1] | rw [(a2 _ (by omega)).1] | rw [(a1 _ (by omega)).1]))
      rw [e2, x5, if_neg n6]
    · (repeat (first | rw [x_up_self] | rw [x_up_ne _ _ (by omega)] | rw [(a5 _ (by omega)).1] | rw [(a4 _ (by omega)).1] | rw [(a3 _ (by omega)).1] | rw [(a2 _ (by omega)).1] | rw [(a1 _ (by omega)).1])); rw [c14]; exact (yi_0 (by omega)).symm
    · (repeat (first | rw [x_up_self] | rw [x_up_ne _ _ (by omega)] | rw [(a5 _ (by omega)).1] | rw [(a4 _ (by omega)).1] | rw [(a3 _ (by omega)).1] | rw [(a2 _ (by omega)).1] | rw [(a1 _ (by omega)).1])); rw [c15]; exact (yi_0 (by omega)).symm
    · have e2 : I5 (β + 12) = I4 (β + 12) := by (repeat (first | rw [x_up_self] | rw [x_up_ne _ _ (by omega)] | rw [(a5 _ (by omega)).1] | rw [(a4 _ (by omega)).1] | rw [(a3 _ (by omega)).1] | rw [(a2 _ (by omega)).1] | rw [(a1 _ (by omega)).1]))
      rw [e2, x12, x_up_self]; exact (yi_0 (by omega)).symm
    · have e2 : I5 (β + 12) = I4 (β + 12) := by (repeat (first | rw [x_up_self] | rw [x_up_ne _ _ (by omega)] | rw [(a5 _ (by omega)).1] | rw [(a4 _ (by omega)).1] | rw [(a3 _ (by omega)).1] | rw [(a2 _ (by omega)).1] | rw [(a1 _ (by omega)).1]))
      rw [e2, x13, x_up_self]; exact (yi_0 (by omega)).symm
    · have e2 : L5 (β + 16) = L4 (β + 16) := by (repeat (first | rw [x_up_self] | rw [x_up_ne _ _ (by omega)] | rw [(a5 _ (by omega)).2] | rw [(a4 _ (by omega)).2] | rw [(a3 _ (by omega)).2] | rw [(a2 _ (by omega)).2] | rw [(a1 _ (by omega)).2]))
      rw [e2, l16]
    · have e2 : L5 (β + 12) = L4 (β + 12) := by (repeat (first | rw [x_up_self] | rw [x_up_ne _ _ (by omega)] | rw [(a5 _ (by omega)).2] | rw [(a4 _ (by omega)).2] | rw [(a3 _ (by omega)).2] | rw [(a2 _ (by omega)).2] | rw [(a1 _ (by omega)).2]))
      rw [e2, l12, x_up_self]
    · have e : I5 (β + 17) = y_0 := by (repeat (first | rw [x_up_self] | rw [x_up_ne _ _ (by omega)] | rw [(a5 _ (by omega)).1] | rw [(a4 _ (by omega)).1] | rw [(a3 _ (by omega)).1] | rw [(a2 _ (by omega)).1] | rw [(a1 _ (by omega)).1]))
      rw [e]; exact (yi_0 (by omega)).symm
    · rw [z14] at hk; exact absurd hk (Nat.not_lt_zero _)
    · have e : I5 (β + 17) = y_0 := by (repeat (first | rw [x_up_self] | rw [x_up_ne _ _ (by omega)] | rw [(a5 _ (by omega)).1] | rw [(a4 _ (by omega)).1] | rw [(a3 _ (by omega)).1] | rw [(a2 _ (by omega)).1] | rw [(a1 _ (by omega)).1]))
      rw [e, z14]; decide
    · have e : I5 (β + 17) = y_0 := by (repeat (first | rw [x_up_self] | rw [x_up_ne _ _ (by omega)] | rw [(a5 _ (by omega)).1] | rw [(a4 _ (by omega)).1] | rw [(a3 _ (by omega)).1] | rw [(a2 _ (by omega)).1] | rw [(a1 _ (by omega)).1]))
      rw [e, z14]; decide
end

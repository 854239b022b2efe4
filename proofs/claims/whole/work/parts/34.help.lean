/-! ===== helpers of the walks ===== -/
/-- a sale's first cell -/
def x_sl (β : Nat) : Prop := ∃ j, j < 10 ∧ β = 5 + 22 * j
theorem sl_lt {β : Nat} (h : x_sl β) (i : Nat) (hi : Nat.blt i 22 = true) : β + i < 233 := by
  obtain ⟨j, hj, rfl⟩ := h
  have : i < 22 := Nat.lt_of_lt_of_le (Nat.le_of_ble_eq_true hi) (Nat.le_refl _)
  omega
theorem sl_shp {β : Nat} (h : x_sl β) (i : Nat) (hi : Nat.blt i 22 = true) : x_shp (β + i) = x_shS.getD i (99, 0) := by
  obtain ⟨j, hj, rfl⟩ := h
  have h1 : i < 22 := Nat.lt_of_lt_of_le (Nat.le_of_ble_eq_true hi) (Nat.le_refl _)
  unfold x_shp
  rw [if_neg (by omega), if_pos (by omega)]
  have h2 : (5 + 22 * j + i - 5) % 22 = i := by omega
  rw [h2]
theorem sl_s {β : Nat} (h : x_sl β) (i : Nat) (hi : Nat.blt i 22 = true) {c : Nat} (hc : (x_shS.getD i (99, 0)).1 = c) : (x_shp (β + i)).1 = c := by
  rw [sl_shp h i hi]
  exact hc
theorem x_kk {a b : Nat} (h : Nat.ble a b = true) : a ≤ b := Nat.le_of_ble_eq_true h
/-! an int that is a number -/
theorem ix_add {a b : Int32} {j k : Nat} (h : a = Int32.ofNat j) (g : b = Int32.ofNat k) : a + b = Int32.ofNat (j + k) := by
  rw [h, g, Int32.ofNat_add]
theorem ix_mul {a b : Int32} {j k : Nat} (h : a = Int32.ofNat j) (g : b = Int32.ofNat k) : a * b = Int32.ofNat (j * k) := by
  rw [h, g, Int32.ofNat_mul]
theorem ix_sub {a b : Int32} {j k : Nat} (h : a = Int32.ofNat j) (g : b = Int32.ofNat k) (hk : k ≤ j) : a - b = Int32.ofNat (j - k) := by
  rw [h, g]
  have e : Int32.ofNat j = Int32.ofNat (j - k) + Int32.ofNat k := by rw [← Int32.ofNat_add, Nat.sub_add_cancel hk]
  rw [e, Int32.add_sub_cancel]
theorem n_lt {a b : Nat} (ha : a < 1000000000) (hb : b < 1000000000) : (Int32.ofNat a < Int32.ofNat b) ↔ a < b := by
  rw [Int32.lt_iff_toInt_lt, Int32.toInt_ofNat_of_lt (by omega), Int32.toInt_ofNat_of_lt (by omega)]
  omega
theorem n_le {a b : Nat} (ha : a < 1000000000) (hb : b < 1000000000) : (Int32.ofNat a ≤ Int32.ofNat b) ↔ a ≤ b := by
  rw [Int32.le_iff_toInt_le, Int32.toInt_ofNat_of_lt (by omega), Int32.toInt_ofNat_of_lt (by omega)]
  omega
theorem n_eq {a b : Nat} (ha : a < 1000000000) (hb : b < 1000000000) : (Int32.ofNat a = Int32.ofNat b) ↔ a = b := by
  constructor
  · intro h
    have h2 := congrArg Int32.toInt h
    rw [Int32.toInt_ofNat_of_lt (by omega), Int32.toInt_ofNat_of_lt (by omega)] at h2
    omega
  · intro h; rw [h]
/-- an int between 0 and b is a number -/
theorem n_of {x : Int32} {b : Nat} (hb : b < 1000000000) (h0 : (0 : Int32) ≤ x) (h1 : x < Int32.ofNat b) : ∃ s, s < b ∧ x = Int32.ofNat s := by
  rw [Int32.le_iff_toInt_le] at h0
  rw [Int32.lt_iff_toInt_lt, Int32.toInt_ofNat_of_lt (by omega)] at h1
  have h0' : (0 : Int) ≤ x.toInt := h0
  refine ⟨x.toInt.toNat, by omega, ?_⟩
  apply Int32.toInt_inj.mp
  rw [Int32.toInt_ofNat_of_lt (by omega)]
  omega
section
variable {X : x_X} {M : x_MI} {pc len : Nat} {ls ls' : x_Ls} {st st' : List Value} {S S' : x_S} {r : x_O × x_Mem × Nat} {i : Instr}
theorem e_st (pc' : Nat) (hd : decode (x_mb M) pc = .ok (i, len)) (hl : x_lenOK i len = true) (hs : x_step X M i len pc ls st S = some (.inl (pc', ls', st', S'))) (k : x_Ev X M pc' ls' st' S' r) : x_Ev X M pc ls st S r := e_step hd hl hs k
end
section
variable {X : x_X} {M : x_MI} {pc : Nat} {ls : x_Ls} {st : List Value} {μ : x_Mem} {n c k : Nat} {r : x_O × x_Mem × Nat}
theorem x_rcvOK {N : x_MI} {S : x_S} {q : Nat} {as : List Value} {d : Nat} (hr : q < S.2.1) (hs : (x_shp q).1 = d) (hd : Nat.beq d (10 + x_mo N) = true) : x_rcv 0 N S (.ref q :: as) = true := by
  show (decide (q < S.2.1) && Nat.beq (x_shp q).1 (10 + x_mo N)) = true
  rw [Bool.and_eq_true]
  refine ⟨decide_eq_true hr, ?_⟩
  rw [hs]
  exact hd
end
section
variable {X : x_X} {M : x_MI} {pc : Nat} {ls : x_Ls} {st : List Value} {I : Nat → Nat → Int32} {L : Nat → Nat → Int64} {R : Nat → Nat → Option Nat} {n c k : Nat} {r : x_O × x_Mem × Nat}
/-- what a call asks, but for the room -/
def x_ccB (M N : x_MI) (kd q na idx : Nat) (st as rest : List Value) : Bool := Nat.beq kd (x_qk q) && Nat.ble na st.length && Nat.ble (x_cats rest) 8 && Nat.blt (x_lv N) (x_lv M) && Nat.blt idx 1000 && Nat.ble (x_av as).length (x_ml N)
theorem x_ccOK {N : x_MI} {kd q na idx : Nat} {S : x_S} {as rest : List Value} {c' k' : Nat} (hB : x_ccB M N kd q na idx st as rest = true) (ha : (st.take na).reverse = as) (hr : st.drop na = rest) (hcc : S.2.2.1 + x_mc N = c') (hkk : S.2.2.2 + x_ms N = k') (hc : c' ≤ x_mc M) (hk : k' ≤ x_ms M) (hrc : x_rcv q N S as = true) : kd = x_qk q ∧ na ≤ st.length ∧ x_cats (st.drop na) ≤ 8 ∧ x_lv N < x_lv M ∧ S.2.2.1 + x_mc N ≤ x_mc M ∧ S.2.2.2 + x_ms N ≤ x_ms M ∧ idx < 1000 ∧ (x_av (st.take na).reverse).length ≤ x_ml N ∧ x_rcv q N S (st.take na).reverse = true := by
  unfold x_ccB at hB
  simp only [Bool.and_eq_true] at hB
  obtain ⟨⟨⟨⟨⟨h1, h2⟩, h3⟩, h4⟩, h5⟩, h6⟩ := hB
  rw [ha, hr, hcc, hkk]
  exact ⟨Nat.eq_of_beq_eq_true h1, Nat.le_of_ble_eq_true h2, Nat.le_of_ble_eq_true h3, Nat.le_of_ble_eq_true h4, hc, hk, Nat.le_of_ble_eq_true h5, Nat.le_of_ble_eq_true h6, hrc⟩
theorem e_cV {idx q na n' : Nat} {N : x_MI} {v : Option Value} {μ' : x_Mem} {as rest : List Value} (st2 : List Value) (c' k' : Nat) (hd : decode (x_mb M) pc = .ok (.invokevirtual idx, 3)) (hp1 : x_look (x_key M idx) x_slnT = none) (hp2 : x_look (x_key M idx) x_schT = none) (hcal : x_cal M (x_key M idx) = some (q, N, na)) (hB : x_ccB M N 0 q na idx st as rest = true) (ha : (st.take na).reverse = as) (hr : st.drop na = rest) (hcc : c + x_mc N = c') (hkk : k + x_ms N = k') (hc : c' ≤ x_mc M) (hk : k' ≤ x_ms M) (hrc : x_rcv q N ((I, L, R), n, c, k) as = true) (h0 : x_Cv X N as (I, L, R) n (.inl v, μ', n')) (hst : v.toList ++ rest = st2) (kk : x_Ev X M (pc + 3) ls st2 (μ', n', c', k') r) : x_Ev X M pc ls st ((I, L, R), n, c, k) r := by
  have hcnd := x_ccOK (S := ((I, L, R), n, c, k)) hB ha hr hcc hkk hc hk hrc
  subst ha hr hcc hkk hst
  exact e_invV hd hp1 hp2 hcal hcnd h0 kk
theorem e_cVX {idx q na n' E : Nat} {N : x_MI} {μ' : x_Mem} {as rest : List Value} (c' k' : Nat) (hd : decode (x_mb M) pc = .ok (.invokevirtual idx, 3)) (hp1 : x_look (x_key M idx) x_slnT = none) (hp2 : x_look (x_key M idx) x_schT = none) (hcal : x_cal M (x_key M idx) = some (q, N, na)) (hB : x_ccB M N 0 q na idx st as rest = true) (ha : (st.take na).reverse = as) (hr : st.drop na = rest) (hcc : c + x_mc N = c') (hkk : k + x_ms N = k') (hc : c' ≤ x_mc M) (hk : k' ≤ x_ms M) (hrc : x_rcv q N ((I, L, R), n, c, k) as = true) (h0 : x_Cv X N as (I, L, R) n (.inr E, μ', n')) (kk : x_exc M pc E (μ', n', c', k') = some r) : x_Ev X M pc ls st ((I, L, R), n, c, k) r := by
  have hcnd := x_ccOK (S := ((I, L, R), n, c, k)) hB ha hr hcc hkk hc hk hrc
  subst ha hr hcc hkk
  exact e_invVX hd hp1 hp2 hcal hcnd h0 kk
theorem e_cS {idx q na n' : Nat} {N : x_MI} {v : Option Value} {μ' : x_Mem} {as rest : List Value} (st2 : List Value) (c' k' : Nat) (hd : decode (x_mb M) pc = .ok (.invokestatic idx, 3)) (hp1 : x_look (x_key M idx) x_cpyT = none) (hcal : x_cal M (x_key M idx) = some (q, N, na)) (hB : x_ccB M N 1 q na idx st as rest = true) (ha : (st.take na).reverse = as) (hr : st.drop na = rest) (hcc : c + x_mc N = c') (hkk : k + x_ms N = k') (hc : c' ≤ x_mc M) (hk : k' ≤ x_ms M) (hrc : x_rcv q N ((I, L, R), n, c, k) as = true) (h0 : x_Cv X N as (I, L, R) n (.inl v, μ', n')) (hst : v.toList ++ rest = st2) (kk : x_Ev X M (pc + 3) ls st2 (μ', n', c', k') r) : x_Ev X M pc ls st ((I, L, R), n, c, k) r := by
  have hcnd := x_ccOK (S := ((I, L, R), n, c, k)) hB ha hr hcc hkk hc hk hrc
  subst ha hr hcc hkk hst
  exact e_invS hd hp1 hcal hcnd h0 kk
theorem e_cSX {idx q na n' E : Nat} {N : x_MI} {μ' : x_Mem} {as rest : List Value} (c' k' : Nat) (hd : decode (x_mb M) pc = .ok (.invokestatic idx, 3)) (hp1 : x_look (x_key M idx) x_cpyT = none) (hcal : x_cal M (x_key M idx) = some (q, N, na)) (hB : x_ccB M N 1 q na idx st as rest = true) (ha : (st.take na).reverse = as) (hr : st.drop na = rest) (hcc : c + x_mc N = c') (hkk : k + x_ms N = k') (hc : c' ≤ x_mc M) (hk : k' ≤ x_ms M) (hrc : x_rcv q N ((I, L, R), n, c, k) as = true) (h0 : x_Cv X N as (I, L, R) n (.inr E, μ', n')) (kk : x_exc M pc E (μ', n', c', k') = some r) : x_Ev X M pc ls st ((I, L, R), n, c, k) r := by
  have hcnd := x_ccOK (S := ((I, L, R), n, c, k)) hB ha hr hcc hkk hc hk hrc
  subst ha hr hcc hkk
  exact e_invSX hd hp1 hcal hcnd h0 kk
theorem e_cI {idx q na n' : Nat} {N : x_MI} {v : Option Value} {μ' : x_Mem} {as rest : List Value} (st2 : List Value) (c' k' : Nat) (hd : decode (x_mb M) pc = .ok (.invokespecial idx, 3)) (hp1 : x_look (x_key M idx) x_obiT = none) (hcal : x_cal M (x_key M idx) = some (q, N, na)) (hB : x_ccB M N 2 q na idx st as rest = true) (ha : (st.take na).reverse = as) (hr : st.drop na = rest) (hcc : c + x_mc N = c') (hkk : k + x_ms N = k') (hc : c' ≤ x_mc M) (hk : k' ≤ x_ms M) (hrc : x_rcv q N ((I, L, R), n, c, k) as = true) (h0 : x_Cv X N as (I, L, R) n (.inl v, μ', n')) (hst : v.toList ++ rest = st2) (kk : x_Ev X M (pc + 3) ls st2 (μ', n', c', k') r) : x_Ev X M pc ls st ((I, L, R), n, c, k) r := by
  have hcnd := x_ccOK (S := ((I, L, R), n, c, k)) hB ha hr hcc hkk hc hk hrc
  subst ha hr hcc hkk hst
  exact e_invI hd hp1 hcal hcnd h0 kk
theorem e_cIX {idx q na n' E : Nat} {N : x_MI} {μ' : x_Mem} {as rest : List Value} (c' k' : Nat) (hd : decode (x_mb M) pc = .ok (.invokespecial idx, 3)) (hp1 : x_look (x_key M idx) x_obiT = none) (hcal : x_cal M (x_key M idx) = some (q, N, na)) (hB : x_ccB M N 2 q na idx st as rest = true) (ha : (st.take na).reverse = as) (hr : st.drop na = rest) (hcc : c + x_mc N = c') (hkk : k + x_ms N = k') (hc : c' ≤ x_mc M) (hk : k' ≤ x_ms M) (hrc : x_rcv q N ((I, L, R), n, c, k) as = true) (h0 : x_Cv X N as (I, L, R) n (.inr E, μ', n')) (kk : x_exc M pc E (μ', n', c', k') = some r) : x_Ev X M pc ls st ((I, L, R), n, c, k) r := by
  have hcnd := x_ccOK (S := ((I, L, R), n, c, k)) hB ha hr hcc hkk hc hk hrc
  subst ha hr hcc hkk
  exact e_invIX hd hp1 hcal hcnd h0 kk
theorem e_if_eqT {x : Int32} {off : Int} (t : Nat) (hd : decode (x_mb M) pc = .ok (.ifCond .eq off, 3)) (ht : x_jm pc off = some t) (hc : x = 0) (k1 : x_Ev X M t ls st ((I, L, R), n, c, k) r) : x_Ev X M pc ls (.int x :: st) ((I, L, R), n, c, k) r := e_if_eq hd ht (fun _ => k1) (fun q9 => absurd hc q9)
theorem e_if_eqF {x : Int32} {off : Int} (t : Nat) (hd : decode (x_mb M) pc = .ok (.ifCond .eq off, 3)) (ht : x_jm pc off = some t) (hc : ¬ (x = 0)) (k2 : x_Ev X M (pc + 3) ls st ((I, L, R), n, c, k) r) : x_Ev X M pc ls (.int x :: st) ((I, L, R), n, c, k) r := e_if_eq hd ht (fun q9 => absurd q9 hc) (fun _ => k2)
theorem e_if_neT {x : Int32} {off : Int} (t : Nat) (hd : decode (x_mb M) pc = .ok (.ifCond .ne off, 3)) (ht : x_jm pc off = some t) (hc : ¬ x = 0) (k1 : x_Ev X M t ls st ((I, L, R), n, c, k) r) : x_Ev X M pc ls (.int x :: st) ((I, L, R), n, c, k) r := e_if_ne hd ht (fun _ => k1) (fun q9 => absurd hc q9)
theorem e_if_neF {x : Int32} {off : Int} (t : Nat) (hd : decode (x_mb M) pc = .ok (.ifCond .ne off, 3)) (ht : x_jm pc off = some t) (hc : ¬ (¬ x = 0)) (k2 : x_Ev X M (pc + 3) ls st ((I, L, R), n, c, k) r) : x_Ev X M pc ls (.int x :: st) ((I, L, R), n, c, k) r := e_if_ne hd ht (fun q9 => absurd q9 hc) (fun _ => k2)
theorem e_if_ltT {x : Int32} {off : Int} (t : Nat) (hd : decode (x_mb M) pc = .ok (.ifCond .lt off, 3)) (ht : x_jm pc off = some t) (hc : x < 0) (k1 : x_Ev X M t ls st ((I, L, R), n, c, k) r) : x_Ev X M pc ls (.int x :: st) ((I, L, R), n, c, k) r := e_if_lt hd ht (fun _ => k1) (fun q9 => absurd hc q9)
theorem e_if_ltF {x : Int32} {off : Int} (t : Nat) (hd : decode (x_mb M) pc = .ok (.ifCond .lt off, 3)) (ht : x_jm pc off = some t) (hc : ¬ (x < 0)) (k2 : x_Ev X M (pc + 3) ls st ((I, L, R), n, c, k) r) : x_Ev X M pc ls (.int x :: st) ((I, L, R), n, c, k) r := e_if_lt hd ht (fun q9 => absurd q9 hc) (fun _ => k2)
theorem e_if_geT {x : Int32} {off : Int} (t : Nat) (hd : decode (x_mb M) pc = .ok (.ifCond .ge off, 3)) (ht : x_jm pc off = some t) (hc : (0 : Int32) ≤ x) (k1 : x_Ev X M t ls st ((I, L, R), n, c, k) r) : x_Ev X M pc ls (.int x :: st) ((I, L, R), n, c, k) r := e_if_ge hd ht (fun _ => k1) (fun q9 => absurd hc q9)
theorem e_if_geF {x : Int32} {off : Int} (t : Nat) (hd : decode (x_mb M) pc = .ok (.ifCond .ge off, 3)) (ht : x_jm pc off = some t) (hc : ¬ ((0 : Int32) ≤ x)) (k2 : x_Ev X M (pc + 3) ls st ((I, L, R), n, c, k) r) : x_Ev X M pc ls (.int x :: st) ((I, L, R), n, c, k) r := e_if_ge hd ht (fun q9 => absurd q9 hc) (fun _ => k2)
theorem e_if_gtT {x : Int32} {off : Int} (t : Nat) (hd : decode (x_mb M) pc = .ok (.ifCond .gt off, 3)) (ht : x_jm pc off = some t) (hc : (0 : Int32) < x) (k1 : x_Ev X M t ls st ((I, L, R), n, c, k) r) : x_Ev X M pc ls (.int x :: st) ((I, L, R), n, c, k) r := e_if_gt hd ht (fun _ => k1) (fun q9 => absurd hc q9)
theorem e_if_gtF {x : Int32} {off : Int} (t : Nat) (hd : decode (x_mb M) pc = .ok (.ifCond .gt off, 3)) (ht : x_jm pc off = some t) (hc : ¬ ((0 : Int32) < x)) (k2 : x_Ev X M (pc + 3) ls st ((I, L, R), n, c, k) r) : x_Ev X M pc ls (.int x :: st) ((I, L, R), n, c, k) r := e_if_gt hd ht (fun q9 => absurd q9 hc) (fun _ => k2)
theorem e_if_leT {x : Int32} {off : Int} (t : Nat) (hd : decode (x_mb M) pc = .ok (.ifCond .le off, 3)) (ht : x_jm pc off = some t) (hc : x ≤ 0) (k1 : x_Ev X M t ls st ((I, L, R), n, c, k) r) : x_Ev X M pc ls (.int x :: st) ((I, L, R), n, c, k) r := e_if_le hd ht (fun _ => k1) (fun q9 => absurd hc q9)
theorem e_if_leF {x : Int32} {off : Int} (t : Nat) (hd : decode (x_mb M) pc = .ok (.ifCond .le off, 3)) (ht : x_jm pc off = some t) (hc : ¬ (x ≤ 0)) (k2 : x_Ev X M (pc + 3) ls st ((I, L, R), n, c, k) r) : x_Ev X M pc ls (.int x :: st) ((I, L, R), n, c, k) r := e_if_le hd ht (fun q9 => absurd q9 hc) (fun _ => k2)
theorem e_icmp_eqT {x y : Int32} {off : Int} (t : Nat) (hd : decode (x_mb M) pc = .ok (.if_icmp .eq off, 3)) (ht : x_jm pc off = some t) (hc : x = y) (k1 : x_Ev X M t ls st ((I, L, R), n, c, k) r) : x_Ev X M pc ls (.int y :: .int x :: st) ((I, L, R), n, c, k) r := e_icmp_eq hd ht (fun _ => k1) (fun q9 => absurd hc q9)
theorem e_icmp_eqF {x y : Int32} {off : Int} (t : Nat) (hd : decode (x_mb M) pc = .ok (.if_icmp .eq off, 3)) (ht : x_jm pc off = some t) (hc : ¬ (x = y)) (k2 : x_Ev X M (pc + 3) ls st ((I, L, R), n, c, k) r) : x_Ev X M pc ls (.int y :: .int x :: st) ((I, L, R), n, c, k) r := e_icmp_eq hd ht (fun q9 => absurd q9 hc) (fun _ => k2)
theorem e_icmp_neT {x y : Int32} {off : Int} (t : Nat) (hd : decode (x_mb M) pc = .ok (.if_icmp .ne off, 3)) (ht : x_jm pc off = some t) (hc : ¬ x = y) (k1 : x_Ev X M t ls st ((I, L, R), n, c, k) r) : x_Ev X M pc ls (.int y :: .int x :: st) ((I, L, R), n, c, k) r := e_icmp_ne hd ht (fun _ => k1) (fun q9 => absurd hc q9)
theorem e_icmp_neF {x y : Int32} {off : Int} (t : Nat) (hd : decode (x_mb M) pc = .ok (.if_icmp .ne off, 3)) (ht : x_jm pc off = some t) (hc : ¬ (¬ x = y)) (k2 : x_Ev X M (pc + 3) ls st ((I, L, R), n, c, k) r) : x_Ev X M pc ls (.int y :: .int x :: st) ((I, L, R), n, c, k) r := e_icmp_ne hd ht (fun q9 => absurd q9 hc) (fun _ => k2)
theorem e_icmp_ltT {x y : Int32} {off : Int} (t : Nat) (hd : decode (x_mb M) pc = .ok (.if_icmp .lt off, 3)) (ht : x_jm pc off = some t) (hc : x < y) (k1 : x_Ev X M t ls st ((I, L, R), n, c, k) r) : x_Ev X M pc ls (.int y :: .int x :: st) ((I, L, R), n, c, k) r := e_icmp_lt hd ht (fun _ => k1) (fun q9 => absurd hc q9)
theorem e_icmp_ltF {x y : Int32} {off : Int} (t : Nat) (hd : decode (x_mb M) pc = .ok (.if_icmp .lt off, 3)) (ht : x_jm pc off = some t) (hc : ¬ (x < y)) (k2 : x_Ev X M (pc + 3) ls st ((I, L, R), n, c, k) r) : x_Ev X M pc ls (.int y :: .int x :: st) ((I, L, R), n, c, k) r := e_icmp_lt hd ht (fun q9 => absurd q9 hc) (fun _ => k2)
theorem e_icmp_geT {x y : Int32} {off : Int} (t : Nat) (hd : decode (x_mb M) pc = .ok (.if_icmp .ge off, 3)) (ht : x_jm pc off = some t) (hc : y ≤ x) (k1 : x_Ev X M t ls st ((I, L, R), n, c, k) r) : x_Ev X M pc ls (.int y :: .int x :: st) ((I, L, R), n, c, k) r := e_icmp_ge hd ht (fun _ => k1) (fun q9 => absurd hc q9)
theorem e_icmp_geF {x y : Int32} {off : Int} (t : Nat) (hd : decode (x_mb M) pc = .ok (.if_icmp .ge off, 3)) (ht : x_jm pc off = some t) (hc : ¬ (y ≤ x)) (k2 : x_Ev X M (pc + 3) ls st ((I, L, R), n, c, k) r) : x_Ev X M pc ls (.int y :: .int x :: st) ((I, L, R), n, c, k) r := e_icmp_ge hd ht (fun q9 => absurd q9 hc) (fun _ => k2)
theorem e_icmp_gtT {x y : Int32} {off : Int} (t : Nat) (hd : decode (x_mb M) pc = .ok (.if_icmp .gt off, 3)) (ht : x_jm pc off = some t) (hc : y < x) (k1 : x_Ev X M t ls st ((I, L, R), n, c, k) r) : x_Ev X M pc ls (.int y :: .int x :: st) ((I, L, R), n, c, k) r := e_icmp_gt hd ht (fun _ => k1) (fun q9 => absurd hc q9)
theorem e_icmp_gtF {x y : Int32} {off : Int} (t : Nat) (hd : decode (x_mb M) pc = .ok (.if_icmp .gt off, 3)) (ht : x_jm pc off = some t) (hc : ¬ (y < x)) (k2 : x_Ev X M (pc + 3) ls st ((I, L, R), n, c, k) r) : x_Ev X M pc ls (.int y :: .int x :: st) ((I, L, R), n, c, k) r := e_icmp_gt hd ht (fun q9 => absurd q9 hc) (fun _ => k2)
theorem e_icmp_leT {x y : Int32} {off : Int} (t : Nat) (hd : decode (x_mb M) pc = .ok (.if_icmp .le off, 3)) (ht : x_jm pc off = some t) (hc : x ≤ y) (k1 : x_Ev X M t ls st ((I, L, R), n, c, k) r) : x_Ev X M pc ls (.int y :: .int x :: st) ((I, L, R), n, c, k) r := e_icmp_le hd ht (fun _ => k1) (fun q9 => absurd hc q9)
theorem e_icmp_leF {x y : Int32} {off : Int} (t : Nat) (hd : decode (x_mb M) pc = .ok (.if_icmp .le off, 3)) (ht : x_jm pc off = some t) (hc : ¬ (x ≤ y)) (k2 : x_Ev X M (pc + 3) ls st ((I, L, R), n, c, k) r) : x_Ev X M pc ls (.int y :: .int x :: st) ((I, L, R), n, c, k) r := e_icmp_le hd ht (fun q9 => absurd q9 hc) (fun _ => k2)
end

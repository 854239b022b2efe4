/-! ===== rows of the interpreter, goal first (laid by wip/whole/gen_rows.py) ===== -/
section
variable {X : x_X} {M : x_MI} {pc : Nat} {ls : x_Ls} {st : List Value} {I : Nat → Nat → Int32} {L : Nat → Nat → Int64} {R : Nat → Nat → Option Nat} {n c k : Nat} {r : x_O × x_Mem × Nat}
theorem e_getI {idx ci j q : Nat} {fin : Bool} (hd : decode (x_mb M) pc = .ok (.getfield idx, 3)) (hf : x_look (x_key M idx) x_fldT = some (ci, j, 0, fin)) (hk : idx < 1000) (hr : q < n) (hs : (x_shp q).1 = 10 + ci) (kk : x_Ev X M (pc + 3) ls (.int (I q j) :: st) ((I, L, R), n, c, k) r) : x_Ev X M pc ls (.ref q :: st) ((I, L, R), n, c, k) r := by
  refine e_step hd rfl ?_ kk
  unfold x_step
  dsimp only
  rw [hf]
  dsimp only
  rw [if_pos ⟨hr, hs, hk⟩]
  rfl
theorem e_getL {idx ci j q : Nat} {fin : Bool} (hd : decode (x_mb M) pc = .ok (.getfield idx, 3)) (hf : x_look (x_key M idx) x_fldT = some (ci, j, 1, fin)) (hk : idx < 1000) (hr : q < n) (hs : (x_shp q).1 = 10 + ci) (kk : x_Ev X M (pc + 3) ls (.long (L q j) :: st) ((I, L, R), n, c, k) r) : x_Ev X M pc ls (.ref q :: st) ((I, L, R), n, c, k) r := by
  refine e_step hd rfl ?_ kk
  unfold x_step
  dsimp only
  rw [hf]
  dsimp only
  rw [if_pos ⟨hr, hs, hk⟩]
  rfl
theorem e_getR {idx ci j q v : Nat} {fin : Bool} (hd : decode (x_mb M) pc = .ok (.getfield idx, 3)) (hf : x_look (x_key M idx) x_fldT = some (ci, j, 2, fin)) (hk : idx < 1000) (hr : q < n) (hs : (x_shp q).1 = 10 + ci) (hv : R q j = some v) (kk : x_Ev X M (pc + 3) ls (.ref v :: st) ((I, L, R), n, c, k) r) : x_Ev X M pc ls (.ref q :: st) ((I, L, R), n, c, k) r := by
  refine e_step hd rfl ?_ kk
  unfold x_step
  dsimp only
  rw [hf]
  dsimp only
  rw [if_pos ⟨hr, hs, hk⟩]
  unfold x_fv
  dsimp only
  rw [hv]
  rfl
theorem e_putI {idx ci j q : Nat} {fin : Bool} {v : Int32} (hd : decode (x_mb M) pc = .ok (.putfield idx, 3)) (hf : x_look (x_key M idx) x_fldT = some (ci, j, 0, fin)) (hk : idx < 1000) (hr : q < n) (hs : (x_shp q).1 = 10 + ci) (hi : fin = true → x_isIni M = true ∧ x_mo M = ci) (kk : x_Ev X M (pc + 3) ls (st) ((va_up I q (va_up (I q) j v), L, R), n, c, k) r) : x_Ev X M pc ls (.int v :: .ref q :: st) ((I, L, R), n, c, k) r := by
  refine e_step hd rfl ?_ kk
  unfold x_step
  dsimp only
  rw [hf]
  dsimp only
  rw [if_pos ⟨hr, hs, hk, hi⟩]
  rfl
theorem e_putL {idx ci j q : Nat} {fin : Bool} {v : Int64} (hd : decode (x_mb M) pc = .ok (.putfield idx, 3)) (hf : x_look (x_key M idx) x_fldT = some (ci, j, 1, fin)) (hk : idx < 1000) (hr : q < n) (hs : (x_shp q).1 = 10 + ci) (hi : fin = true → x_isIni M = true ∧ x_mo M = ci) (kk : x_Ev X M (pc + 3) ls (st) ((I, va_up L q (va_up (L q) j v), R), n, c, k) r) : x_Ev X M pc ls (.long v :: .ref q :: st) ((I, L, R), n, c, k) r := by
  refine e_step hd rfl ?_ kk
  unfold x_step
  dsimp only
  rw [hf]
  dsimp only
  rw [if_pos ⟨hr, hs, hk, hi⟩]
  rfl
theorem e_putR {idx ci j q : Nat} {fin : Bool} {v : Nat} (hd : decode (x_mb M) pc = .ok (.putfield idx, 3)) (hf : x_look (x_key M idx) x_fldT = some (ci, j, 2, fin)) (hk : idx < 1000) (hr : q < n) (hs : (x_shp q).1 = 10 + ci) (hi : fin = true → x_isIni M = true ∧ x_mo M = ci) (kk : x_Ev X M (pc + 3) ls (st) ((I, L, va_up R q (va_up (R q) j (some v))), n, c, k) r) : x_Ev X M pc ls (.ref v :: .ref q :: st) ((I, L, R), n, c, k) r := by
  refine e_step hd rfl ?_ kk
  unfold x_step
  dsimp only
  rw [hf]
  dsimp only
  rw [if_pos ⟨hr, hs, hk, hi⟩]
  rfl
theorem e_alen {q w : Nat} (hd : decode (x_mb M) pc = .ok (.arraylength, 1)) (hl : x_len X ((I, L, R), n, c, k) q = some w) (kk : x_Ev X M (pc + 1) ls (.int (Int32.ofNat w) :: st) ((I, L, R), n, c, k) r) : x_Ev X M pc ls (.ref q :: st) ((I, L, R), n, c, k) r := by
  refine e_step hd rfl ?_ kk
  unfold x_step
  dsimp only
  rw [hl]
  rfl
theorem e_iald {q : Nat} {j : Int32} {w : Nat × (Nat → Int32)} (hd : decode (x_mb M) pc = .ok (.iaload, 1)) (ha : x_arr X ((I, L, R), n, c, k) q = some w) (hj : ¬ (j < 0 ∨ w.1 ≤ j.toNatClampNeg)) (kk : x_Ev X M (pc + 1) ls (.int (w.2 j.toNatClampNeg) :: st) ((I, L, R), n, c, k) r) : x_Ev X M pc ls (.int j :: .ref q :: st) ((I, L, R), n, c, k) r := by
  refine e_step hd rfl ?_ kk
  unfold x_step
  dsimp only
  rw [ha]
  dsimp only
  rw [if_neg hj]
  rfl
theorem x_arr_own {s : x_S} {q : Nat} (hr : q < s.2.1) (hs : (x_shp q).1 = 1) : x_arr X s q = some ((x_shp q).2, s.1.1 q) := by
  unfold x_arr
  simp only [if_pos hr, hs]
theorem x_arr_for {s : x_S} {q : Nat} (hr : ¬ q < s.2.1) : x_arr X s q = x_for X q := by
  unfold x_arr
  rw [if_neg hr]
theorem x_len_own {s : x_S} {q : Nat} (hr : q < s.2.1) (hs : (x_shp q).1 < 4) : x_len X s q = some (x_shp q).2 := by
  unfold x_len
  rw [if_pos hr, if_pos hs]
theorem x_len_for {s : x_S} {q : Nat} {w : Nat × (Nat → Int32)} (hr : ¬ q < s.2.1) (hw : x_for X q = some w) : x_len X s q = some w.1 := by
  unfold x_len
  rw [if_neg hr, hw]
  rfl
theorem x_own_ok {s : x_S} {d q : Nat} (hr : q < s.2.1) (hs : (x_shp q).1 = d) : x_own_arr s d q = true := by
  unfold x_own_arr
  rw [Bool.and_eq_true]
  refine ⟨decide_eq_true hr, ?_⟩
  rw [hs]
  exact Nat.beq_refl d
theorem e_ild {q w j : Nat} (hd : decode (x_mb M) pc = .ok (.iaload, 1)) (hr : q < n) (hs : x_shp q = (1, w)) {i : Int32} (hi : i = Int32.ofNat j) (hj : j < w) (hw : w < 10000) (kk : x_Ev X M (pc + 1) ls (.int (I q j) :: st) ((I, L, R), n, c, k) r) : x_Ev X M pc ls (.int i :: .ref q :: st) ((I, L, R), n, c, k) r := by
  have e1 : i.toNatClampNeg = j := by rw [hi]; exact Int32.toNatClampNeg_ofNat_of_lt (by omega)
  have e2 : ¬ i < 0 := by rw [hi, Int32.lt_iff_toInt_lt, Int32.toInt_ofNat_of_lt (by omega)]; simp
  have h3 := e_iald (X := X) (M := M) (ls := ls) (st := st) (c := c) (k := k) (r := r) hd (x_arr_own (s := ((I, L, R), n, c, k)) hr (by rw [hs])) (j := i) (by rw [hs, e1]; intro q9; rcases q9 with q9 | q9; exact e2 q9; exact absurd hj (Nat.not_lt.mpr q9))
  rw [e1] at h3
  exact h3 kk
theorem e_ist {q w j : Nat} {v : Int32} (hd : decode (x_mb M) pc = .ok (.iastore, 1)) (hr : q < n) (hs : x_shp q = (1, w)) {i : Int32} (hi : i = Int32.ofNat j) (hj : j < w) (hw : w < 10000) (kk : x_Ev X M (pc + 1) ls (st) ((va_up I q (va_up (I q) j v), L, R), n, c, k) r) : x_Ev X M pc ls (.int v :: .int i :: .ref q :: st) ((I, L, R), n, c, k) r := by
  have e1 : i.toNatClampNeg = j := by rw [hi]; exact Int32.toNatClampNeg_ofNat_of_lt (by omega)
  have e2 : ¬ i < 0 := by rw [hi, Int32.lt_iff_toInt_lt, Int32.toInt_ofNat_of_lt (by omega)]; simp
  refine e_step hd rfl ?_ kk
  unfold x_step
  dsimp only
  rw [if_pos (x_own_ok (s := ((I, L, R), n, c, k)) hr (by rw [hs])), if_neg (by rw [hs, e1]; intro q9; rcases q9 with q9 | q9; exact e2 q9; exact absurd hj (Nat.not_lt.mpr q9)), e1]
  rfl
theorem e_bld {q w j : Nat} (hd : decode (x_mb M) pc = .ok (.baload, 1)) (hr : q < n) (hs : x_shp q = (0, w)) {i : Int32} (hi : i = Int32.ofNat j) (hj : j < w) (hw : w < 10000) (kk : x_Ev X M (pc + 1) ls (.int (I q j) :: st) ((I, L, R), n, c, k) r) : x_Ev X M pc ls (.int i :: .ref q :: st) ((I, L, R), n, c, k) r := by
  have e1 : i.toNatClampNeg = j := by rw [hi]; exact Int32.toNatClampNeg_ofNat_of_lt (by omega)
  have e2 : ¬ i < 0 := by rw [hi, Int32.lt_iff_toInt_lt, Int32.toInt_ofNat_of_lt (by omega)]; simp
  refine e_step hd rfl ?_ kk
  unfold x_step
  dsimp only
  rw [if_pos (x_own_ok (s := ((I, L, R), n, c, k)) hr (by rw [hs])), if_neg (by rw [hs, e1]; intro q9; rcases q9 with q9 | q9; exact e2 q9; exact absurd hj (Nat.not_lt.mpr q9)), e1]
  rfl
theorem e_bst {q w j : Nat} {v : Int32} (hd : decode (x_mb M) pc = .ok (.bastore, 1)) (hr : q < n) (hs : x_shp q = (0, w)) {i : Int32} (hi : i = Int32.ofNat j) (hj : j < w) (hw : w < 10000) (kk : x_Ev X M (pc + 1) ls (st) ((va_up I q (va_up (I q) j (vp_nar .byte v)), L, R), n, c, k) r) : x_Ev X M pc ls (.int v :: .int i :: .ref q :: st) ((I, L, R), n, c, k) r := by
  have e1 : i.toNatClampNeg = j := by rw [hi]; exact Int32.toNatClampNeg_ofNat_of_lt (by omega)
  have e2 : ¬ i < 0 := by rw [hi, Int32.lt_iff_toInt_lt, Int32.toInt_ofNat_of_lt (by omega)]; simp
  refine e_step hd rfl ?_ kk
  unfold x_step
  dsimp only
  rw [if_pos (x_own_ok (s := ((I, L, R), n, c, k)) hr (by rw [hs])), if_neg (by rw [hs, e1]; intro q9; rcases q9 with q9 | q9; exact e2 q9; exact absurd hj (Nat.not_lt.mpr q9)), e1]
  rfl
theorem e_lld {q w j : Nat} (hd : decode (x_mb M) pc = .ok (.laload, 1)) (hr : q < n) (hs : x_shp q = (2, w)) {i : Int32} (hi : i = Int32.ofNat j) (hj : j < w) (hw : w < 10000) (kk : x_Ev X M (pc + 1) ls (.long (L q j) :: st) ((I, L, R), n, c, k) r) : x_Ev X M pc ls (.int i :: .ref q :: st) ((I, L, R), n, c, k) r := by
  have e1 : i.toNatClampNeg = j := by rw [hi]; exact Int32.toNatClampNeg_ofNat_of_lt (by omega)
  have e2 : ¬ i < 0 := by rw [hi, Int32.lt_iff_toInt_lt, Int32.toInt_ofNat_of_lt (by omega)]; simp
  refine e_step hd rfl ?_ kk
  unfold x_step
  dsimp only
  rw [if_pos (x_own_ok (s := ((I, L, R), n, c, k)) hr (by rw [hs])), if_neg (by rw [hs, e1]; intro q9; rcases q9 with q9 | q9; exact e2 q9; exact absurd hj (Nat.not_lt.mpr q9)), e1]
  rfl
theorem e_lst {q w j : Nat} {v : Int64} (hd : decode (x_mb M) pc = .ok (.lastore, 1)) (hr : q < n) (hs : x_shp q = (2, w)) {i : Int32} (hi : i = Int32.ofNat j) (hj : j < w) (hw : w < 10000) (kk : x_Ev X M (pc + 1) ls (st) ((I, va_up L q (va_up (L q) j v), R), n, c, k) r) : x_Ev X M pc ls (.long v :: .int i :: .ref q :: st) ((I, L, R), n, c, k) r := by
  have e1 : i.toNatClampNeg = j := by rw [hi]; exact Int32.toNatClampNeg_ofNat_of_lt (by omega)
  have e2 : ¬ i < 0 := by rw [hi, Int32.lt_iff_toInt_lt, Int32.toInt_ofNat_of_lt (by omega)]; simp
  refine e_step hd rfl ?_ kk
  unfold x_step
  dsimp only
  rw [if_pos (x_own_ok (s := ((I, L, R), n, c, k)) hr (by rw [hs])), if_neg (by rw [hs, e1]; intro q9; rcases q9 with q9 | q9; exact e2 q9; exact absurd hj (Nat.not_lt.mpr q9)), e1]
  rfl
theorem e_ald {q w j v : Nat} (hd : decode (x_mb M) pc = .ok (.aaload, 1)) (hr : q < n) (hs : x_shp q = (3, w)) {i : Int32} (hi : i = Int32.ofNat j) (hj : j < w) (hw : w < 10000) (hv : R q j = some v) (kk : x_Ev X M (pc + 1) ls (.ref v :: st) ((I, L, R), n, c, k) r) : x_Ev X M pc ls (.int i :: .ref q :: st) ((I, L, R), n, c, k) r := by
  have e1 : i.toNatClampNeg = j := by rw [hi]; exact Int32.toNatClampNeg_ofNat_of_lt (by omega)
  have e2 : ¬ i < 0 := by rw [hi, Int32.lt_iff_toInt_lt, Int32.toInt_ofNat_of_lt (by omega)]; simp
  refine e_step hd rfl ?_ kk
  unfold x_step
  dsimp only
  rw [if_pos (x_own_ok (s := ((I, L, R), n, c, k)) hr (by rw [hs])), if_neg (by rw [hs, e1]; intro q9; rcases q9 with q9 | q9; exact e2 q9; exact absurd hj (Nat.not_lt.mpr q9)), e1, hv]
  rfl
theorem e_ast {q w j v : Nat} (hd : decode (x_mb M) pc = .ok (.aastore, 1)) (hr : q < n) (hs : x_shp q = (3, w)) {i : Int32} (hi : i = Int32.ofNat j) (hj : j < w) (hw : w < 10000) (hv : v < n) (hvs : (x_shp v).1 = 16) (kk : x_Ev X M (pc + 1) ls (st) ((I, L, va_up R q (va_up (R q) j (some v))), n, c, k) r) : x_Ev X M pc ls (.ref v :: .int i :: .ref q :: st) ((I, L, R), n, c, k) r := by
  have e1 : i.toNatClampNeg = j := by rw [hi]; exact Int32.toNatClampNeg_ofNat_of_lt (by omega)
  have e2 : ¬ i < 0 := by rw [hi, Int32.lt_iff_toInt_lt, Int32.toInt_ofNat_of_lt (by omega)]; simp
  refine e_step hd rfl ?_ kk
  unfold x_step
  dsimp only
  rw [if_pos ⟨x_own_ok (s := ((I, L, R), n, c, k)) hr (by rw [hs]), hv, hvs⟩, if_neg (by rw [hs, e1]; intro q9; rcases q9 with q9 | q9; exact e2 q9; exact absurd hj (Nat.not_lt.mpr q9)), e1]
  rfl
theorem e_idiv {x y : Int32} (hd : decode (x_mb M) pc = .ok (.idiv, 1)) (hy : ¬ y = 0) (kk : x_Ev X M (pc + 1) ls (.int (x / y) :: st) ((I, L, R), n, c, k) r) : x_Ev X M pc ls (.int y :: .int x :: st) ((I, L, R), n, c, k) r := by
  refine e_step hd rfl ?_ kk
  unfold x_step
  dsimp only
  rw [if_neg hy]
  rfl
theorem e_ldiv {x y : Int64} (hd : decode (x_mb M) pc = .ok (.ldiv, 1)) (hy : ¬ y = 0) (kk : x_Ev X M (pc + 1) ls (.long (x / y) :: st) ((I, L, R), n, c, k) r) : x_Ev X M pc ls (.long y :: .long x :: st) ((I, L, R), n, c, k) r := by
  refine e_step hd rfl ?_ kk
  unfold x_step
  dsimp only
  rw [if_neg hy]
  rfl
theorem e_irem {x y : Int32} (hd : decode (x_mb M) pc = .ok (.irem, 1)) (hy : ¬ y = 0) (kk : x_Ev X M (pc + 1) ls (.int (x - x / y * y) :: st) ((I, L, R), n, c, k) r) : x_Ev X M pc ls (.int y :: .int x :: st) ((I, L, R), n, c, k) r := by
  refine e_step hd rfl ?_ kk
  unfold x_step
  dsimp only
  rw [if_neg hy]
  rfl
theorem e_lrem {x y : Int64} (hd : decode (x_mb M) pc = .ok (.lrem, 1)) (hy : ¬ y = 0) (kk : x_Ev X M (pc + 1) ls (.long (x - x / y * y) :: st) ((I, L, R), n, c, k) r) : x_Ev X M pc ls (.long y :: .long x :: st) ((I, L, R), n, c, k) r := by
  refine e_step hd rfl ?_ kk
  unfold x_step
  dsimp only
  rw [if_neg hy]
  rfl
theorem e_if_eq {x : Int32} {off : Int} {t : Nat} (hd : decode (x_mb M) pc = .ok (.ifCond .eq off, 3)) (ht : x_jm pc off = some t) (k1 : x = 0 → x_Ev X M t ls st ((I, L, R), n, c, k) r) (k2 : ¬ (x = 0) → x_Ev X M (pc + 3) ls st ((I, L, R), n, c, k) r) : x_Ev X M pc ls (.int x :: st) ((I, L, R), n, c, k) r := by
  by_cases hc : x = 0
  · refine e_step hd rfl ?_ (k1 hc)
    unfold x_step
    dsimp only
    rw [ht]
    dsimp only
    rw [if_pos (show x_cond .eq x 0 = true from decide_eq_true hc)]
    rfl
  · refine e_step hd rfl ?_ (k2 hc)
    unfold x_step
    dsimp only
    rw [ht]
    dsimp only
    rw [if_neg (show ¬ x_cond .eq x 0 = true from fun z9 => hc (of_decide_eq_true z9))]
    rfl
theorem e_if_ne {x : Int32} {off : Int} {t : Nat} (hd : decode (x_mb M) pc = .ok (.ifCond .ne off, 3)) (ht : x_jm pc off = some t) (k1 : ¬ x = 0 → x_Ev X M t ls st ((I, L, R), n, c, k) r) (k2 : ¬ (¬ x = 0) → x_Ev X M (pc + 3) ls st ((I, L, R), n, c, k) r) : x_Ev X M pc ls (.int x :: st) ((I, L, R), n, c, k) r := by
  by_cases hc : ¬ x = 0
  · refine e_step hd rfl ?_ (k1 hc)
    unfold x_step
    dsimp only
    rw [ht]
    dsimp only
    rw [if_pos (show x_cond .ne x 0 = true from decide_eq_true hc)]
    rfl
  · refine e_step hd rfl ?_ (k2 hc)
    unfold x_step
    dsimp only
    rw [ht]
    dsimp only
    rw [if_neg (show ¬ x_cond .ne x 0 = true from fun z9 => hc (of_decide_eq_true z9))]
    rfl
theorem e_if_lt {x : Int32} {off : Int} {t : Nat} (hd : decode (x_mb M) pc = .ok (.ifCond .lt off, 3)) (ht : x_jm pc off = some t) (k1 : x < 0 → x_Ev X M t ls st ((I, L, R), n, c, k) r) (k2 : ¬ (x < 0) → x_Ev X M (pc + 3) ls st ((I, L, R), n, c, k) r) : x_Ev X M pc ls (.int x :: st) ((I, L, R), n, c, k) r := by
  by_cases hc : x < 0
  · refine e_step hd rfl ?_ (k1 hc)
    unfold x_step
    dsimp only
    rw [ht]
    dsimp only
    rw [if_pos (show x_cond .lt x 0 = true from decide_eq_true hc)]
    rfl
  · refine e_step hd rfl ?_ (k2 hc)
    unfold x_step
    dsimp only
    rw [ht]
    dsimp only
    rw [if_neg (show ¬ x_cond .lt x 0 = true from fun z9 => hc (of_decide_eq_true z9))]
    rfl
theorem e_if_ge {x : Int32} {off : Int} {t : Nat} (hd : decode (x_mb M) pc = .ok (.ifCond .ge off, 3)) (ht : x_jm pc off = some t) (k1 : (0 : Int32) ≤ x → x_Ev X M t ls st ((I, L, R), n, c, k) r) (k2 : ¬ ((0 : Int32) ≤ x) → x_Ev X M (pc + 3) ls st ((I, L, R), n, c, k) r) : x_Ev X M pc ls (.int x :: st) ((I, L, R), n, c, k) r := by
  by_cases hc : (0 : Int32) ≤ x
  · refine e_step hd rfl ?_ (k1 hc)
    unfold x_step
    dsimp only
    rw [ht]
    dsimp only
    rw [if_pos (show x_cond .ge x 0 = true from decide_eq_true hc)]
    rfl
  · refine e_step hd rfl ?_ (k2 hc)
    unfold x_step
    dsimp only
    rw [ht]
    dsimp only
    rw [if_neg (show ¬ x_cond .ge x 0 = true from fun z9 => hc (of_decide_eq_true z9))]
    rfl
theorem e_if_gt {x : Int32} {off : Int} {t : Nat} (hd : decode (x_mb M) pc = .ok (.ifCond .gt off, 3)) (ht : x_jm pc off = some t) (k1 : (0 : Int32) < x → x_Ev X M t ls st ((I, L, R), n, c, k) r) (k2 : ¬ ((0 : Int32) < x) → x_Ev X M (pc + 3) ls st ((I, L, R), n, c, k) r) : x_Ev X M pc ls (.int x :: st) ((I, L, R), n, c, k) r := by
  by_cases hc : (0 : Int32) < x
  · refine e_step hd rfl ?_ (k1 hc)
    unfold x_step
    dsimp only
    rw [ht]
    dsimp only
    rw [if_pos (show x_cond .gt x 0 = true from decide_eq_true hc)]
    rfl
  · refine e_step hd rfl ?_ (k2 hc)
    unfold x_step
    dsimp only
    rw [ht]
    dsimp only
    rw [if_neg (show ¬ x_cond .gt x 0 = true from fun z9 => hc (of_decide_eq_true z9))]
    rfl
theorem e_if_le {x : Int32} {off : Int} {t : Nat} (hd : decode (x_mb M) pc = .ok (.ifCond .le off, 3)) (ht : x_jm pc off = some t) (k1 : x ≤ 0 → x_Ev X M t ls st ((I, L, R), n, c, k) r) (k2 : ¬ (x ≤ 0) → x_Ev X M (pc + 3) ls st ((I, L, R), n, c, k) r) : x_Ev X M pc ls (.int x :: st) ((I, L, R), n, c, k) r := by
  by_cases hc : x ≤ 0
  · refine e_step hd rfl ?_ (k1 hc)
    unfold x_step
    dsimp only
    rw [ht]
    dsimp only
    rw [if_pos (show x_cond .le x 0 = true from decide_eq_true hc)]
    rfl
  · refine e_step hd rfl ?_ (k2 hc)
    unfold x_step
    dsimp only
    rw [ht]
    dsimp only
    rw [if_neg (show ¬ x_cond .le x 0 = true from fun z9 => hc (of_decide_eq_true z9))]
    rfl
theorem e_icmp_eq {x y : Int32} {off : Int} {t : Nat} (hd : decode (x_mb M) pc = .ok (.if_icmp .eq off, 3)) (ht : x_jm pc off = some t) (k1 : x = y → x_Ev X M t ls st ((I, L, R), n, c, k) r) (k2 : ¬ (x = y) → x_Ev X M (pc + 3) ls st ((I, L, R), n, c, k) r) : x_Ev X M pc ls (.int y :: .int x :: st) ((I, L, R), n, c, k) r := by
  by_cases hc : x = y
  · refine e_step hd rfl ?_ (k1 hc)
    unfold x_step
    dsimp only
    rw [ht]
    dsimp only
    rw [if_pos (show x_cond .eq x y = true from decide_eq_true hc)]
    rfl
  · refine e_step hd rfl ?_ (k2 hc)
    unfold x_step
    dsimp only
    rw [ht]
    dsimp only
    rw [if_neg (show ¬ x_cond .eq x y = true from fun z9 => hc (of_decide_eq_true z9))]
    rfl
theorem e_icmp_ne {x y : Int32} {off : Int} {t : Nat} (hd : decode (x_mb M) pc = .ok (.if_icmp .ne off, 3)) (ht : x_jm pc off = some t) (k1 : ¬ x = y → x_Ev X M t ls st ((I, L, R), n, c, k) r) (k2 : ¬ (¬ x = y) → x_Ev X M (pc + 3) ls st ((I, L, R), n, c, k) r) : x_Ev X M pc ls (.int y :: .int x :: st) ((I, L, R), n, c, k) r := by
  by_cases hc : ¬ x = y
  · refine e_step hd rfl ?_ (k1 hc)
    unfold x_step
    dsimp only
    rw [ht]
    dsimp only
    rw [if_pos (show x_cond .ne x y = true from decide_eq_true hc)]
    rfl
  · refine e_step hd rfl ?_ (k2 hc)
    unfold x_step
    dsimp only
    rw [ht]
    dsimp only
    rw [if_neg (show ¬ x_cond .ne x y = true from fun z9 => hc (of_decide_eq_true z9))]
    rfl
theorem e_icmp_lt {x y : Int32} {off : Int} {t : Nat} (hd : decode (x_mb M) pc = .ok (.if_icmp .lt off, 3)) (ht : x_jm pc off = some t) (k1 : x < y → x_Ev X M t ls st ((I, L, R), n, c, k) r) (k2 : ¬ (x < y) → x_Ev X M (pc + 3) ls st ((I, L, R), n, c, k) r) : x_Ev X M pc ls (.int y :: .int x :: st) ((I, L, R), n, c, k) r := by
  by_cases hc : x < y
  · refine e_step hd rfl ?_ (k1 hc)
    unfold x_step
    dsimp only
    rw [ht]
    dsimp only
    rw [if_pos (show x_cond .lt x y = true from decide_eq_true hc)]
    rfl
  · refine e_step hd rfl ?_ (k2 hc)
    unfold x_step
    dsimp only
    rw [ht]
    dsimp only
    rw [if_neg (show ¬ x_cond .lt x y = true from fun z9 => hc (of_decide_eq_true z9))]
    rfl
theorem e_icmp_ge {x y : Int32} {off : Int} {t : Nat} (hd : decode (x_mb M) pc = .ok (.if_icmp .ge off, 3)) (ht : x_jm pc off = some t) (k1 : y ≤ x → x_Ev X M t ls st ((I, L, R), n, c, k) r) (k2 : ¬ (y ≤ x) → x_Ev X M (pc + 3) ls st ((I, L, R), n, c, k) r) : x_Ev X M pc ls (.int y :: .int x :: st) ((I, L, R), n, c, k) r := by
  by_cases hc : y ≤ x
  · refine e_step hd rfl ?_ (k1 hc)
    unfold x_step
    dsimp only
    rw [ht]
    dsimp only
    rw [if_pos (show x_cond .ge x y = true from decide_eq_true hc)]
    rfl
  · refine e_step hd rfl ?_ (k2 hc)
    unfold x_step
    dsimp only
    rw [ht]
    dsimp only
    rw [if_neg (show ¬ x_cond .ge x y = true from fun z9 => hc (of_decide_eq_true z9))]
    rfl
theorem e_icmp_gt {x y : Int32} {off : Int} {t : Nat} (hd : decode (x_mb M) pc = .ok (.if_icmp .gt off, 3)) (ht : x_jm pc off = some t) (k1 : y < x → x_Ev X M t ls st ((I, L, R), n, c, k) r) (k2 : ¬ (y < x) → x_Ev X M (pc + 3) ls st ((I, L, R), n, c, k) r) : x_Ev X M pc ls (.int y :: .int x :: st) ((I, L, R), n, c, k) r := by
  by_cases hc : y < x
  · refine e_step hd rfl ?_ (k1 hc)
    unfold x_step
    dsimp only
    rw [ht]
    dsimp only
    rw [if_pos (show x_cond .gt x y = true from decide_eq_true hc)]
    rfl
  · refine e_step hd rfl ?_ (k2 hc)
    unfold x_step
    dsimp only
    rw [ht]
    dsimp only
    rw [if_neg (show ¬ x_cond .gt x y = true from fun z9 => hc (of_decide_eq_true z9))]
    rfl
theorem e_icmp_le {x y : Int32} {off : Int} {t : Nat} (hd : decode (x_mb M) pc = .ok (.if_icmp .le off, 3)) (ht : x_jm pc off = some t) (k1 : x ≤ y → x_Ev X M t ls st ((I, L, R), n, c, k) r) (k2 : ¬ (x ≤ y) → x_Ev X M (pc + 3) ls st ((I, L, R), n, c, k) r) : x_Ev X M pc ls (.int y :: .int x :: st) ((I, L, R), n, c, k) r := by
  by_cases hc : x ≤ y
  · refine e_step hd rfl ?_ (k1 hc)
    unfold x_step
    dsimp only
    rw [ht]
    dsimp only
    rw [if_pos (show x_cond .le x y = true from decide_eq_true hc)]
    rfl
  · refine e_step hd rfl ?_ (k2 hc)
    unfold x_step
    dsimp only
    rw [ht]
    dsimp only
    rw [if_neg (show ¬ x_cond .le x y = true from fun z9 => hc (of_decide_eq_true z9))]
    rfl
/-- the call's conditions; no cells made by a callee of 0 -/
theorem x_invE {idx kd q na : Nat} {N : x_MI} (hcal : x_cal M (x_key M idx) = some (q, N, na)) {S : x_S} (hc : kd = x_qk q ∧ na ≤ st.length ∧ x_cats (st.drop na) ≤ 8 ∧ x_lv N < x_lv M ∧ S.2.2.1 + x_mc N ≤ x_mc M ∧ S.2.2.2 + x_ms N ≤ x_ms M ∧ idx < 1000 ∧ (x_av (st.take na).reverse).length ≤ x_ml N ∧ x_rcv q N S (st.take na).reverse = true) : x_inv M idx kd st S = some (.inr (.inr (.inl (N, (st.take na).reverse, st.drop na)))) := by
  unfold x_inv
  rw [hcal]
  dsimp only
  rw [if_pos hc]
theorem x_calE {K q na : Nat} {N : x_MI} (hb : Nat.beq K 9147 = false) (h : x_look K x_calT = some (q, N, na)) : x_cal M K = some (q, N, na) := by
  unfold x_cal
  rw [hb]
  exact h
theorem e_invV {idx q na n' : Nat} {N : x_MI} {v : Option Value} {μ' : x_Mem} (hd : decode (x_mb M) pc = .ok (.invokevirtual idx, 3)) (hp1 : x_look (x_key M idx) x_slnT = none) (hp2 : x_look (x_key M idx) x_schT = none) (hcal : x_cal M (x_key M idx) = some (q, N, na)) (hc : 0 = x_qk q ∧ na ≤ st.length ∧ x_cats (st.drop na) ≤ 8 ∧ x_lv N < x_lv M ∧ c + x_mc N ≤ x_mc M ∧ k + x_ms N ≤ x_ms M ∧ idx < 1000 ∧ (x_av (st.take na).reverse).length ≤ x_ml N ∧ x_rcv q N ((I, L, R), n, c, k) (st.take na).reverse = true) (h0 : x_Cv X N (st.take na).reverse (I, L, R) n (.inl v, μ', n')) (kk : x_Ev X M (pc + 3) ls (v.toList ++ st.drop na) (μ', n', c + x_mc N, k + x_ms N) r) : x_Ev X M pc ls st ((I, L, R), n, c, k) r := by
  refine e_call hd rfl ?_ h0 kk
  unfold x_step
  dsimp only
  rw [hp1, hp2]
  dsimp only
  exact x_invE hcal hc
theorem e_invVX {idx q na n' E : Nat} {N : x_MI} {μ' : x_Mem} (hd : decode (x_mb M) pc = .ok (.invokevirtual idx, 3)) (hp1 : x_look (x_key M idx) x_slnT = none) (hp2 : x_look (x_key M idx) x_schT = none) (hcal : x_cal M (x_key M idx) = some (q, N, na)) (hc : 0 = x_qk q ∧ na ≤ st.length ∧ x_cats (st.drop na) ≤ 8 ∧ x_lv N < x_lv M ∧ c + x_mc N ≤ x_mc M ∧ k + x_ms N ≤ x_ms M ∧ idx < 1000 ∧ (x_av (st.take na).reverse).length ≤ x_ml N ∧ x_rcv q N ((I, L, R), n, c, k) (st.take na).reverse = true) (h0 : x_Cv X N (st.take na).reverse (I, L, R) n (.inr E, μ', n')) (kk : x_exc M pc E (μ', n', c + x_mc N, k + x_ms N) = some r) : x_Ev X M pc ls st ((I, L, R), n, c, k) r := by
  refine e_callX (rest := st.drop na) hd rfl ?_ h0 kk
  unfold x_step
  dsimp only
  rw [hp1, hp2]
  dsimp only
  exact x_invE hcal hc
theorem e_invS {idx q na n' : Nat} {N : x_MI} {v : Option Value} {μ' : x_Mem} (hd : decode (x_mb M) pc = .ok (.invokestatic idx, 3)) (hp1 : x_look (x_key M idx) x_cpyT = none) (hcal : x_cal M (x_key M idx) = some (q, N, na)) (hc : 1 = x_qk q ∧ na ≤ st.length ∧ x_cats (st.drop na) ≤ 8 ∧ x_lv N < x_lv M ∧ c + x_mc N ≤ x_mc M ∧ k + x_ms N ≤ x_ms M ∧ idx < 1000 ∧ (x_av (st.take na).reverse).length ≤ x_ml N ∧ x_rcv q N ((I, L, R), n, c, k) (st.take na).reverse = true) (h0 : x_Cv X N (st.take na).reverse (I, L, R) n (.inl v, μ', n')) (kk : x_Ev X M (pc + 3) ls (v.toList ++ st.drop na) (μ', n', c + x_mc N, k + x_ms N) r) : x_Ev X M pc ls st ((I, L, R), n, c, k) r := by
  refine e_call hd rfl ?_ h0 kk
  unfold x_step
  dsimp only
  rw [hp1]
  dsimp only
  exact x_invE hcal hc
theorem e_invSX {idx q na n' E : Nat} {N : x_MI} {μ' : x_Mem} (hd : decode (x_mb M) pc = .ok (.invokestatic idx, 3)) (hp1 : x_look (x_key M idx) x_cpyT = none) (hcal : x_cal M (x_key M idx) = some (q, N, na)) (hc : 1 = x_qk q ∧ na ≤ st.length ∧ x_cats (st.drop na) ≤ 8 ∧ x_lv N < x_lv M ∧ c + x_mc N ≤ x_mc M ∧ k + x_ms N ≤ x_ms M ∧ idx < 1000 ∧ (x_av (st.take na).reverse).length ≤ x_ml N ∧ x_rcv q N ((I, L, R), n, c, k) (st.take na).reverse = true) (h0 : x_Cv X N (st.take na).reverse (I, L, R) n (.inr E, μ', n')) (kk : x_exc M pc E (μ', n', c + x_mc N, k + x_ms N) = some r) : x_Ev X M pc ls st ((I, L, R), n, c, k) r := by
  refine e_callX (rest := st.drop na) hd rfl ?_ h0 kk
  unfold x_step
  dsimp only
  rw [hp1]
  dsimp only
  exact x_invE hcal hc
theorem e_invI {idx q na n' : Nat} {N : x_MI} {v : Option Value} {μ' : x_Mem} (hd : decode (x_mb M) pc = .ok (.invokespecial idx, 3)) (hp1 : x_look (x_key M idx) x_obiT = none) (hcal : x_cal M (x_key M idx) = some (q, N, na)) (hc : 2 = x_qk q ∧ na ≤ st.length ∧ x_cats (st.drop na) ≤ 8 ∧ x_lv N < x_lv M ∧ c + x_mc N ≤ x_mc M ∧ k + x_ms N ≤ x_ms M ∧ idx < 1000 ∧ (x_av (st.take na).reverse).length ≤ x_ml N ∧ x_rcv q N ((I, L, R), n, c, k) (st.take na).reverse = true) (h0 : x_Cv X N (st.take na).reverse (I, L, R) n (.inl v, μ', n')) (kk : x_Ev X M (pc + 3) ls (v.toList ++ st.drop na) (μ', n', c + x_mc N, k + x_ms N) r) : x_Ev X M pc ls st ((I, L, R), n, c, k) r := by
  refine e_call hd rfl ?_ h0 kk
  unfold x_step
  dsimp only
  rw [hp1]
  dsimp only
  exact x_invE hcal hc
theorem e_invIX {idx q na n' E : Nat} {N : x_MI} {μ' : x_Mem} (hd : decode (x_mb M) pc = .ok (.invokespecial idx, 3)) (hp1 : x_look (x_key M idx) x_obiT = none) (hcal : x_cal M (x_key M idx) = some (q, N, na)) (hc : 2 = x_qk q ∧ na ≤ st.length ∧ x_cats (st.drop na) ≤ 8 ∧ x_lv N < x_lv M ∧ c + x_mc N ≤ x_mc M ∧ k + x_ms N ≤ x_ms M ∧ idx < 1000 ∧ (x_av (st.take na).reverse).length ≤ x_ml N ∧ x_rcv q N ((I, L, R), n, c, k) (st.take na).reverse = true) (h0 : x_Cv X N (st.take na).reverse (I, L, R) n (.inr E, μ', n')) (kk : x_exc M pc E (μ', n', c + x_mc N, k + x_ms N) = some r) : x_Ev X M pc ls st ((I, L, R), n, c, k) r := by
  refine e_callX (rest := st.drop na) hd rfl ?_ h0 kk
  unfold x_step
  dsimp only
  rw [hp1]
  dsimp only
  exact x_invE hcal hc
end
theorem fl_5009 : x_look 5009 x_fldT = some (5, 0, 2, true) := rfl
theorem fl_5019 : x_look 5019 x_fldT = some (5, 1, 0, false) := rfl
theorem fl_8045 : x_look 8045 x_fldT = some (5, 1, 0, false) := rfl
theorem fl_5015 : x_look 5015 x_fldT = some (5, 2, 0, false) := rfl
theorem fl_8064 : x_look 8064 x_fldT = some (5, 2, 0, false) := rfl
theorem fl_5028 : x_look 5028 x_fldT = some (5, 3, 0, false) := rfl
theorem fl_5022 : x_look 5022 x_fldT = some (5, 4, 0, false) := rfl
theorem fl_5025 : x_look 5025 x_fldT = some (5, 5, 0, false) := rfl
theorem fl_5089 : x_look 5089 x_fldT = some (5, 6, 0, false) := rfl
theorem fl_7028 : x_look 7028 x_fldT = some (7, 0, 0, false) := rfl
theorem fl_5108 : x_look 5108 x_fldT = some (7, 0, 0, false) := rfl
theorem fl_6077 : x_look 6077 x_fldT = some (7, 0, 0, false) := rfl
theorem fl_65 : x_look 65 x_fldT = some (7, 0, 0, false) := rfl
theorem fl_8139 : x_look 8139 x_fldT = some (7, 0, 0, false) := rfl
theorem fl_7009 : x_look 7009 x_fldT = some (7, 1, 2, true) := rfl
theorem fl_5084 : x_look 5084 x_fldT = some (7, 1, 2, true) := rfl
theorem fl_1067 : x_look 1067 x_fldT = some (7, 1, 2, true) := rfl
theorem fl_6084 : x_look 6084 x_fldT = some (7, 1, 2, true) := rfl
theorem fl_8087 : x_look 8087 x_fldT = some (7, 1, 2, true) := rfl
theorem fl_75 : x_look 75 x_fldT = some (7, 1, 2, true) := rfl
theorem fl_7015 : x_look 7015 x_fldT = some (7, 2, 2, true) := rfl
theorem fl_1076 : x_look 1076 x_fldT = some (7, 2, 2, true) := rfl
theorem fl_5102 : x_look 5102 x_fldT = some (7, 2, 2, true) := rfl
theorem fl_70 : x_look 70 x_fldT = some (7, 2, 2, true) := rfl
theorem fl_7018 : x_look 7018 x_fldT = some (7, 3, 2, true) := rfl
theorem fl_1058 : x_look 1058 x_fldT = some (7, 3, 2, true) := rfl
theorem fl_5105 : x_look 5105 x_fldT = some (7, 3, 2, true) := rfl
theorem fl_2015 : x_look 2015 x_fldT = some (2, 0, 0, false) := rfl
theorem fl_5059 : x_look 5059 x_fldT = some (2, 0, 0, false) := rfl
theorem fl_8074 : x_look 8074 x_fldT = some (2, 0, 0, false) := rfl
theorem fl_2009 : x_look 2009 x_fldT = some (2, 1, 2, true) := rfl
theorem fl_5119 : x_look 5119 x_fldT = some (2, 1, 2, true) := rfl
theorem fl_9 : x_look 9 x_fldT = some (0, 0, 2, true) := rfl
theorem fl_6080 : x_look 6080 x_fldT = some (0, 0, 2, true) := rfl
theorem fl_8152 : x_look 8152 x_fldT = some (0, 0, 2, true) := rfl
theorem fl_15 : x_look 15 x_fldT = some (0, 1, 2, true) := rfl
theorem fl_18 : x_look 18 x_fldT = some (0, 2, 2, true) := rfl
theorem fl_6108 : x_look 6108 x_fldT = some (0, 2, 2, true) := rfl
theorem fl_8182 : x_look 8182 x_fldT = some (0, 2, 2, true) := rfl
theorem fl_21 : x_look 21 x_fldT = some (0, 3, 2, true) := rfl
theorem fl_34 : x_look 34 x_fldT = some (0, 4, 0, false) := rfl
theorem fl_24 : x_look 24 x_fldT = some (0, 5, 0, false) := rfl
theorem fl_6098 : x_look 6098 x_fldT = some (0, 5, 0, false) := rfl
theorem fl_1009 : x_look 1009 x_fldT = some (1, 0, 2, true) := rfl
theorem fl_6101 : x_look 6101 x_fldT = some (1, 0, 2, true) := rfl
theorem fl_8288 : x_look 8288 x_fldT = some (1, 0, 2, true) := rfl
theorem fl_1015 : x_look 1015 x_fldT = some (1, 1, 2, true) := rfl
theorem fl_6102 : x_look 6102 x_fldT = some (1, 1, 2, true) := rfl
theorem fl_1018 : x_look 1018 x_fldT = some (1, 2, 2, true) := rfl
theorem fl_1021 : x_look 1021 x_fldT = some (1, 3, 2, true) := rfl
theorem fl_6139 : x_look 6139 x_fldT = some (1, 3, 2, true) := rfl
theorem fl_1025 : x_look 1025 x_fldT = some (1, 4, 0, false) := rfl
theorem fl_6095 : x_look 6095 x_fldT = some (1, 4, 0, false) := rfl
theorem fl_1038 : x_look 1038 x_fldT = some (1, 5, 0, false) := rfl
theorem fl_6111 : x_look 6111 x_fldT = some (1, 5, 0, false) := rfl
theorem fl_1041 : x_look 1041 x_fldT = some (1, 6, 0, false) := rfl
theorem fl_6133 : x_look 6133 x_fldT = some (1, 6, 0, false) := rfl
theorem fl_8254 : x_look 8254 x_fldT = some (1, 6, 0, false) := rfl
theorem fl_1044 : x_look 1044 x_fldT = some (1, 7, 1, false) := rfl
theorem fl_6143 : x_look 6143 x_fldT = some (1, 7, 1, false) := rfl
theorem fl_8298 : x_look 8298 x_fldT = some (1, 7, 1, false) := rfl
theorem fl_4024 : x_look 4024 x_fldT = some (4, 0, 0, false) := rfl
theorem fl_8249 : x_look 8249 x_fldT = some (4, 0, 0, false) := rfl
theorem fl_4028 : x_look 4028 x_fldT = some (4, 1, 0, false) := rfl
theorem fl_4031 : x_look 4031 x_fldT = some (4, 2, 0, false) := rfl
theorem fl_4009 : x_look 4009 x_fldT = some (4, 3, 2, true) := rfl
theorem fl_4015 : x_look 4015 x_fldT = some (4, 4, 2, true) := rfl
theorem fl_8274 : x_look 8274 x_fldT = some (4, 4, 2, true) := rfl
theorem fl_4018 : x_look 4018 x_fldT = some (4, 5, 2, true) := rfl
theorem fl_8271 : x_look 8271 x_fldT = some (4, 5, 2, true) := rfl
theorem fl_4021 : x_look 4021 x_fldT = some (4, 6, 2, true) := rfl
theorem fl_6046 : x_look 6046 x_fldT = some (6, 0, 0, false) := rfl
theorem fl_8067 : x_look 8067 x_fldT = some (6, 0, 0, false) := rfl
theorem fl_6012 : x_look 6012 x_fldT = some (6, 1, 2, true) := rfl
theorem fl_5036 : x_look 5036 x_fldT = some (6, 1, 2, true) := rfl
theorem fl_8083 : x_look 8083 x_fldT = some (6, 1, 2, true) := rfl
theorem fl_6021 : x_look 6021 x_fldT = some (6, 2, 2, true) := rfl
theorem fl_5047 : x_look 5047 x_fldT = some (6, 2, 2, true) := rfl
theorem fl_8070 : x_look 8070 x_fldT = some (6, 2, 2, true) := rfl
theorem fl_6028 : x_look 6028 x_fldT = some (6, 3, 2, true) := rfl
theorem fl_8148 : x_look 8148 x_fldT = some (6, 3, 2, true) := rfl
theorem fl_6035 : x_look 6035 x_fldT = some (6, 4, 2, true) := rfl
theorem fl_8227 : x_look 8227 x_fldT = some (6, 4, 2, true) := rfl
theorem fl_6042 : x_look 6042 x_fldT = some (6, 5, 2, true) := rfl
theorem fl_8245 : x_look 8245 x_fldT = some (6, 5, 2, true) := rfl
theorem fl_3011 : x_look 3011 x_fldT = some (3, 0, 2, true) := rfl
theorem fl_3018 : x_look 3018 x_fldT = some (3, 1, 0, false) := rfl
theorem fl_3026 : x_look 3026 x_fldT = some (3, 2, 0, false) := rfl
theorem fl_8328 : x_look 8328 x_fldT = some (3, 2, 0, false) := rfl
theorem fl_8010 : x_look 8010 x_fldT = some (8, 0, 2, true) := rfl
theorem fl_8019 : x_look 8019 x_fldT = some (8, 1, 2, true) := rfl
theorem fl_8026 : x_look 8026 x_fldT = some (8, 2, 2, false) := rfl
theorem fl_8030 : x_look 8030 x_fldT = some (8, 3, 2, false) := rfl
theorem fl_9007 : x_look 9007 x_fldT = some (9, 0, 2, true) := rfl
theorem fl_9013 : x_look 9013 x_fldT = some (9, 1, 2, true) := rfl
theorem fl_9016 : x_look 9016 x_fldT = some (9, 2, 2, true) := rfl
theorem fl_9019 : x_look 9019 x_fldT = some (9, 3, 2, true) := rfl
theorem fl_9023 : x_look 9023 x_fldT = some (9, 4, 2, true) := rfl
theorem fl_9036 : x_look 9036 x_fldT = some (9, 5, 0, false) := rfl
theorem fl_9033 : x_look 9033 x_fldT = some (9, 6, 0, false) := rfl
theorem fl_9026 : x_look 9026 x_fldT = some (9, 7, 2, true) := rfl
theorem fl_9039 : x_look 9039 x_fldT = some (9, 8, 0, false) := rfl
theorem fl_9042 : x_look 9042 x_fldT = some (9, 9, 0, false) := rfl
theorem fl_9057 : x_look 9057 x_fldT = some (9, 10, 0, false) := rfl
theorem fl_9060 : x_look 9060 x_fldT = some (9, 11, 0, false) := rfl
theorem fl_9067 : x_look 9067 x_fldT = some (9, 12, 0, false) := rfl
theorem fl_9093 : x_look 9093 x_fldT = some (9, 13, 0, false) := rfl
theorem fl_9096 : x_look 9096 x_fldT = some (9, 14, 0, false) := rfl
theorem fl_9029 : x_look 9029 x_fldT = some (9, 15, 0, false) := rfl
theorem fl_9085 : x_look 9085 x_fldT = some (9, 16, 1, false) := rfl
theorem fl_9269 : x_look 9269 x_fldT = some (9, 17, 1, false) := rfl
theorem fl_9272 : x_look 9272 x_fldT = some (9, 18, 1, false) := rfl
set_option maxRecDepth 20000 in
theorem cl_10153 : x_look 10153 x_calT = some (2, mX8_init, 1) := rfl
set_option maxRecDepth 20000 in
theorem cl_8009 : x_look 8009 x_calT = some (2, mX5_init, 1) := rfl
set_option maxRecDepth 20000 in
theorem cl_8018 : x_look 8018 x_calT = some (2, mX3_init, 1) := rfl
set_option maxRecDepth 20000 in
theorem cl_3017 : x_look 3017 x_calT = some (2, mX6_init, 1) := rfl
set_option maxRecDepth 20000 in
theorem cl_6011 : x_look 6011 x_calT = some (2, mX7_init, 1) := rfl
set_option maxRecDepth 20000 in
theorem cl_8093 : x_look 8093 x_calT = some (1, mJ9_min_7cf53, 2) := rfl
set_option maxRecDepth 20000 in
theorem cl_6020 : x_look 6020 x_calT = some (2, mX2_init, 1) := rfl
set_option maxRecDepth 20000 in
theorem cl_6027 : x_look 6027 x_calT = some (2, mX0_init, 1) := rfl
set_option maxRecDepth 20000 in
theorem cl_6034 : x_look 6034 x_calT = some (2, mX1_init, 1) := rfl
set_option maxRecDepth 20000 in
theorem cl_6041 : x_look 6041 x_calT = some (2, mX4_init, 1) := rfl
set_option maxRecDepth 20000 in
theorem cl_8025 : x_look 8025 x_calT = some (2, mX6_init, 1) := rfl
set_option maxRecDepth 20000 in
theorem cl_10170 : x_look 10170 x_calT = some (0, mX8_errorPosition, 1) := rfl
set_option maxRecDepth 20000 in
theorem cl_10174 : x_look 10174 x_calT = some (0, mX8_phase, 1) := rfl
set_option maxRecDepth 20000 in
theorem cl_10178 : x_look 10178 x_calT = some (0, mX8_plotCount, 1) := rfl
set_option maxRecDepth 20000 in
theorem cl_10280 : x_look 10280 x_calT = some (0, mX8_factor, 2) := rfl
set_option maxRecDepth 20000 in
theorem cl_8289 : x_look 8289 x_calT = some (0, mX4_factorDividend, 2) := rfl
set_option maxRecDepth 20000 in
theorem cl_4062 : x_look 4062 x_calT = some (0, mX4_needsFactor, 2) := rfl
set_option maxRecDepth 20000 in
theorem cl_4056 : x_look 4056 x_calT = some (1, mJ9_abs_0f7a4, 1) := rfl
set_option maxRecDepth 20000 in
theorem cl_8292 : x_look 8292 x_calT = some (0, mX4_factorDivisor, 2) := rfl
set_option maxRecDepth 20000 in
theorem cl_8117 : x_look 8117 x_calT = some (1, mX8_lowestTerms, 3) := rfl
set_option maxRecDepth 20000 in
theorem cl_8357 : x_look 8357 x_calT = some (1, mX8_commonDivisor, 2) := rfl
set_option maxRecDepth 20000 in
theorem cl_10285 : x_look 10285 x_calT = some (0, mX8_month, 1) := rfl
set_option maxRecDepth 20000 in
theorem cl_10298 : x_look 10298 x_calT = some (0, mX8_debt, 1) := rfl
set_option maxRecDepth 20000 in
theorem cl_10305 : x_look 10305 x_calT = some (0, mX8_adjustment, 1) := rfl
set_option maxRecDepth 20000 in
theorem cl_8309 : x_look 8309 x_calT = some (0, mX6_unbooked, 1) := rfl
set_option maxRecDepth 20000 in
theorem cl_6136 : x_look 6136 x_calT = some (0, mX6_chargeOf, 2) := rfl
set_option maxRecDepth 20000 in
theorem cl_6114 : x_look 6114 x_calT = some (0, mX4_factorDividend, 2) := rfl
set_option maxRecDepth 20000 in
theorem cl_6118 : x_look 6118 x_calT = some (0, mX4_factorDivisor, 2) := rfl
set_option maxRecDepth 20000 in
theorem cl_6123 : x_look 6123 x_calT = some (0, mX4_netSum, 4) := rfl
set_option maxRecDepth 20000 in
theorem cl_6127 : x_look 6127 x_calT = some (0, mX1_adjustedRate, 4) := rfl
set_option maxRecDepth 20000 in
theorem cl_1063 : x_look 1063 x_calT = some (0, mX1_indexIn, 4) := rfl
set_option maxRecDepth 20000 in
theorem cl_1070 : x_look 1070 x_calT = some (1, mJ9_floorDiv_7cf53, 2) := rfl
set_option maxRecDepth 20000 in
theorem cl_1079 : x_look 1079 x_calT = some (1, mJ9_max_7cf53, 2) := rfl
set_option maxRecDepth 20000 in
theorem cl_10157 : x_look 10157 x_calT = some (4, mL_append, 7) := rfl
set_option maxRecDepth 20000 in
theorem cl_10007 : x_look 10007 x_calT = some (0, mX8_append, 6) := rfl
set_option maxRecDepth 20000 in
theorem cl_8033 : x_look 8033 x_calT = some (0, mX5_hasRoom, 1) := rfl
set_option maxRecDepth 20000 in
theorem cl_8037 : x_look 8037 x_calT = some (1, mX8_requireState, 1) := rfl
set_option maxRecDepth 20000 in
theorem cl_8041 : x_look 8041 x_calT = some (0, mX5_take, 2) := rfl
set_option maxRecDepth 20000 in
theorem cl_10166 : x_look 10166 x_calT = some (4, mL_load, 3) := rfl
set_option maxRecDepth 20000 in
theorem cl_10015 : x_look 10015 x_calT = some (0, mX8_load, 2) := rfl
set_option maxRecDepth 20000 in
theorem cl_8049 : x_look 8049 x_calT = some (1, mX8_isIn, 3) := rfl
set_option maxRecDepth 20000 in
theorem cl_8053 : x_look 8053 x_calT = some (1, mX8_requireArgument, 1) := rfl
set_option maxRecDepth 20000 in
theorem cl_8056 : x_look 8056 x_calT = some (0, mX5_readInto, 3) := rfl
set_option maxRecDepth 20000 in
theorem cl_5031 : x_look 5031 x_calT = some (0, mX6_clear, 1) := rfl
set_option maxRecDepth 20000 in
theorem cl_6050 : x_look 6050 x_calT = some (0, mX7_clear, 1) := rfl
set_option maxRecDepth 20000 in
theorem cl_7032 : x_look 7032 x_calT = some (1, mJ7_fill_53178, 2) := rfl
set_option maxRecDepth 20000 in
theorem cl_6053 : x_look 6053 x_calT = some (0, mX2_clear, 1) := rfl
set_option maxRecDepth 20000 in
theorem cl_2019 : x_look 2019 x_calT = some (1, mJ7_fill_53178, 2) := rfl
set_option maxRecDepth 20000 in
theorem cl_6054 : x_look 6054 x_calT = some (0, mX0_clear, 1) := rfl
set_option maxRecDepth 20000 in
theorem cl_28 : x_look 28 x_calT = some (1, mJ7_fill_53178, 2) := rfl
set_option maxRecDepth 20000 in
theorem cl_6055 : x_look 6055 x_calT = some (0, mX1_clear, 1) := rfl
set_option maxRecDepth 20000 in
theorem cl_1029 : x_look 1029 x_calT = some (1, mJ7_fill_53178, 2) := rfl
set_option maxRecDepth 20000 in
theorem cl_1035 : x_look 1035 x_calT = some (1, mJ7_fill_d0a16, 2) := rfl
set_option maxRecDepth 20000 in
theorem cl_6056 : x_look 6056 x_calT = some (0, mX4_clear, 1) := rfl
set_option maxRecDepth 20000 in
theorem cl_5040 : x_look 5040 x_calT = some (0, mX5_readNumbers, 2) := rfl
set_option maxRecDepth 20000 in
theorem cl_5066 : x_look 5066 x_calT = some (0, mX5_readWord, 2) := rfl
set_option maxRecDepth 20000 in
theorem cl_5095 : x_look 5095 x_calT = some (0, mX5_startOfToken, 1) := rfl
set_option maxRecDepth 20000 in
theorem cl_5127 : x_look 5127 x_calT = some (0, mX5_byteAt, 2) := rfl
set_option maxRecDepth 20000 in
theorem cl_5135 : x_look 5135 x_calT = some (0, mX5_isLetter, 2) := rfl
set_option maxRecDepth 20000 in
theorem cl_5070 : x_look 5070 x_calT = some (0, mX5_fail, 3) := rfl
set_option maxRecDepth 20000 in
theorem cl_5081 : x_look 5081 x_calT = some (0, mX5_readNumber, 3) := rfl
set_option maxRecDepth 20000 in
theorem cl_5139 : x_look 5139 x_calT = some (0, mX5_isDigit, 2) := rfl
set_option maxRecDepth 20000 in
theorem cl_5111 : x_look 5111 x_calT = some (1, mJ9_min_7cf53, 2) := rfl
set_option maxRecDepth 20000 in
theorem cl_5092 : x_look 5092 x_calT = some (0, mX5_readSemicolon, 1) := rfl
set_option maxRecDepth 20000 in
theorem cl_5044 : x_look 5044 x_calT = some (0, mX5_readSpecies, 2) := rfl
set_option maxRecDepth 20000 in
theorem cl_5051 : x_look 5051 x_calT = some (0, mX5_readPlots, 3) := rfl
set_option maxRecDepth 20000 in
theorem cl_5055 : x_look 5055 x_calT = some (0, mX5_readEnd, 1) := rfl
set_option maxRecDepth 20000 in
theorem cl_8060 : x_look 8060 x_calT = some (0, mX3_keep, 2) := rfl
set_option maxRecDepth 20000 in
theorem cl_3022 : x_look 3022 x_calT = some (0, mX6_copyFrom, 2) := rfl
set_option maxRecDepth 20000 in
theorem cl_6057 : x_look 6057 x_calT = some (0, mX7_copyFrom, 2) := rfl
set_option maxRecDepth 20000 in
theorem cl_6061 : x_look 6061 x_calT = some (0, mX2_copyFrom, 2) := rfl
set_option maxRecDepth 20000 in
theorem cl_6064 : x_look 6064 x_calT = some (0, mX0_copyFrom, 2) := rfl
set_option maxRecDepth 20000 in
theorem cl_6067 : x_look 6067 x_calT = some (0, mX1_copyFrom, 2) := rfl
set_option maxRecDepth 20000 in
theorem cl_6070 : x_look 6070 x_calT = some (0, mX4_copyFrom, 2) := rfl
set_option maxRecDepth 20000 in
theorem cl_3029 : x_look 3029 x_calT = some (1, mJ9_min_7cf53, 2) := rfl
set_option maxRecDepth 20000 in
theorem cl_10182 : x_look 10182 x_calT = some (4, mL_addPlot, 8) := rfl
set_option maxRecDepth 20000 in
theorem cl_10021 : x_look 10021 x_calT = some (0, mX8_addPlot, 7) := rfl
set_option maxRecDepth 20000 in
theorem cl_8079 : x_look 8079 x_calT = some (0, mX8_fitsPlot, 3) := rfl
set_option maxRecDepth 20000 in
theorem cl_8161 : x_look 8161 x_calT = some (0, mX8_isSpecies, 2) := rfl
set_option maxRecDepth 20000 in
theorem cl_8099 : x_look 8099 x_calT = some (0, mX2_add, 7) := rfl
set_option maxRecDepth 20000 in
theorem cl_10186 : x_look 10186 x_calT = some (4, mL_removePlot, 3) := rfl
set_option maxRecDepth 20000 in
theorem cl_10025 : x_look 10025 x_calT = some (0, mX8_removePlot, 2) := rfl
set_option maxRecDepth 20000 in
theorem cl_8103 : x_look 8103 x_calT = some (1, mX8_requireExisting, 1) := rfl
set_option maxRecDepth 20000 in
theorem cl_8106 : x_look 8106 x_calT = some (0, mX2_remove, 2) := rfl
set_option maxRecDepth 20000 in
theorem cl_10189 : x_look 10189 x_calT = some (4, mL_estimate, 4) := rfl
set_option maxRecDepth 20000 in
theorem cl_10030 : x_look 10030 x_calT = some (0, mX8_estimate, 3) := rfl
set_option maxRecDepth 20000 in
theorem cl_8109 : x_look 8109 x_calT = some (0, mX8_isSpeciesOrNone, 2) := rfl
set_option maxRecDepth 20000 in
theorem cl_8113 : x_look 8113 x_calT = some (0, mX2_total, 2) := rfl
set_option maxRecDepth 20000 in
theorem cl_2035 : x_look 2035 x_calT = some (0, mX2_volumeIn, 3) := rfl
set_option maxRecDepth 20000 in
theorem cl_10193 : x_look 10193 x_calT = some (4, mL_squaredError, 4) := rfl
set_option maxRecDepth 20000 in
theorem cl_10034 : x_look 10034 x_calT = some (0, mX8_squaredError, 3) := rfl
set_option maxRecDepth 20000 in
theorem cl_8121 : x_look 8121 x_calT = some (0, mX2_spread, 2) := rfl
set_option maxRecDepth 20000 in
theorem cl_10196 : x_look 10196 x_calT = some (4, mL_isAccurate, 4) := rfl
set_option maxRecDepth 20000 in
theorem cl_10037 : x_look 10037 x_calT = some (0, mX8_isAccurate, 3) := rfl
set_option maxRecDepth 20000 in
theorem cl_8124 : x_look 8124 x_calT = some (0, mX8_requireAccuracyQuestion, 3) := rfl
set_option maxRecDepth 20000 in
theorem cl_8128 : x_look 8128 x_calT = some (0, mX2_weightedError, 2) := rfl
set_option maxRecDepth 20000 in
theorem cl_2041 : x_look 2041 x_calT = some (0, mX2_spread, 2) := rfl
set_option maxRecDepth 20000 in
theorem cl_8131 : x_look 8131 x_calT = some (0, mX2_allowance, 4) := rfl
set_option maxRecDepth 20000 in
theorem cl_2045 : x_look 2045 x_calT = some (0, mX2_total, 2) := rfl
set_option maxRecDepth 20000 in
theorem cl_10200 : x_look 10200 x_calT = some (4, mL_neededPlots, 4) := rfl
set_option maxRecDepth 20000 in
theorem cl_10041 : x_look 10041 x_calT = some (0, mX8_neededPlots, 3) := rfl
set_option maxRecDepth 20000 in
theorem cl_10203 : x_look 10203 x_calT = some (4, mL_mostInfluentialPlot, 3) := rfl
set_option maxRecDepth 20000 in
theorem cl_10045 : x_look 10045 x_calT = some (0, mX8_mostInfluentialPlot, 2) := rfl
set_option maxRecDepth 20000 in
theorem cl_8135 : x_look 8135 x_calT = some (0, mX2_mostInfluential, 2) := rfl
set_option maxRecDepth 20000 in
theorem cl_2050 : x_look 2050 x_calT = some (1, mJ9_abs_067f4, 1) := rfl
set_option maxRecDepth 20000 in
theorem cl_10206 : x_look 10206 x_calT = some (4, mL_advertise, 2) := rfl
set_option maxRecDepth 20000 in
theorem cl_10048 : x_look 10048 x_calT = some (0, mX8_advertise, 1) := rfl
set_option maxRecDepth 20000 in
theorem cl_8142 : x_look 8142 x_calT = some (0, mX6_beginBidding, 1) := rfl
set_option maxRecDepth 20000 in
theorem cl_6087 : x_look 6087 x_calT = some (0, mX2_roundedEstimate, 3) := rfl
set_option maxRecDepth 20000 in
theorem cl_8145 : x_look 8145 x_calT = some (0, mX6_beginSecondBidding, 1) := rfl
set_option maxRecDepth 20000 in
theorem cl_6091 : x_look 6091 x_calT = some (0, mX6_remainingOf, 2) := rfl
set_option maxRecDepth 20000 in
theorem cl_8157 : x_look 8157 x_calT = some (1, mX8_sum, 1) := rfl
set_option maxRecDepth 20000 in
theorem cl_10210 : x_look 10210 x_calT = some (4, mL_volume, 3) := rfl
set_option maxRecDepth 20000 in
theorem cl_10052 : x_look 10052 x_calT = some (0, mX8_volume, 2) := rfl
set_option maxRecDepth 20000 in
theorem cl_10213 : x_look 10213 x_calT = some (4, mL_offer, 5) := rfl
set_option maxRecDepth 20000 in
theorem cl_10055 : x_look 10055 x_calT = some (0, mX8_offer, 4) := rfl
set_option maxRecDepth 20000 in
theorem cl_8164 : x_look 8164 x_calT = some (1, mX8_isBidder, 1) := rfl
set_option maxRecDepth 20000 in
theorem cl_8168 : x_look 8168 x_calT = some (0, mX6_isBidding, 1) := rfl
set_option maxRecDepth 20000 in
theorem cl_8171 : x_look 8171 x_calT = some (0, mX0_isSealed, 2) := rfl
set_option maxRecDepth 20000 in
theorem cl_8174 : x_look 8174 x_calT = some (0, mX0_rateOf, 3) := rfl
set_option maxRecDepth 20000 in
theorem cl_8177 : x_look 8177 x_calT = some (0, mX0_setRate, 4) := rfl
set_option maxRecDepth 20000 in
theorem cl_10217 : x_look 10217 x_calT = some (4, mL_setDeposit, 4) := rfl
set_option maxRecDepth 20000 in
theorem cl_10059 : x_look 10059 x_calT = some (0, mX8_setDeposit, 3) := rfl
set_option maxRecDepth 20000 in
theorem cl_10220 : x_look 10220 x_calT = some (4, mL_seal, 3) := rfl
set_option maxRecDepth 20000 in
theorem cl_10062 : x_look 10062 x_calT = some (0, mX8_seal, 2) := rfl
set_option maxRecDepth 20000 in
theorem cl_8185 : x_look 8185 x_calT = some (0, mX0_sealNext, 2) := rfl
set_option maxRecDepth 20000 in
theorem cl_10223 : x_look 10223 x_calT = some (4, mL_withdraw, 2) := rfl
set_option maxRecDepth 20000 in
theorem cl_10065 : x_look 10065 x_calT = some (0, mX8_withdraw, 2) := rfl
set_option maxRecDepth 20000 in
theorem cl_8188 : x_look 8188 x_calT = some (0, mX0_delete, 2) := rfl
set_option maxRecDepth 20000 in
theorem cl_41 : x_look 41 x_calT = some (0, mX0_setRate, 4) := rfl
set_option maxRecDepth 20000 in
theorem cl_10227 : x_look 10227 x_calT = some (4, mL_open, 2) := rfl
set_option maxRecDepth 20000 in
theorem cl_10069 : x_look 10069 x_calT = some (0, mX8_open, 1) := rfl
set_option maxRecDepth 20000 in
theorem cl_8191 : x_look 8191 x_calT = some (0, mX0_validBids, 2) := rfl
set_option maxRecDepth 20000 in
theorem cl_82 : x_look 82 x_calT = some (0, mX0_isValid, 3) := rfl
set_option maxRecDepth 20000 in
theorem cl_78 : x_look 78 x_calT = some (0, mX0_problemOf, 3) := rfl
set_option maxRecDepth 20000 in
theorem cl_49 : x_look 49 x_calT = some (0, mX0_isSealed, 2) := rfl
set_option maxRecDepth 20000 in
theorem cl_53 : x_look 53 x_calT = some (0, mX0_hasLowRate, 4) := rfl
set_option maxRecDepth 20000 in
theorem cl_45 : x_look 45 x_calT = some (0, mX0_rateOf, 3) := rfl
set_option maxRecDepth 20000 in
theorem cl_57 : x_look 57 x_calT = some (0, mX0_valueOf, 2) := rfl
set_option maxRecDepth 20000 in
theorem cl_61 : x_look 61 x_calT = some (0, mX0_isDepositTooLow, 4) := rfl
set_option maxRecDepth 20000 in
theorem cl_10230 : x_look 10230 x_calT = some (4, mL_problem, 3) := rfl
set_option maxRecDepth 20000 in
theorem cl_10072 : x_look 10072 x_calT = some (0, mX8_problem, 2) := rfl
set_option maxRecDepth 20000 in
theorem cl_8195 : x_look 8195 x_calT = some (0, mX6_hasOpenBids, 1) := rfl
set_option maxRecDepth 20000 in
theorem cl_6073 : x_look 6073 x_calT = some (0, mX6_isBidding, 1) := rfl
set_option maxRecDepth 20000 in
theorem cl_8198 : x_look 8198 x_calT = some (0, mX0_problemOf, 3) := rfl
set_option maxRecDepth 20000 in
theorem cl_10233 : x_look 10233 x_calT = some (4, mL_value, 3) := rfl
set_option maxRecDepth 20000 in
theorem cl_10075 : x_look 10075 x_calT = some (0, mX8_value, 2) := rfl
set_option maxRecDepth 20000 in
theorem cl_8202 : x_look 8202 x_calT = some (0, mX0_valueOf, 2) := rfl
set_option maxRecDepth 20000 in
theorem cl_10236 : x_look 10236 x_calT = some (4, mL_rank, 3) := rfl
set_option maxRecDepth 20000 in
theorem cl_10079 : x_look 10079 x_calT = some (0, mX8_rank, 2) := rfl
set_option maxRecDepth 20000 in
theorem cl_8205 : x_look 8205 x_calT = some (0, mX0_rankOf, 3) := rfl
set_option maxRecDepth 20000 in
theorem cl_90 : x_look 90 x_calT = some (0, mX0_beats, 3) := rfl
set_option maxRecDepth 20000 in
theorem cl_86 : x_look 86 x_calT = some (0, mX0_goesBefore, 4) := rfl
set_option maxRecDepth 20000 in
theorem cl_10239 : x_look 10239 x_calT = some (4, mL_turningPoint, 3) := rfl
set_option maxRecDepth 20000 in
theorem cl_10082 : x_look 10082 x_calT = some (0, mX8_turningPoint, 2) := rfl
set_option maxRecDepth 20000 in
theorem cl_8208 : x_look 8208 x_calT = some (0, mX0_winner, 2) := rfl
set_option maxRecDepth 20000 in
theorem cl_8211 : x_look 8211 x_calT = some (1, mX8_requireFound, 1) := rfl
set_option maxRecDepth 20000 in
theorem cl_8214 : x_look 8214 x_calT = some (0, mX0_leastTurningChange, 4) := rfl
set_option maxRecDepth 20000 in
theorem cl_94 : x_look 94 x_calT = some (0, mX0_turningChange, 4) := rfl
set_option maxRecDepth 20000 in
theorem cl_107 : x_look 107 x_calT = some (0, mX0_growth, 3) := rfl
set_option maxRecDepth 20000 in
theorem cl_98 : x_look 98 x_calT = some (0, mX0_isLessChange, 3) := rfl
set_option maxRecDepth 20000 in
theorem cl_101 : x_look 101 x_calT = some (1, mJ9_abs_0f7a4, 1) := rfl
set_option maxRecDepth 20000 in
theorem cl_10242 : x_look 10242 x_calT = some (4, mL_leastWinningRate, 4) := rfl
set_option maxRecDepth 20000 in
theorem cl_10087 : x_look 10087 x_calT = some (0, mX8_leastWinningRate, 3) := rfl
set_option maxRecDepth 20000 in
theorem cl_8218 : x_look 8218 x_calT = some (0, mX0_leastRateToWin, 4) := rfl
set_option maxRecDepth 20000 in
theorem cl_110 : x_look 110 x_calT = some (0, mX0_leastValueToWin, 3) := rfl
set_option maxRecDepth 20000 in
theorem cl_116 : x_look 116 x_calT = some (1, mJ9_max_f86c9, 2) := rfl
set_option maxRecDepth 20000 in
theorem cl_10245 : x_look 10245 x_calT = some (4, mL_award, 2) := rfl
set_option maxRecDepth 20000 in
theorem cl_10090 : x_look 10090 x_calT = some (0, mX8_award, 1) := rfl
set_option maxRecDepth 20000 in
theorem cl_8221 : x_look 8221 x_calT = some (0, mX6_beginContract, 2) := rfl
set_option maxRecDepth 20000 in
theorem cl_6105 : x_look 6105 x_calT = some (0, mX0_rateOf, 3) := rfl
set_option maxRecDepth 20000 in
theorem cl_10248 : x_look 10248 x_calT = some (4, mL_setIndex, 4) := rfl
set_option maxRecDepth 20000 in
theorem cl_10093 : x_look 10093 x_calT = some (0, mX8_setIndex, 4) := rfl
set_option maxRecDepth 20000 in
theorem cl_8224 : x_look 8224 x_calT = some (1, mX8_isQuarter, 1) := rfl
set_option maxRecDepth 20000 in
theorem cl_8231 : x_look 8231 x_calT = some (0, mX1_setIndexOf, 4) := rfl
set_option maxRecDepth 20000 in
theorem cl_10252 : x_look 10252 x_calT = some (4, mL_rate, 4) := rfl
set_option maxRecDepth 20000 in
theorem cl_10097 : x_look 10097 x_calT = some (0, mX8_rate, 3) := rfl
set_option maxRecDepth 20000 in
theorem cl_8236 : x_look 8236 x_calT = some (0, mX6_hasContract, 1) := rfl
set_option maxRecDepth 20000 in
theorem cl_8239 : x_look 8239 x_calT = some (0, mX1_adjustedRate, 4) := rfl
set_option maxRecDepth 20000 in
theorem cl_10255 : x_look 10255 x_calT = some (4, mL_indexFor, 4) := rfl
set_option maxRecDepth 20000 in
theorem cl_10100 : x_look 10100 x_calT = some (0, mX8_indexFor, 3) := rfl
set_option maxRecDepth 20000 in
theorem cl_8242 : x_look 8242 x_calT = some (0, mX1_leastIndexFor, 4) := rfl
set_option maxRecDepth 20000 in
theorem cl_10258 : x_look 10258 x_calT = some (4, mL_scale, 5) := rfl
set_option maxRecDepth 20000 in
theorem cl_10103 : x_look 10103 x_calT = some (0, mX8_scale, 4) := rfl
set_option maxRecDepth 20000 in
theorem cl_8257 : x_look 8257 x_calT = some (1, mX8_netVolume, 2) := rfl
set_option maxRecDepth 20000 in
theorem cl_8260 : x_look 8260 x_calT = some (0, mX4_add, 4) := rfl
set_option maxRecDepth 20000 in
theorem cl_10261 : x_look 10261 x_calT = some (4, mL_check, 5) := rfl
set_option maxRecDepth 20000 in
theorem cl_10106 : x_look 10106 x_calT = some (0, mX8_check, 4) := rfl
set_option maxRecDepth 20000 in
theorem cl_8262 : x_look 8262 x_calT = some (0, mX8_isLoad, 2) := rfl
set_option maxRecDepth 20000 in
theorem cl_8265 : x_look 8265 x_calT = some (0, mX4_isChecked, 2) := rfl
set_option maxRecDepth 20000 in
theorem cl_8268 : x_look 8268 x_calT = some (0, mX4_setCheck, 3) := rfl
set_option maxRecDepth 20000 in
theorem cl_10264 : x_look 10264 x_calT = some (4, mL_voidLoad, 3) := rfl
set_option maxRecDepth 20000 in
theorem cl_10109 : x_look 10109 x_calT = some (0, mX8_voidLoad, 2) := rfl
set_option maxRecDepth 20000 in
theorem cl_8277 : x_look 8277 x_calT = some (0, mX4_remove, 2) := rfl
set_option maxRecDepth 20000 in
theorem cl_4038 : x_look 4038 x_calT = some (0, mX4_closeGap, 3) := rfl
set_option maxRecDepth 20000 in
theorem cl_10267 : x_look 10267 x_calT = some (4, mL_worstCheck, 2) := rfl
set_option maxRecDepth 20000 in
theorem cl_10112 : x_look 10112 x_calT = some (0, mX8_worstCheck, 1) := rfl
set_option maxRecDepth 20000 in
theorem cl_8278 : x_look 8278 x_calT = some (0, mX4_worstChecked, 1) := rfl
set_option maxRecDepth 20000 in
theorem cl_4048 : x_look 4048 x_calT = some (0, mX4_isChecked, 2) := rfl
set_option maxRecDepth 20000 in
theorem cl_4052 : x_look 4052 x_calT = some (0, mX4_isWorse, 3) := rfl
set_option maxRecDepth 20000 in
theorem cl_10270 : x_look 10270 x_calT = some (4, mL_scaled, 5) := rfl
set_option maxRecDepth 20000 in
theorem cl_10115 : x_look 10115 x_calT = some (0, mX8_scaled, 4) := rfl
set_option maxRecDepth 20000 in
theorem cl_8282 : x_look 8282 x_calT = some (0, mX4_netSum, 4) := rfl
set_option maxRecDepth 20000 in
theorem cl_10273 : x_look 10273 x_calT = some (4, mL_cutShare, 3) := rfl
set_option maxRecDepth 20000 in
theorem cl_10118 : x_look 10118 x_calT = some (0, mX8_cutShare, 2) := rfl
set_option maxRecDepth 20000 in
theorem cl_10277 : x_look 10277 x_calT = some (4, mL_net, 3) := rfl
set_option maxRecDepth 20000 in
theorem cl_10122 : x_look 10122 x_calT = some (0, mX8_net, 2) := rfl
set_option maxRecDepth 20000 in
theorem cl_10289 : x_look 10289 x_calT = some (4, mL_endMonth, 2) := rfl
set_option maxRecDepth 20000 in
theorem cl_10125 : x_look 10125 x_calT = some (0, mX8_endMonth, 1) := rfl
set_option maxRecDepth 20000 in
theorem cl_8295 : x_look 8295 x_calT = some (0, mX6_bookMonth, 1) := rfl
set_option maxRecDepth 20000 in
theorem cl_6147 : x_look 6147 x_calT = some (0, mX6_withInterest, 2) := rfl
set_option maxRecDepth 20000 in
theorem cl_10292 : x_look 10292 x_calT = some (4, mL_charge, 3) := rfl
set_option maxRecDepth 20000 in
theorem cl_10129 : x_look 10129 x_calT = some (0, mX8_charge, 2) := rfl
set_option maxRecDepth 20000 in
theorem cl_8302 : x_look 8302 x_calT = some (0, mX6_chargeOf, 2) := rfl
set_option maxRecDepth 20000 in
theorem cl_10295 : x_look 10295 x_calT = some (4, mL_pay, 3) := rfl
set_option maxRecDepth 20000 in
theorem cl_10132 : x_look 10132 x_calT = some (0, mX8_pay, 2) := rfl
set_option maxRecDepth 20000 in
theorem cl_10302 : x_look 10302 x_calT = some (4, mL_projectedDebt, 3) := rfl
set_option maxRecDepth 20000 in
theorem cl_10135 : x_look 10135 x_calT = some (0, mX8_projectedDebt, 2) := rfl
set_option maxRecDepth 20000 in
theorem cl_8305 : x_look 8305 x_calT = some (0, mX6_withInterest, 2) := rfl
set_option maxRecDepth 20000 in
theorem cl_10309 : x_look 10309 x_calT = some (4, mL_close, 2) := rfl
set_option maxRecDepth 20000 in
theorem cl_10138 : x_look 10138 x_calT = some (0, mX8_close, 1) := rfl
set_option maxRecDepth 20000 in
theorem cl_8313 : x_look 8313 x_calT = some (0, mX6_closeContract, 1) := rfl
set_option maxRecDepth 20000 in
theorem cl_6151 : x_look 6151 x_calT = some (0, mX6_bookMonth, 1) := rfl
set_option maxRecDepth 20000 in
theorem cl_6154 : x_look 6154 x_calT = some (0, mX6_unbooked, 1) := rfl
set_option maxRecDepth 20000 in
theorem cl_10312 : x_look 10312 x_calT = some (4, mL_remaining, 3) := rfl
set_option maxRecDepth 20000 in
theorem cl_10141 : x_look 10141 x_calT = some (0, mX8_remaining, 2) := rfl
set_option maxRecDepth 20000 in
theorem cl_8316 : x_look 8316 x_calT = some (0, mX6_remainingOf, 2) := rfl
set_option maxRecDepth 20000 in
theorem cl_10315 : x_look 10315 x_calT = some (4, mL_declareDefault, 2) := rfl
set_option maxRecDepth 20000 in
theorem cl_10144 : x_look 10144 x_calT = some (0, mX8_declareDefault, 1) := rfl
set_option maxRecDepth 20000 in
theorem cl_8319 : x_look 8319 x_calT = some (0, mX6_isInDefault, 1) := rfl
set_option maxRecDepth 20000 in
theorem cl_6158 : x_look 6158 x_calT = some (0, mX6_remainingSum, 1) := rfl
set_option maxRecDepth 20000 in
theorem cl_8322 : x_look 8322 x_calT = some (0, mX6_remainingSum, 1) := rfl
set_option maxRecDepth 20000 in
theorem cl_10318 : x_look 10318 x_calT = some (4, mL_damages, 2) := rfl
set_option maxRecDepth 20000 in
theorem cl_10147 : x_look 10147 x_calT = some (0, mX8_damages, 1) := rfl
set_option maxRecDepth 20000 in
theorem cl_8325 : x_look 8325 x_calT = some (0, mX6_lossByResale, 1) := rfl
set_option maxRecDepth 20000 in
theorem cl_6162 : x_look 6162 x_calT = some (0, mX0_winner, 2) := rfl
set_option maxRecDepth 20000 in
theorem cl_6166 : x_look 6166 x_calT = some (0, mX0_valueOf, 2) := rfl
set_option maxRecDepth 20000 in
theorem cl_10321 : x_look 10321 x_calT = some (4, mL_undo, 2) := rfl
set_option maxRecDepth 20000 in
theorem cl_10150 : x_look 10150 x_calT = some (0, mX8_undo, 1) := rfl
set_option maxRecDepth 20000 in
theorem cl_8331 : x_look 8331 x_calT = some (0, mX3_takeBack, 2) := rfl
set_option maxRecDepth 20000 in
theorem cl_10156 : x_look 10156 x_calT = some (2, mX9_init, 1) := rfl
set_option maxRecDepth 20000 in
theorem cl_10163 : x_look 10163 x_calT = some (0, mX9_thrown, 1) := rfl
set_option maxRecDepth 20000 in
theorem cl_10323 : x_look 10323 x_calT = some (0, mX9_undo, 1) := rfl
set_option maxRecDepth 20000 in
theorem cl_10162 : x_look 10162 x_calT = some (0, mX9_append, 6) := rfl
set_option maxRecDepth 20000 in
theorem cl_10169 : x_look 10169 x_calT = some (0, mX9_load, 2) := rfl
set_option maxRecDepth 20000 in
theorem cl_9074 : x_look 9074 x_calT = some (1, mX9_isIn, 3) := rfl
set_option maxRecDepth 20000 in
theorem cl_9107 : x_look 9107 x_calT = some (0, mX9_next, 1) := rfl
set_option maxRecDepth 20000 in
theorem cl_9063 : x_look 9063 x_calT = some (0, mX9_see, 2) := rfl
set_option maxRecDepth 20000 in
theorem cl_9078 : x_look 9078 x_calT = some (0, mX9_wordAt, 1) := rfl
set_option maxRecDepth 20000 in
theorem cl_9125 : x_look 9125 x_calT = some (0, mX9_readsAll, 1) := rfl
set_option maxRecDepth 20000 in
theorem cl_9110 : x_look 9110 x_calT = some (0, mX9_must, 2) := rfl
set_option maxRecDepth 20000 in
theorem cl_9099 : x_look 9099 x_calT = some (0, mX9_is, 2) := rfl
set_option maxRecDepth 20000 in
theorem cl_9103 : x_look 9103 x_calT = some (0, mX9_fails, 2) := rfl
set_option maxRecDepth 20000 in
theorem cl_9114 : x_look 9114 x_calT = some (0, mX9_takes, 3) := rfl
set_option maxRecDepth 20000 in
theorem cl_9119 : x_look 9119 x_calT = some (0, mX9_readsSpecies, 1) := rfl
set_option maxRecDepth 20000 in
theorem cl_9122 : x_look 9122 x_calT = some (0, mX9_readsPlot, 1) := rfl
set_option maxRecDepth 20000 in
theorem cl_9128 : x_look 9128 x_calT = some (0, mX9_keeps, 1) := rfl
set_option maxRecDepth 20000 in
theorem cl_10173 : x_look 10173 x_calT = some (0, mX9_errorPosition, 1) := rfl
set_option maxRecDepth 20000 in
theorem cl_10177 : x_look 10177 x_calT = some (0, mX9_phase, 1) := rfl
set_option maxRecDepth 20000 in
theorem cl_10181 : x_look 10181 x_calT = some (0, mX9_plotCount, 1) := rfl
set_option maxRecDepth 20000 in
theorem cl_10185 : x_look 10185 x_calT = some (0, mX9_addPlot, 7) := rfl
set_option maxRecDepth 20000 in
theorem cl_9133 : x_look 9133 x_calT = some (1, mX9_isVolume, 2) := rfl
set_option maxRecDepth 20000 in
theorem cl_10188 : x_look 10188 x_calT = some (0, mX9_removePlot, 2) := rfl
set_option maxRecDepth 20000 in
theorem cl_10192 : x_look 10192 x_calT = some (0, mX9_estimate, 3) := rfl
set_option maxRecDepth 20000 in
theorem cl_9151 : x_look 9151 x_calT = some (0, mX9_isAny, 2) := rfl
set_option maxRecDepth 20000 in
theorem cl_9137 : x_look 9137 x_calT = some (0, mX9_isSpecies, 2) := rfl
set_option maxRecDepth 20000 in
theorem cl_9143 : x_look 9143 x_calT = some (0, mX9_sumOf, 2) := rfl
set_option maxRecDepth 20000 in
theorem cl_9140 : x_look 9140 x_calT = some (0, mX9_inPlot, 3) := rfl
set_option maxRecDepth 20000 in
theorem cl_9154 : x_look 9154 x_calT = some (1, mX9_part, 3) := rfl
set_option maxRecDepth 20000 in
theorem cl_10195 : x_look 10195 x_calT = some (0, mX9_squaredError, 3) := rfl
set_option maxRecDepth 20000 in
theorem cl_9158 : x_look 9158 x_calT = some (0, mX9_spreadOf, 2) := rfl
set_option maxRecDepth 20000 in
theorem cl_10199 : x_look 10199 x_calT = some (0, mX9_isAccurate, 3) := rfl
set_option maxRecDepth 20000 in
theorem cl_9163 : x_look 9163 x_calT = some (0, mX9_refusal, 3) := rfl
set_option maxRecDepth 20000 in
theorem cl_10202 : x_look 10202 x_calT = some (0, mX9_neededPlots, 3) := rfl
set_option maxRecDepth 20000 in
theorem cl_10205 : x_look 10205 x_calT = some (0, mX9_mostInfluentialPlot, 2) := rfl
set_option maxRecDepth 20000 in
theorem cl_10209 : x_look 10209 x_calT = some (0, mX9_advertise, 1) := rfl
set_option maxRecDepth 20000 in
theorem cl_9174 : x_look 9174 x_calT = some (0, mX9_remains, 2) := rfl
set_option maxRecDepth 20000 in
theorem cl_9266 : x_look 9266 x_calT = some (0, mX9_netsOf, 4) := rfl
set_option maxRecDepth 20000 in
theorem cl_9258 : x_look 9258 x_calT = some (0, mX9_ofLoad, 3) := rfl
set_option maxRecDepth 20000 in
theorem cl_10212 : x_look 10212 x_calT = some (0, mX9_volume, 2) := rfl
set_option maxRecDepth 20000 in
theorem cl_9177 : x_look 9177 x_calT = some (0, mX9_volumeAt, 2) := rfl
set_option maxRecDepth 20000 in
theorem cl_9170 : x_look 9170 x_calT = some (0, mX9_isSecond, 1) := rfl
set_option maxRecDepth 20000 in
theorem cl_10216 : x_look 10216 x_calT = some (0, mX9_offer, 4) := rfl
set_option maxRecDepth 20000 in
theorem cl_9185 : x_look 9185 x_calT = some (1, mX9_isBidder, 1) := rfl
set_option maxRecDepth 20000 in
theorem cl_9190 : x_look 9190 x_calT = some (0, mX9_isBidding, 1) := rfl
set_option maxRecDepth 20000 in
theorem cl_9193 : x_look 9193 x_calT = some (0, mX9_isSealed, 2) := rfl
set_option maxRecDepth 20000 in
theorem cl_9182 : x_look 9182 x_calT = some (0, mX9_ofBid, 3) := rfl
set_option maxRecDepth 20000 in
theorem cl_9196 : x_look 9196 x_calT = some (0, mX9_setsBid, 4) := rfl
set_option maxRecDepth 20000 in
theorem cl_10219 : x_look 10219 x_calT = some (0, mX9_setDeposit, 3) := rfl
set_option maxRecDepth 20000 in
theorem cl_10222 : x_look 10222 x_calT = some (0, mX9_seal, 2) := rfl
set_option maxRecDepth 20000 in
theorem cl_10226 : x_look 10226 x_calT = some (0, mX9_withdraw, 2) := rfl
set_option maxRecDepth 20000 in
theorem cl_10229 : x_look 10229 x_calT = some (0, mX9_open, 1) := rfl
set_option maxRecDepth 20000 in
theorem cl_9202 : x_look 9202 x_calT = some (0, mX9_problemOf, 2) := rfl
set_option maxRecDepth 20000 in
theorem cl_9207 : x_look 9207 x_calT = some (0, mX9_valueOf, 4) := rfl
set_option maxRecDepth 20000 in
theorem cl_10232 : x_look 10232 x_calT = some (0, mX9_problem, 2) := rfl
set_option maxRecDepth 20000 in
theorem cl_9218 : x_look 9218 x_calT = some (0, mX9_bidRefusal, 2) := rfl
set_option maxRecDepth 20000 in
theorem cl_9215 : x_look 9215 x_calT = some (0, mX9_isOpened, 1) := rfl
set_option maxRecDepth 20000 in
theorem cl_10235 : x_look 10235 x_calT = some (0, mX9_value, 2) := rfl
set_option maxRecDepth 20000 in
theorem cl_10238 : x_look 10238 x_calT = some (0, mX9_rank, 2) := rfl
set_option maxRecDepth 20000 in
theorem cl_9211 : x_look 9211 x_calT = some (0, mX9_isBefore, 5) := rfl
set_option maxRecDepth 20000 in
theorem cl_10241 : x_look 10241 x_calT = some (0, mX9_turningPoint, 2) := rfl
set_option maxRecDepth 20000 in
theorem cl_9221 : x_look 9221 x_calT = some (0, mX9_winnerBy, 3) := rfl
set_option maxRecDepth 20000 in
theorem cl_10244 : x_look 10244 x_calT = some (0, mX9_leastWinningRate, 3) := rfl
set_option maxRecDepth 20000 in
theorem cl_9231 : x_look 9231 x_calT = some (0, mX9_couldBeValid, 3) := rfl
set_option maxRecDepth 20000 in
theorem cl_9235 : x_look 9235 x_calT = some (0, mX9_leastRate, 3) := rfl
set_option maxRecDepth 20000 in
theorem cl_9224 : x_look 9224 x_calT = some (0, mX9_firstBut, 2) := rfl
set_option maxRecDepth 20000 in
theorem cl_10247 : x_look 10247 x_calT = some (0, mX9_award, 1) := rfl
set_option maxRecDepth 20000 in
theorem cl_10251 : x_look 10251 x_calT = some (0, mX9_setIndex, 4) := rfl
set_option maxRecDepth 20000 in
theorem cl_10254 : x_look 10254 x_calT = some (0, mX9_rate, 3) := rfl
set_option maxRecDepth 20000 in
theorem cl_9246 : x_look 9246 x_calT = some (0, mX9_rateOf, 3) := rfl
set_option maxRecDepth 20000 in
theorem cl_9243 : x_look 9243 x_calT = some (0, mX9_rateBy, 3) := rfl
set_option maxRecDepth 20000 in
theorem cl_10257 : x_look 10257 x_calT = some (0, mX9_indexFor, 3) := rfl
set_option maxRecDepth 20000 in
theorem cl_10260 : x_look 10260 x_calT = some (0, mX9_scale, 4) := rfl
set_option maxRecDepth 20000 in
theorem cl_9249 : x_look 9249 x_calT = some (1, mX9_isScaled, 2) := rfl
set_option maxRecDepth 20000 in
theorem cl_9252 : x_look 9252 x_calT = some (1, mX9_netOf, 2) := rfl
set_option maxRecDepth 20000 in
theorem cl_10263 : x_look 10263 x_calT = some (0, mX9_check, 4) := rfl
set_option maxRecDepth 20000 in
theorem cl_9255 : x_look 9255 x_calT = some (0, mX9_isLoad, 2) := rfl
set_option maxRecDepth 20000 in
theorem cl_10279 : x_look 10279 x_calT = some (0, mX9_net, 2) := rfl
set_option maxRecDepth 20000 in
theorem cl_10266 : x_look 10266 x_calT = some (0, mX9_voidLoad, 2) := rfl
set_option maxRecDepth 20000 in
theorem cl_10269 : x_look 10269 x_calT = some (0, mX9_worstCheck, 1) := rfl
set_option maxRecDepth 20000 in
theorem cl_9261 : x_look 9261 x_calT = some (0, mX9_apart, 2) := rfl
set_option maxRecDepth 20000 in
theorem cl_10272 : x_look 10272 x_calT = some (0, mX9_scaled, 4) := rfl
set_option maxRecDepth 20000 in
theorem cl_10276 : x_look 10276 x_calT = some (0, mX9_cutShare, 2) := rfl
set_option maxRecDepth 20000 in
theorem cl_10284 : x_look 10284 x_calT = some (0, mX9_factor, 2) := rfl
set_option maxRecDepth 20000 in
theorem cl_9275 : x_look 9275 x_calT = some (0, mX9_laysFactor, 1) := rfl
set_option maxRecDepth 20000 in
theorem cl_10288 : x_look 10288 x_calT = some (0, mX9_month, 1) := rfl
set_option maxRecDepth 20000 in
theorem cl_10291 : x_look 10291 x_calT = some (0, mX9_endMonth, 1) := rfl
set_option maxRecDepth 20000 in
theorem cl_9283 : x_look 9283 x_calT = some (0, mX9_ends, 1) := rfl
set_option maxRecDepth 20000 in
theorem cl_9280 : x_look 9280 x_calT = some (0, mX9_chargeOf, 2) := rfl
set_option maxRecDepth 20000 in
theorem cl_10294 : x_look 10294 x_calT = some (0, mX9_charge, 2) := rfl
set_option maxRecDepth 20000 in
theorem cl_10297 : x_look 10297 x_calT = some (0, mX9_pay, 2) := rfl
set_option maxRecDepth 20000 in
theorem cl_10304 : x_look 10304 x_calT = some (0, mX9_projectedDebt, 2) := rfl
set_option maxRecDepth 20000 in
theorem cl_10301 : x_look 10301 x_calT = some (0, mX9_debt, 1) := rfl
set_option maxRecDepth 20000 in
theorem cl_10308 : x_look 10308 x_calT = some (0, mX9_adjustment, 1) := rfl
set_option maxRecDepth 20000 in
theorem cl_9288 : x_look 9288 x_calT = some (0, mX9_adjusts, 1) := rfl
set_option maxRecDepth 20000 in
theorem cl_10311 : x_look 10311 x_calT = some (0, mX9_close, 1) := rfl
set_option maxRecDepth 20000 in
theorem cl_10314 : x_look 10314 x_calT = some (0, mX9_remaining, 2) := rfl
set_option maxRecDepth 20000 in
theorem cl_10317 : x_look 10317 x_calT = some (0, mX9_declareDefault, 1) := rfl
set_option maxRecDepth 20000 in
theorem cl_9292 : x_look 9292 x_calT = some (0, mX9_remainsInAll, 1) := rfl
set_option maxRecDepth 20000 in
theorem cl_10320 : x_look 10320 x_calT = some (0, mX9_damages, 1) := rfl
set_option maxRecDepth 20000 in
theorem cl_7024 : x_look 7024 x_calT = some (3, mX8_copy, 2) := rfl
set_option maxRecDepth 20000 in
theorem cl_2025 : x_look 2025 x_calT = some (3, mX8_copy, 2) := rfl
set_option maxRecDepth 20000 in
theorem cl_37 : x_look 37 x_calT = some (3, mX8_copy, 2) := rfl
set_option maxRecDepth 20000 in
theorem cl_1048 : x_look 1048 x_calT = some (3, mX8_copy, 2) := rfl
set_option maxRecDepth 20000 in
theorem cl_4034 : x_look 4034 x_calT = some (3, mX8_copy, 2) := rfl

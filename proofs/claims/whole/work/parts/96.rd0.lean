/-! ===== the text: scans, numbers, words (laid by wip/whole/src/rd0.py) ===== -/
section
abbrev y_rg (g : Nat → Int32) (n : Nat) (lo hi : Int32) (j : Nat) : Prop := j < n ∧ lo ≤ g j ∧ g j ≤ hi
/-- the first place from p on that isn't of the range -/
def y_fw (g : Nat → Int32) (n : Nat) (lo hi : Int32) (p : Nat) : Nat := y_sch (fun q => ¬ y_rg g n lo hi q) (n - p) p
variable {g : Nat → Int32} {n : Nat} {lo hi : Int32}
theorem fw_s {p : Nat} (h : y_rg g n lo hi p) : y_fw g n lo hi p = y_fw g n lo hi (p + 1) := by
  unfold y_fw
  rw [show n - p = (n - (p + 1)) + 1 by have := h.1; omega, y_sch, if_neg (fun z => z h)]
theorem fw_0 {p : Nat} (h : ¬ y_rg g n lo hi p) : y_fw g n lo hi p = p := by
  unfold y_fw
  by_cases c : n - p = 0
  · rw [c, y_sch]
  · rw [show n - p = (n - p - 1) + 1 by omega, y_sch, if_pos h]
theorem fw_all : ∀ (d p : Nat), p + d = n → p ≤ y_fw g n lo hi p ∧ y_fw g n lo hi p ≤ n ∧ ¬ y_rg g n lo hi (y_fw g n lo hi p) ∧ ∀ q, p ≤ q → q < y_fw g n lo hi p → y_rg g n lo hi q
  | 0, p, h => by
    have c : ¬ y_rg g n lo hi p := fun z => by have := z.1; omega
    rw [fw_0 c]
    exact ⟨Nat.le_refl _, by omega, c, fun q h1 h2 => by omega⟩
  | d + 1, p, h => by
    by_cases c : y_rg g n lo hi p
    · rw [fw_s c]
      obtain ⟨h1, h2, h3, h4⟩ := fw_all d (p + 1) (by omega)
      refine ⟨by omega, h2, h3, fun q h5 h6 => ?_⟩
      by_cases e : q = p
      · rw [e]; exact c
      · exact h4 q (by omega) h6
    · rw [fw_0 c]
      exact ⟨Nat.le_refl _, by omega, c, fun q h1 h2 => by omega⟩
theorem fw_ge {p : Nat} (h : p ≤ n) : p ≤ y_fw g n lo hi p := (fw_all (n - p) p (by omega)).1
theorem fw_le {p : Nat} (h : p ≤ n) : y_fw g n lo hi p ≤ n := (fw_all (n - p) p (by omega)).2.1
theorem fw_st {p : Nat} (h : p ≤ n) : ¬ y_rg g n lo hi (y_fw g n lo hi p) := (fw_all (n - p) p (by omega)).2.2.1
theorem fw_in {p q : Nat} (h : p ≤ n) (h1 : p ≤ q) (h2 : q < y_fw g n lo hi p) : y_rg g n lo hi q := (fw_all (n - p) p (by omega)).2.2.2 q h1 h2
theorem fw_id {p : Nat} (h : p ≤ n) : y_fw g n lo hi (y_fw g n lo hi p) = y_fw g n lo hi p := fw_0 (fw_st h)
theorem fw_eq {p e : Nat} (h : p ≤ e) (hi' : ∀ q, p ≤ q → q < e → y_rg g n lo hi q) (hs : ¬ y_rg g n lo hi e) : y_fw g n lo hi p = e := by
  obtain ⟨d, rfl⟩ : ∃ d, e = p + d := ⟨e - p, by omega⟩
  clear h
  induction d generalizing p with
  | zero => exact fw_0 hs
  | succ d ih =>
    rw [fw_s (hi' p (Nat.le_refl _) (by omega)), ih (p := p + 1) (fun q h1 h2 => hi' q (by omega) (by omega)) (by rw [show p + 1 + d = p + (d + 1) by omega]; exact hs)]
    omega
/-- the number of i digits from s on -/
def y_dg (g : Nat → Int32) (q : Nat) : Nat := ((g q).toInt - 48).toNat
def y_nv (g : Nat → Int32) (s : Nat) : Nat → Nat
  | 0 => 0
  | i + 1 => if y_nv g s i < 10000000 then 10 * y_nv g s i + y_dg g (s + i) else y_nv g s i
theorem nv_b {s : Nat} (hd : ∀ q, q < n → y_dg g q ≤ 300) : ∀ i, s + i ≤ n → y_nv g s i ≤ 100000400
  | 0, _ => by rw [y_nv]; omega
  | i + 1, h => by
    have h1 := nv_b (s := s) hd i (by omega)
    have h2 := hd (s + i) (by omega)
    rw [y_nv]
    split <;> omega
/-- the word of a text stands at s -/
abbrev y_wd (g : Nat → Int32) (n : Nat) (w : Nat) (s : Nat) : Prop := (∀ i, i < (x_txt w).length → s + i < n ∧ g (s + i) = (x_txt w).getD i 0) ∧ ¬ y_rg g n 97 122 (s + (x_txt w).length)
/-- a byte, as the class keeps it -/
def y_cb (f : Nat → Int32) (n : Nat) (j : Nat) : Int32 := if j < n then f j else 0
/-- as the model sees it -/
def y_mb (f : Nat → Int32) (n : Nat) (j : Nat) : Int32 := if j < n then f j else -1
def y_G (f : Nat → Int32) (n : Nat) (g : Nat → Int32) : Prop := ∀ j, j < n → f j = (g j).toInt8.toInt32 ∧ y_in (g j) 0 255
theorem b8 {x : Int32} (h : y_in x 0 255) : x.toInt8.toInt32.toInt = if x.toInt < 128 then x.toInt else x.toInt - 256 := by
  have h1 := h.1
  have h2 := h.2
  rw [Int8.toInt_toInt32, Int32.toInt_toInt8]
  unfold Int.bmod
  by_cases c : x.toInt < 128
  · rw [if_pos c]
    simp only []
    rw [if_pos (by omega)]
    omega
  · rw [if_neg c]
    simp only []
    rw [if_neg (by omega)]
    omega
theorem cb_in {f : Nat → Int32} {j : Nat} (G : y_G f n g) (h1 : 1 ≤ lo.toInt) (h2 : hi.toInt ≤ 127) : (lo ≤ y_cb f n j ∧ y_cb f n j ≤ hi) ↔ y_rg g n lo hi j := by
  unfold y_cb
  by_cases c : j < n
  · obtain ⟨e, hb⟩ := G j c
    rw [if_pos c, e, t_le, t_le, b8 hb]
    have g1 := hb.1
    have g2 := hb.2
    unfold y_rg
    rw [t_le, t_le]
    by_cases d : (g j).toInt < 128
    · rw [if_pos d]
      exact ⟨fun z => ⟨c, z⟩, fun z => z.2⟩
    · rw [if_neg d]
      exact ⟨fun z => by omega, fun z => by omega⟩
  · rw [if_neg c, t_le]
    exact ⟨fun z => by have := z.1; rw [show (0 : Int32).toInt = 0 from by decide] at this; omega, fun z => absurd z.1 c⟩
theorem cb_eq {f : Nat → Int32} {j : Nat} {v : Int32} (G : y_G f n g) (h1 : 1 ≤ v.toInt) (h2 : v.toInt ≤ 127) : (y_cb f n j = v) ↔ (j < n ∧ g j = v) := by
  have h := cb_in (lo := v) (hi := v) (j := j) G h1 h2
  have k1 : (y_cb f n j = v) ↔ (v ≤ y_cb f n j ∧ y_cb f n j ≤ v) := ⟨fun z => by rw [z]; exact ⟨Int32.le_refl _, Int32.le_refl _⟩, fun z => Int32.le_antisymm z.2 z.1⟩
  have k2 : (g j = v) ↔ (v ≤ g j ∧ g j ≤ v) := ⟨fun z => by rw [z]; exact ⟨Int32.le_refl _, Int32.le_refl _⟩, fun z => Int32.le_antisymm z.2 z.1⟩
  rw [k1, h, k2]
theorem cb_dg {f : Nat → Int32} {j : Nat} (G : y_G f n g) (h : y_rg g n 48 57 j) : (y_cb f n j).toInt = 48 + (y_dg g j : Int) ∧ y_dg g j ≤ 9 := by
  obtain ⟨c, h1, h2⟩ := h
  obtain ⟨e, hb⟩ := G j c
  rw [t_le, show (48 : Int32).toInt = 48 from by decide] at h1
  rw [t_le, show (57 : Int32).toInt = 57 from by decide] at h2
  unfold y_cb y_dg
  rw [if_pos c, e, b8 hb, if_pos (by omega)]
  omega
theorem mb_in {f : Nat → Int32} {j : Nat} (hf : ∀ j, j < n → f j = g j) (h1 : 0 ≤ lo.toInt) : (lo ≤ y_mb f n j ∧ y_mb f n j ≤ hi) ↔ y_rg g n lo hi j := by
  unfold y_mb
  by_cases c : j < n
  · rw [if_pos c, hf j c]
    exact ⟨fun z => ⟨c, z⟩, fun z => z.2⟩
  · rw [if_neg c, t_le]
    exact ⟨fun z => by have := z.1; rw [show (-1 : Int32).toInt = -1 from by decide] at this; omega, fun z => absurd z.1 c⟩
theorem mb_eq {f : Nat → Int32} {j : Nat} {v : Int32} (hf : ∀ j, j < n → f j = g j) (h1 : 0 ≤ v.toInt) : (y_mb f n j = v) ↔ (j < n ∧ g j = v) := by
  have h := mb_in (lo := v) (hi := v) (j := j) hf h1
  have k1 : (y_mb f n j = v) ↔ (v ≤ y_mb f n j ∧ y_mb f n j ≤ v) := ⟨fun z => by rw [z]; exact ⟨Int32.le_refl _, Int32.le_refl _⟩, fun z => Int32.le_antisymm z.2 z.1⟩
  have k2 : (g j = v) ↔ (v ≤ g j ∧ g j ≤ v) := ⟨fun z => by rw [z]; exact ⟨Int32.le_refl _, Int32.le_refl _⟩, fun z => Int32.le_antisymm z.2 z.1⟩
  rw [k1, h, k2]
theorem rg_eq {j : Nat} {v : Int32} : y_rg g n v v j ↔ (j < n ∧ g j = v) := ⟨fun z => ⟨z.1, Int32.le_antisymm z.2.2 z.2.1⟩, fun z => ⟨z.1, by rw [z.2]; exact Int32.le_refl _, by rw [z.2]; exact Int32.le_refl _⟩⟩
end

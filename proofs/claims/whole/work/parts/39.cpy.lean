/-! ===== lengths, copies ===== -/
section
variable {X : x_X} {M : x_MI} {pc : Nat} {ls : x_Ls} {st : List Value} {I : Nat → Nat → Int32} {L : Nat → Nat → Int64} {R : Nat → Nat → Option Nat} {n c k : Nat} {r : x_O × x_Mem × Nat}
theorem x_len_w {s : x_S} {q t w : Nat} (hr : q < s.2.1) (hs : x_shp q = (t, w)) (ht : Nat.blt t 4 = true) : x_len X s q = some w := by
  rw [x_len_own hr (by rw [hs]; exact x_bl ht), hs]
theorem e_len {q t w : Nat} (hd : decode (x_mb M) pc = .ok (.arraylength, 1)) (hr : q < n) (hs : x_shp q = (t, w)) (ht : Nat.blt t 4 = true) (kk : x_Ev X M (pc + 1) ls (.int (Int32.ofNat w) :: st) ((I, L, R), n, c, k) r) : x_Ev X M pc ls (.ref q :: st) ((I, L, R), n, c, k) r := e_alen hd (x_len_w (s := ((I, L, R), n, c, k)) hr hs ht) kk
theorem x_arr_w {s : x_S} {q w : Nat} (hr : q < s.2.1) (hs : x_shp q = (1, w)) : x_arr X s q = some (w, s.1.1 q) := by
  rw [x_arr_own hr (by rw [hs]), hs]
theorem n_clamp {i : Int32} {j : Nat} (h : i = Int32.ofNat j) (hj : j < 10000) : i.toNatClampNeg = j ∧ ¬ i < 0 := by
  refine ⟨by rw [h]; exact Int32.toNatClampNeg_ofNat_of_lt (by omega), ?_⟩
  rw [h, Int32.lt_iff_toInt_lt, Int32.toInt_ofNat_of_lt (by omega)]
  simp
/-- arraycopy of ints into an own array -/
theorem e_cpyI {idx a b wb s d m : Nat} {i j w : Int32} {f : Nat × (Nat → Int32)} (hd : decode (x_mb M) pc = .ok (.invokestatic idx, 3)) (hl : x_look (x_key M idx) x_cpyT = some ()) (hk : idx < 1000) (ha : x_arr X ((I, L, R), n, c, k) a = some f) (hb : b < n) (hsb : x_shp b = (1, wb)) (hs : i = Int32.ofNat s) (hj : j = Int32.ofNat d) (hw : w = Int32.ofNat m) (h1 : s + m ≤ f.1) (h2 : d + m ≤ wb) (h3 : s + d + m < 10000) (hst : x_cats st ≤ 8) (kk : x_Ev X M (pc + 3) ls st ((va_up I b (va_cpy f.2 (I b) s d m), L, R), n, c, k) r) : x_Ev X M pc ls (.int w :: .int j :: .ref b :: .int i :: .ref a :: st) ((I, L, R), n, c, k) r := by
  have e1 := n_clamp hs (by omega)
  have e2 := n_clamp hj (by omega)
  have e3 := n_clamp hw (by omega)
  refine e_step hd rfl ?_ kk
  unfold x_step
  dsimp only
  rw [hl]
  dsimp only
  rw [if_neg (fun q9 => q9.elim e3.2 (fun q8 => q8.elim e1.2 e2.2)), if_pos ⟨hst, hk⟩, ha]
  dsimp only
  rw [if_pos ⟨x_own_ok (s := ((I, L, R), n, c, k)) hb (by rw [hsb]), by rw [e1.1, e3.1]; exact h1, by rw [e2.1, e3.1, hsb]; exact h2⟩, e1.1, e2.1, e3.1]
  rfl
/-- arraycopy of longs -/
theorem e_cpyL {idx a b wa wb s d m : Nat} {i j w : Int32} (hd : decode (x_mb M) pc = .ok (.invokestatic idx, 3)) (hl : x_look (x_key M idx) x_cpyT = some ()) (hk : idx < 1000) (ha : a < n) (hsa : x_shp a = (2, wa)) (hb : b < n) (hsb : x_shp b = (2, wb)) (hs : i = Int32.ofNat s) (hj : j = Int32.ofNat d) (hw : w = Int32.ofNat m) (h1 : s + m ≤ wa) (h2 : d + m ≤ wb) (h3 : s + d + m < 10000) (hst : x_cats st ≤ 8) (kk : x_Ev X M (pc + 3) ls st ((I, va_up L b (va_cpy (L a) (L b) s d m), R), n, c, k) r) : x_Ev X M pc ls (.int w :: .int j :: .ref b :: .int i :: .ref a :: st) ((I, L, R), n, c, k) r := by
  have e1 := n_clamp hs (by omega)
  have e2 := n_clamp hj (by omega)
  have e3 := n_clamp hw (by omega)
  have ea : x_arr X ((I, L, R), n, c, k) a = none := by
    unfold x_arr
    simp only [if_pos ha, hsa]
  refine e_step hd rfl ?_ kk
  unfold x_step
  dsimp only
  rw [hl]
  dsimp only
  rw [if_neg (fun q9 => q9.elim e3.2 (fun q8 => q8.elim e1.2 e2.2)), if_pos ⟨hst, hk⟩, ea]
  dsimp only
  rw [if_pos ⟨x_own_ok (s := ((I, L, R), n, c, k)) ha (by rw [hsa]), x_own_ok (s := ((I, L, R), n, c, k)) hb (by rw [hsb]), by rw [e1.1, e3.1, hsa]; exact h1, by rw [e2.1, e3.1, hsb]; exact h2⟩, e1.1, e2.1, e3.1]
  rfl
end
theorem ct_8361 : x_look 8361 x_cpyT = some () := rfl
theorem ct_1052 : x_look 1052 x_cpyT = some () := rfl
theorem ct_2029 : x_look 2029 x_cpyT = some () := rfl
theorem ct_4042 : x_look 4042 x_cpyT = some () := rfl

/-! ===== rows of the interpreter: texts, statics, new cells, the switch (laid by wip/whole/src/r2.py) ===== -/
section
variable {X : x_X} {M : x_MI} {pc : Nat} {ls : x_Ls} {st : List Value} {I : Nat → Nat → Int32} {L : Nat → Nat → Int64} {R : Nat → Nat → Option Nat} {n c k : Nat} {r : x_O × x_Mem × Nat}
theorem e_sln {idx q : Nat} (hd : decode (x_mb M) pc = .ok (.invokevirtual idx, 3)) (h1 : x_look (x_key M idx) x_slnT = some ()) (hk : idx < 1000) (hq : 1010 ≤ q) (hq2 : q ≤ 1013) (hmc : c ≤ x_mc M) (hms : k ≤ x_ms M) (hc : x_cats st ≤ 8) (kk : x_Ev X M (pc + 3) ls (.int (Int32.ofNat (x_txt q).length) :: st) ((I, L, R), n, c, k) r) : x_Ev X M pc ls (.ref q :: st) ((I, L, R), n, c, k) r := by
  refine e_step hd rfl ?_ kk
  unfold x_step
  dsimp only
  rw [h1]
  dsimp only
  rw [if_pos ⟨hc, hk, hq, hq2, hmc, hms⟩]
  rfl
theorem e_sch {idx q j : Nat} {i v : Int32} (hd : decode (x_mb M) pc = .ok (.invokevirtual idx, 3)) (h0 : x_look (x_key M idx) x_slnT = none) (h1 : x_look (x_key M idx) x_schT = some ()) (hk : idx < 1000) (hq : 1010 ≤ q) (hq2 : q ≤ 1013) (hmc : c ≤ x_mc M) (hms : k ≤ x_ms M) (hi : i = Int32.ofNat j) (hj : j < (x_txt q).length) (hv : (x_txt q).getD j 0 = v) (hc : x_cats st ≤ 8) (kk : x_Ev X M (pc + 3) ls (.int v :: st) ((I, L, R), n, c, k) r) : x_Ev X M pc ls (.int i :: .ref q :: st) ((I, L, R), n, c, k) r := by
  have l20 := x_txt_len q hq hq2
  have e := n_clamp hi (by omega)
  refine e_step hd rfl ?_ kk
  unfold x_step
  dsimp only
  rw [h0, h1]
  dsimp only
  rw [if_pos ⟨hc, hk, hq, hq2, hmc, hms⟩, if_neg (fun z => z.elim e.2 (fun z => by rw [e.1] at z; omega)), e.1, hv]
  rfl
theorem e_sta {idx q : Nat} (hd : decode (x_mb M) pc = .ok (.getstatic idx, 3)) (hk : idx < 1000) (h1 : x_look (x_key M idx) x_staT = some q) (kk : x_Ev X M (pc + 3) ls (.ref q :: st) ((I, L, R), n, c, k) r) : x_Ev X M pc ls st ((I, L, R), n, c, k) r := by
  refine e_step hd rfl ?_ kk
  unfold x_step
  dsimp only
  rw [if_pos hk, h1]
  rfl
theorem e_iaf {q w j : Nat} {i : Int32} {f : Nat → Int32} (hd : decode (x_mb M) pc = .ok (.iaload, 1)) (hr : n ≤ q) (hf : x_for X q = some (w, f)) (hi : i = Int32.ofNat j) (hj : j < w) (hw : w < 10000) (kk : x_Ev X M (pc + 1) ls (.int (f j) :: st) ((I, L, R), n, c, k) r) : x_Ev X M pc ls (.int i :: .ref q :: st) ((I, L, R), n, c, k) r := by
  have e := n_clamp hi (by omega)
  have h := e_iald (X := X) (M := M) (ls := ls) (st := st) (c := c) (k := k) (r := r) hd ((x_arr_for (s := ((I, L, R), n, c, k)) (Nat.not_lt.mpr hr)).trans hf) (j := i) (fun z => z.elim e.2 (fun z => by rw [e.1] at z; exact absurd hj (Nat.not_lt.mpr z)))
  rw [e.1] at h
  exact h kk
theorem e_lef {q w : Nat} {f : Nat → Int32} (hd : decode (x_mb M) pc = .ok (.arraylength, 1)) (hr : n ≤ q) (hf : x_for X q = some (w, f)) (kk : x_Ev X M (pc + 1) ls (.int (Int32.ofNat w) :: st) ((I, L, R), n, c, k) r) : x_Ev X M pc ls (.ref q :: st) ((I, L, R), n, c, k) r := e_alen hd (x_len_for (s := ((I, L, R), n, c, k)) (Nat.not_lt.mpr hr) hf) kk
theorem e_obi {idx q : Nat} (hd : decode (x_mb M) pc = .ok (.invokespecial idx, 3)) (h1 : x_look (x_key M idx) x_obiT = some ()) (hk : idx < 1000) (hc : x_cats st ≤ 8) (kk : x_Ev X M (pc + 3) ls st ((I, L, R), n, c, k) r) : x_Ev X M pc ls (.ref q :: st) ((I, L, R), n, c, k) r := by
  refine e_step hd rfl ?_ kk
  unfold x_step
  dsimp only
  rw [h1]
  dsimp only
  rw [if_pos ⟨hc, hk⟩]
  rfl
theorem e_new {idx ci w : Nat} (c' k' : Nat) (hd : decode (x_mb M) pc = .ok (.new idx, 3)) (hk : idx < 1000) (h1 : x_look (x_key M idx) x_newT = some ci) (hw : (x_fks ci).length = w) (hcc : c + 1 = c') (hkk : k + w = k') (hc : c' ≤ x_mc M) (hs : k' ≤ x_ms M) (hn : n < 233) (hsh : (x_shp n).1 = 10 + ci) (kk : x_Ev X M (pc + 3) ls (.ref n :: st) ((va_up I n (fun _ => 0), va_up L n (fun _ => 0), va_up R n (fun _ => none)), n + 1, c', k') r) : x_Ev X M pc ls st ((I, L, R), n, c, k) r := by
  subst hw hcc hkk
  refine e_step hd rfl ?_ kk
  unfold x_step
  dsimp only
  rw [if_pos hk, h1]
  dsimp only
  rw [if_pos ⟨hn, hc, hs, hsh⟩]
  rfl
theorem e_na {t : ArrayType} {w : Nat} {i : Int32} (c' k' : Nat) (hd : decode (x_mb M) pc = .ok (.newarray t, 2)) (hi : i = Int32.ofNat w) (hw : w < 10000) (hcc : c + 1 = c') (hkk : k + w = k') (hc : c' ≤ x_mc M) (hs : k' ≤ x_ms M) (hn : n < 233) (hsh : x_shp n = (x_atk t, w)) (kk : x_Ev X M (pc + 2) ls (.ref n :: st) ((va_up I n (fun _ => 0), va_up L n (fun _ => 0), va_up R n (fun _ => none)), n + 1, c', k') r) : x_Ev X M pc ls (.int i :: st) ((I, L, R), n, c, k) r := by
  subst hcc hkk
  have e := n_clamp hi hw
  refine e_step hd rfl ?_ kk
  unfold x_step
  dsimp only
  rw [if_neg e.2, e.1, if_pos ⟨hn, hc, hs, by rw [hsh], by rw [hsh]⟩]
  rfl
theorem e_ana {idx w : Nat} {i : Int32} (c' k' : Nat) (hd : decode (x_mb M) pc = .ok (.anewarray idx, 3)) (h1 : x_look (x_key M idx) x_newT = some 6) (hk : idx < 1000) (hi : i = Int32.ofNat w) (hw : w < 10000) (hcc : c + 1 = c') (hkk : k + w = k') (hc : c' ≤ x_mc M) (hs : k' ≤ x_ms M) (hn : n < 233) (hsh : x_shp n = (3, w)) (kk : x_Ev X M (pc + 3) ls (.ref n :: st) ((va_up I n (fun _ => 0), va_up L n (fun _ => 0), va_up R n (fun _ => none)), n + 1, c', k') r) : x_Ev X M pc ls (.int i :: st) ((I, L, R), n, c, k) r := by
  subst hcc hkk
  have e := n_clamp hi hw
  refine e_step hd rfl ?_ kk
  unfold x_step
  dsimp only
  rw [if_neg e.2, e.1, if_pos ⟨h1, hk, hn, hc, hs, by rw [hsh], by rw [hsh]⟩]
  rfl
end
theorem sl_5122 : x_look 5122 x_slnT = some () := rfl
theorem sl_9047 : x_look 9047 x_slnT = some () := rfl
theorem sc_5131 : x_look 5131 x_schT = some () := rfl
theorem sn_5131 : x_look 5131 x_slnT = none := rfl
theorem sc_9053 : x_look 9053 x_schT = some () := rfl
theorem sn_9053 : x_look 9053 x_slnT = none := rfl
theorem sa_7021 : x_look 7021 x_staT = some 1001 := rfl
theorem sa_5074 : x_look 5074 x_staT = some 1001 := rfl
theorem sa_5078 : x_look 5078 x_staT = some 1002 := rfl

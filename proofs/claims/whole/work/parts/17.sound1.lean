/-! ===== each instruction of the interpreter is the machine's (laid by wip/whole/gen_sound.py) ===== -/
theorem x_go_inj {a : Nat} {b : x_Ls} {c : List Value} {d : x_S} {z : Nat × x_Ls × List Value × x_S} (h : x_go a b c d = some (.inl z)) : z = (a, b, c, d) := (Sum.inl.inj (Option.some.inj h)).symm
theorem x_jm_eq {pc t : Nat} {off : Int} (h : x_jm pc off = some t) : (pc : Int) + off = (t : Int) := by
  unfold x_jm at h
  split at h
  · cases h
    omega
  · cases h
theorem x_no {α : Type} {z : α} {P : Prop} (h : (none : Option α) = some z) : P := by cases h
abbrev x_Gl (ad : Nat → Nat) (p : Program) (l : Launch) (e : Env) (R : Room) (s : State) (m : MethodId) (args : Array Value) (below : List Frame) (meth : Method) (c : Code) (Q : State → Prop) (z : Nat × x_Ls × List Value × x_S) (H : Heap) (locs : List Loc) (lsC : Array Slot) : Prop :=
  W p l e R s m args below meth c H locs z.2.2.2.2.2.1 z.2.2.2.2.2.2 Q (F0 m z.1 lsC (z.2.2.1.map (x_tv ad)))
abbrev x_Kt (ad : Nat → Nat) (b0 : Nat) (D : va_G) (cA : Nat → ClassId) (p : Program) (l : Launch) (e : Env) (R : Room) (s : State) (m : MethodId) (args : Array Value) (below : List Frame) (meth : Method) (c : Code) (M : x_MI) (Q : State → Prop) (z : Nat × x_Ls × List Value × x_S) : Prop :=
  ∀ (H : Heap) (locs : List Loc) (lsC : Array Slot), x_St ad b0 D cA s z.2.2.2 H locs → x_lr ad z.2.1 lsC → z.2.1.length = x_ml M → x_Gl ad p l e R s m args below meth c Q z H locs lsC
theorem x_st1_len (ls : x_Ls) (i : Nat) (v : Value) : (x_st1 ls i v).length = ls.length := by
  unfold x_st1
  rw [List.length_set, x_un_len]
theorem x_st2_len (ls : x_Ls) (i : Nat) (v : Value) : (x_st2 ls i v).length = ls.length := by
  unfold x_st2
  rw [List.length_set, List.length_set, x_un_len]
section
variable {ad : Nat → Nat} {b0 : Nat} {D : va_G} {cA : Nat → ClassId} {X : x_X} {p : Program} {l : Launch} {e : Env} {R : Room} {s : State} {m : MethodId} {args : Array Value} {below : List Frame} {meth : Method} {c : Code} {M : x_MI} {Q : State → Prop} {H : Heap} {locs : List Loc} {lsC : Array Slot} {pc len : Nat} {ls : x_Ls} {st : List Value} {S : x_S} {z : Nat × x_Ls × List Value × x_S}
theorem xs_iconst {n : Int} (hC : x_Cx ad b0 D cA X p l R s m args meth c M) (hd : decode (x_mb M) pc = .ok (.iconst n, len)) (hlen : x_lenOK (.iconst n) len = true) (hS : x_St ad b0 D cA s S H locs) (hl : x_lr ad ls lsC) (hm : ls.length = x_ml M) (h : x_step X M (.iconst n) len pc ls st S = some (.inl z)) (k : x_Kt ad b0 D cA p l e R s m args below meth c M Q z) : x_Gl ad p l e R s m args below meth c Q (pc, ls, st, S) H locs lsC := by
  obtain ⟨had, hx, hb, hml, hr, hown, hts, hlk, hst9, htab, hF, hK, hR, hini, hb0⟩ := hC
  have hlen : len = 1 := Nat.eq_of_beq_eq_true hlen
  subst hlen
  unfold x_step at h
  dsimp only at h
  obtain rfl := x_go_inj h
  exact lv_iconst hx hb hd rfl (k _ _ _ hS hl hm)
theorem xs_bipush {n : Int} (hC : x_Cx ad b0 D cA X p l R s m args meth c M) (hd : decode (x_mb M) pc = .ok (.bipush n, len)) (hlen : x_lenOK (.bipush n) len = true) (hS : x_St ad b0 D cA s S H locs) (hl : x_lr ad ls lsC) (hm : ls.length = x_ml M) (h : x_step X M (.bipush n) len pc ls st S = some (.inl z)) (k : x_Kt ad b0 D cA p l e R s m args below meth c M Q z) : x_Gl ad p l e R s m args below meth c Q (pc, ls, st, S) H locs lsC := by
  obtain ⟨had, hx, hb, hml, hr, hown, hts, hlk, hst9, htab, hF, hK, hR, hini, hb0⟩ := hC
  have hlen : len = 2 := Nat.eq_of_beq_eq_true hlen
  subst hlen
  unfold x_step at h
  dsimp only at h
  obtain rfl := x_go_inj h
  exact lv_bipush hx hb hd rfl (k _ _ _ hS hl hm)
theorem xs_sipush {n : Int} (hC : x_Cx ad b0 D cA X p l R s m args meth c M) (hd : decode (x_mb M) pc = .ok (.sipush n, len)) (hlen : x_lenOK (.sipush n) len = true) (hS : x_St ad b0 D cA s S H locs) (hl : x_lr ad ls lsC) (hm : ls.length = x_ml M) (h : x_step X M (.sipush n) len pc ls st S = some (.inl z)) (k : x_Kt ad b0 D cA p l e R s m args below meth c M Q z) : x_Gl ad p l e R s m args below meth c Q (pc, ls, st, S) H locs lsC := by
  obtain ⟨had, hx, hb, hml, hr, hown, hts, hlk, hst9, htab, hF, hK, hR, hini, hb0⟩ := hC
  have hlen : len = 3 := Nat.eq_of_beq_eq_true hlen
  subst hlen
  unfold x_step at h
  dsimp only at h
  obtain rfl := x_go_inj h
  exact lv_sipush hx hb hd rfl (k _ _ _ hS hl hm)
theorem xs_lconst {n : Fin 2} (hC : x_Cx ad b0 D cA X p l R s m args meth c M) (hd : decode (x_mb M) pc = .ok (.lconst n, len)) (hlen : x_lenOK (.lconst n) len = true) (hS : x_St ad b0 D cA s S H locs) (hl : x_lr ad ls lsC) (hm : ls.length = x_ml M) (h : x_step X M (.lconst n) len pc ls st S = some (.inl z)) (k : x_Kt ad b0 D cA p l e R s m args below meth c M Q z) : x_Gl ad p l e R s m args below meth c Q (pc, ls, st, S) H locs lsC := by
  obtain ⟨had, hx, hb, hml, hr, hown, hts, hlk, hst9, htab, hF, hK, hR, hini, hb0⟩ := hC
  have hlen : len = 1 := Nat.eq_of_beq_eq_true hlen
  subst hlen
  unfold x_step at h
  dsimp only at h
  obtain rfl := x_go_inj h
  exact lv_lconst hx hb hd rfl (k _ _ _ hS hl hm)
theorem xs_iload {i : Nat} (hC : x_Cx ad b0 D cA X p l R s m args meth c M) (hd : decode (x_mb M) pc = .ok (.iload i, len)) (hlen : x_lenOK (.iload i) len = true) (hS : x_St ad b0 D cA s S H locs) (hl : x_lr ad ls lsC) (hm : ls.length = x_ml M) (h : x_step X M (.iload i) len pc ls st S = some (.inl z)) (k : x_Kt ad b0 D cA p l e R s m args below meth c M Q z) : x_Gl ad p l e R s m args below meth c Q (pc, ls, st, S) H locs lsC := by
  obtain ⟨had, hx, hb, hml, hr, hown, hts, hlk, hst9, htab, hF, hK, hR, hini, hb0⟩ := hC
  have hlen : len = 2 := Nat.eq_of_beq_eq_true hlen
  subst hlen
  unfold x_step at h
  dsimp only at h
  split at h
  · rename_i v hv
    obtain rfl := x_go_inj h
    exact lv_iload hx hb hd (hl.2.2 _ _ hv) (k _ _ _ hS hl hm)
  · exact x_no h
theorem xs_iload_n {i : Fin 4} (hC : x_Cx ad b0 D cA X p l R s m args meth c M) (hd : decode (x_mb M) pc = .ok (.iload_n i, len)) (hlen : x_lenOK (.iload_n i) len = true) (hS : x_St ad b0 D cA s S H locs) (hl : x_lr ad ls lsC) (hm : ls.length = x_ml M) (h : x_step X M (.iload_n i) len pc ls st S = some (.inl z)) (k : x_Kt ad b0 D cA p l e R s m args below meth c M Q z) : x_Gl ad p l e R s m args below meth c Q (pc, ls, st, S) H locs lsC := by
  obtain ⟨had, hx, hb, hml, hr, hown, hts, hlk, hst9, htab, hF, hK, hR, hini, hb0⟩ := hC
  have hlen : len = 1 := Nat.eq_of_beq_eq_true hlen
  subst hlen
  unfold x_step at h
  dsimp only at h
  split at h
  · rename_i v hv
    obtain rfl := x_go_inj h
    exact lv_iload_n hx hb hd rfl (hl.2.2 _ _ hv) (k _ _ _ hS hl hm)
  · exact x_no h
theorem xs_lload {i : Nat} (hC : x_Cx ad b0 D cA X p l R s m args meth c M) (hd : decode (x_mb M) pc = .ok (.lload i, len)) (hlen : x_lenOK (.lload i) len = true) (hS : x_St ad b0 D cA s S H locs) (hl : x_lr ad ls lsC) (hm : ls.length = x_ml M) (h : x_step X M (.lload i) len pc ls st S = some (.inl z)) (k : x_Kt ad b0 D cA p l e R s m args below meth c M Q z) : x_Gl ad p l e R s m args below meth c Q (pc, ls, st, S) H locs lsC := by
  obtain ⟨had, hx, hb, hml, hr, hown, hts, hlk, hst9, htab, hF, hK, hR, hini, hb0⟩ := hC
  have hlen : len = 2 := Nat.eq_of_beq_eq_true hlen
  subst hlen
  unfold x_step at h
  dsimp only at h
  split at h
  · rename_i v hv
    obtain rfl := x_go_inj h
    exact lv_lload hx hb hd (hl.2.2 _ _ hv) (k _ _ _ hS hl hm)
  · exact x_no h
theorem xs_lload_n {i : Fin 4} (hC : x_Cx ad b0 D cA X p l R s m args meth c M) (hd : decode (x_mb M) pc = .ok (.lload_n i, len)) (hlen : x_lenOK (.lload_n i) len = true) (hS : x_St ad b0 D cA s S H locs) (hl : x_lr ad ls lsC) (hm : ls.length = x_ml M) (h : x_step X M (.lload_n i) len pc ls st S = some (.inl z)) (k : x_Kt ad b0 D cA p l e R s m args below meth c M Q z) : x_Gl ad p l e R s m args below meth c Q (pc, ls, st, S) H locs lsC := by
  obtain ⟨had, hx, hb, hml, hr, hown, hts, hlk, hst9, htab, hF, hK, hR, hini, hb0⟩ := hC
  have hlen : len = 1 := Nat.eq_of_beq_eq_true hlen
  subst hlen
  unfold x_step at h
  dsimp only at h
  split at h
  · rename_i v hv
    obtain rfl := x_go_inj h
    exact lv_lload_n hx hb hd rfl (hl.2.2 _ _ hv) (k _ _ _ hS hl hm)
  · exact x_no h
theorem xs_aload {i : Nat} (hC : x_Cx ad b0 D cA X p l R s m args meth c M) (hd : decode (x_mb M) pc = .ok (.aload i, len)) (hlen : x_lenOK (.aload i) len = true) (hS : x_St ad b0 D cA s S H locs) (hl : x_lr ad ls lsC) (hm : ls.length = x_ml M) (h : x_step X M (.aload i) len pc ls st S = some (.inl z)) (k : x_Kt ad b0 D cA p l e R s m args below meth c M Q z) : x_Gl ad p l e R s m args below meth c Q (pc, ls, st, S) H locs lsC := by
  obtain ⟨had, hx, hb, hml, hr, hown, hts, hlk, hst9, htab, hF, hK, hR, hini, hb0⟩ := hC
  have hlen : len = 2 := Nat.eq_of_beq_eq_true hlen
  subst hlen
  unfold x_step at h
  dsimp only at h
  split at h
  · rename_i v hv
    obtain rfl := x_go_inj h
    exact lv_aload hx hb hd (hl.2.2 _ _ hv) (k _ _ _ hS hl hm)
  · exact x_no h
theorem xs_aload_n {i : Fin 4} (hC : x_Cx ad b0 D cA X p l R s m args meth c M) (hd : decode (x_mb M) pc = .ok (.aload_n i, len)) (hlen : x_lenOK (.aload_n i) len = true) (hS : x_St ad b0 D cA s S H locs) (hl : x_lr ad ls lsC) (hm : ls.length = x_ml M) (h : x_step X M (.aload_n i) len pc ls st S = some (.inl z)) (k : x_Kt ad b0 D cA p l e R s m args below meth c M Q z) : x_Gl ad p l e R s m args below meth c Q (pc, ls, st, S) H locs lsC := by
  obtain ⟨had, hx, hb, hml, hr, hown, hts, hlk, hst9, htab, hF, hK, hR, hini, hb0⟩ := hC
  have hlen : len = 1 := Nat.eq_of_beq_eq_true hlen
  subst hlen
  unfold x_step at h
  dsimp only at h
  split at h
  · rename_i v hv
    obtain rfl := x_go_inj h
    exact lv_aload_n hx hb hd rfl (hl.2.2 _ _ hv) (k _ _ _ hS hl hm)
  · exact x_no h
theorem xs_istore {i : Nat} (hC : x_Cx ad b0 D cA X p l R s m args meth c M) (hd : decode (x_mb M) pc = .ok (.istore i, len)) (hlen : x_lenOK (.istore i) len = true) (hS : x_St ad b0 D cA s S H locs) (hl : x_lr ad ls lsC) (hm : ls.length = x_ml M) (h : x_step X M (.istore i) len pc ls st S = some (.inl z)) (k : x_Kt ad b0 D cA p l e R s m args below meth c M Q z) : x_Gl ad p l e R s m args below meth c Q (pc, ls, st, S) H locs lsC := by
  obtain ⟨had, hx, hb, hml, hr, hown, hts, hlk, hst9, htab, hF, hK, hR, hini, hb0⟩ := hC
  have hlen : len = 2 := Nat.eq_of_beq_eq_true hlen
  subst hlen
  unfold x_step at h
  dsimp only at h
  split at h
  · split at h
    · rename_i hn
      obtain rfl := x_go_inj h
      exact lv_istore hx hb hd hl.has hn rfl (fun ls' h' => k _ _ ls' hS (x_lr.st1 h') ((x_st1_len _ _ _).trans hm))
    · exact x_no h
  · exact x_no h
theorem xs_istore_n {i : Fin 4} (hC : x_Cx ad b0 D cA X p l R s m args meth c M) (hd : decode (x_mb M) pc = .ok (.istore_n i, len)) (hlen : x_lenOK (.istore_n i) len = true) (hS : x_St ad b0 D cA s S H locs) (hl : x_lr ad ls lsC) (hm : ls.length = x_ml M) (h : x_step X M (.istore_n i) len pc ls st S = some (.inl z)) (k : x_Kt ad b0 D cA p l e R s m args below meth c M Q z) : x_Gl ad p l e R s m args below meth c Q (pc, ls, st, S) H locs lsC := by
  obtain ⟨had, hx, hb, hml, hr, hown, hts, hlk, hst9, htab, hF, hK, hR, hini, hb0⟩ := hC
  have hlen : len = 1 := Nat.eq_of_beq_eq_true hlen
  subst hlen
  unfold x_step at h
  dsimp only at h
  split at h
  · split at h
    · rename_i hn
      obtain rfl := x_go_inj h
      exact lv_istore_n hx hb hd rfl hl.has hn rfl (fun ls' h' => k _ _ ls' hS (x_lr.st1 h') ((x_st1_len _ _ _).trans hm))
    · exact x_no h
  · exact x_no h
theorem xs_astore {i : Nat} (hC : x_Cx ad b0 D cA X p l R s m args meth c M) (hd : decode (x_mb M) pc = .ok (.astore i, len)) (hlen : x_lenOK (.astore i) len = true) (hS : x_St ad b0 D cA s S H locs) (hl : x_lr ad ls lsC) (hm : ls.length = x_ml M) (h : x_step X M (.astore i) len pc ls st S = some (.inl z)) (k : x_Kt ad b0 D cA p l e R s m args below meth c M Q z) : x_Gl ad p l e R s m args below meth c Q (pc, ls, st, S) H locs lsC := by
  obtain ⟨had, hx, hb, hml, hr, hown, hts, hlk, hst9, htab, hF, hK, hR, hini, hb0⟩ := hC
  have hlen : len = 2 := Nat.eq_of_beq_eq_true hlen
  subst hlen
  unfold x_step at h
  dsimp only at h
  split at h
  · split at h
    · rename_i hn
      obtain rfl := x_go_inj h
      exact lv_astore hx hb hd hl.has hn rfl (fun ls' h' => k _ _ ls' hS (x_lr.st1 h') ((x_st1_len _ _ _).trans hm))
    · exact x_no h
  · exact x_no h
theorem xs_astore_n {i : Fin 4} (hC : x_Cx ad b0 D cA X p l R s m args meth c M) (hd : decode (x_mb M) pc = .ok (.astore_n i, len)) (hlen : x_lenOK (.astore_n i) len = true) (hS : x_St ad b0 D cA s S H locs) (hl : x_lr ad ls lsC) (hm : ls.length = x_ml M) (h : x_step X M (.astore_n i) len pc ls st S = some (.inl z)) (k : x_Kt ad b0 D cA p l e R s m args below meth c M Q z) : x_Gl ad p l e R s m args below meth c Q (pc, ls, st, S) H locs lsC := by
  obtain ⟨had, hx, hb, hml, hr, hown, hts, hlk, hst9, htab, hF, hK, hR, hini, hb0⟩ := hC
  have hlen : len = 1 := Nat.eq_of_beq_eq_true hlen
  subst hlen
  unfold x_step at h
  dsimp only at h
  split at h
  · split at h
    · rename_i hn
      obtain rfl := x_go_inj h
      exact lv_astore_n hx hb hd rfl hl.has hn rfl (fun ls' h' => k _ _ ls' hS (x_lr.st1 h') ((x_st1_len _ _ _).trans hm))
    · exact x_no h
  · exact x_no h
theorem xs_lstore {i : Nat} (hC : x_Cx ad b0 D cA X p l R s m args meth c M) (hd : decode (x_mb M) pc = .ok (.lstore i, len)) (hlen : x_lenOK (.lstore i) len = true) (hS : x_St ad b0 D cA s S H locs) (hl : x_lr ad ls lsC) (hm : ls.length = x_ml M) (h : x_step X M (.lstore i) len pc ls st S = some (.inl z)) (k : x_Kt ad b0 D cA p l e R s m args below meth c M Q z) : x_Gl ad p l e R s m args below meth c Q (pc, ls, st, S) H locs lsC := by
  obtain ⟨had, hx, hb, hml, hr, hown, hts, hlk, hst9, htab, hF, hK, hR, hini, hb0⟩ := hC
  have hlen : len = 2 := Nat.eq_of_beq_eq_true hlen
  subst hlen
  unfold x_step at h
  dsimp only at h
  split at h
  · split at h
    · rename_i hn
      obtain rfl := x_go_inj h
      exact lv_lstore hx hb hd hl.has hn rfl (fun ls' h' => k _ _ ls' hS (x_lr.st2 h') ((x_st2_len _ _ _).trans hm))
    · exact x_no h
  · exact x_no h
theorem xs_lstore_n {i : Fin 4} (hC : x_Cx ad b0 D cA X p l R s m args meth c M) (hd : decode (x_mb M) pc = .ok (.lstore_n i, len)) (hlen : x_lenOK (.lstore_n i) len = true) (hS : x_St ad b0 D cA s S H locs) (hl : x_lr ad ls lsC) (hm : ls.length = x_ml M) (h : x_step X M (.lstore_n i) len pc ls st S = some (.inl z)) (k : x_Kt ad b0 D cA p l e R s m args below meth c M Q z) : x_Gl ad p l e R s m args below meth c Q (pc, ls, st, S) H locs lsC := by
  obtain ⟨had, hx, hb, hml, hr, hown, hts, hlk, hst9, htab, hF, hK, hR, hini, hb0⟩ := hC
  have hlen : len = 1 := Nat.eq_of_beq_eq_true hlen
  subst hlen
  unfold x_step at h
  dsimp only at h
  split at h
  · split at h
    · rename_i hn
      obtain rfl := x_go_inj h
      exact lv_lstore_n hx hb hd rfl hl.has hn rfl (fun ls' h' => k _ _ ls' hS (x_lr.st2 h') ((x_st2_len _ _ _).trans hm))
    · exact x_no h
  · exact x_no h
theorem xs_iinc {i : Nat} {n : Int} (hC : x_Cx ad b0 D cA X p l R s m args meth c M) (hd : decode (x_mb M) pc = .ok (.iinc i n, len)) (hlen : x_lenOK (.iinc i n) len = true) (hS : x_St ad b0 D cA s S H locs) (hl : x_lr ad ls lsC) (hm : ls.length = x_ml M) (h : x_step X M (.iinc i n) len pc ls st S = some (.inl z)) (k : x_Kt ad b0 D cA p l e R s m args below meth c M Q z) : x_Gl ad p l e R s m args below meth c Q (pc, ls, st, S) H locs lsC := by
  obtain ⟨had, hx, hb, hml, hr, hown, hts, hlk, hst9, htab, hF, hK, hR, hini, hb0⟩ := hC
  have hlen : len = 3 := Nat.eq_of_beq_eq_true hlen
  subst hlen
  unfold x_step at h
  dsimp only at h
  split at h
  · rename_i v hv
    split at h
    · rename_i hn
      obtain rfl := x_go_inj h
      obtain ⟨q, hq⟩ := List.getElem?_of_mem (x_ll_mem.mpr ⟨Value.int v, hv, rfl⟩ : (i, Value.int v) ∈ x_ll ad ls)
      exact lv_iinc hx hb hd hl.has hq rfl hn rfl (fun ls' h' => k _ _ ls' hS (x_lr.st1 (v := .int (v + Int32.ofInt n)) h') ((x_st1_len _ _ _).trans hm))
    · exact x_no h
  · exact x_no h
theorem xs_iadd (hC : x_Cx ad b0 D cA X p l R s m args meth c M) (hd : decode (x_mb M) pc = .ok (.iadd, len)) (hlen : x_lenOK (.iadd) len = true) (hS : x_St ad b0 D cA s S H locs) (hl : x_lr ad ls lsC) (hm : ls.length = x_ml M) (h : x_step X M (.iadd) len pc ls st S = some (.inl z)) (k : x_Kt ad b0 D cA p l e R s m args below meth c M Q z) : x_Gl ad p l e R s m args below meth c Q (pc, ls, st, S) H locs lsC := by
  obtain ⟨had, hx, hb, hml, hr, hown, hts, hlk, hst9, htab, hF, hK, hR, hini, hb0⟩ := hC
  have hlen : len = 1 := Nat.eq_of_beq_eq_true hlen
  subst hlen
  unfold x_step at h
  dsimp only at h
  split at h
  · obtain rfl := x_go_inj h
    exact lv_iadd hx hb hd (k _ _ _ hS hl hm)
  · exact x_no h
theorem xs_isub (hC : x_Cx ad b0 D cA X p l R s m args meth c M) (hd : decode (x_mb M) pc = .ok (.isub, len)) (hlen : x_lenOK (.isub) len = true) (hS : x_St ad b0 D cA s S H locs) (hl : x_lr ad ls lsC) (hm : ls.length = x_ml M) (h : x_step X M (.isub) len pc ls st S = some (.inl z)) (k : x_Kt ad b0 D cA p l e R s m args below meth c M Q z) : x_Gl ad p l e R s m args below meth c Q (pc, ls, st, S) H locs lsC := by
  obtain ⟨had, hx, hb, hml, hr, hown, hts, hlk, hst9, htab, hF, hK, hR, hini, hb0⟩ := hC
  have hlen : len = 1 := Nat.eq_of_beq_eq_true hlen
  subst hlen
  unfold x_step at h
  dsimp only at h
  split at h
  · obtain rfl := x_go_inj h
    exact lv_isub hx hb hd (k _ _ _ hS hl hm)
  · exact x_no h
theorem xs_imul (hC : x_Cx ad b0 D cA X p l R s m args meth c M) (hd : decode (x_mb M) pc = .ok (.imul, len)) (hlen : x_lenOK (.imul) len = true) (hS : x_St ad b0 D cA s S H locs) (hl : x_lr ad ls lsC) (hm : ls.length = x_ml M) (h : x_step X M (.imul) len pc ls st S = some (.inl z)) (k : x_Kt ad b0 D cA p l e R s m args below meth c M Q z) : x_Gl ad p l e R s m args below meth c Q (pc, ls, st, S) H locs lsC := by
  obtain ⟨had, hx, hb, hml, hr, hown, hts, hlk, hst9, htab, hF, hK, hR, hini, hb0⟩ := hC
  have hlen : len = 1 := Nat.eq_of_beq_eq_true hlen
  subst hlen
  unfold x_step at h
  dsimp only at h
  split at h
  · obtain rfl := x_go_inj h
    exact lv_imul hx hb hd (k _ _ _ hS hl hm)
  · exact x_no h
theorem xs_iand (hC : x_Cx ad b0 D cA X p l R s m args meth c M) (hd : decode (x_mb M) pc = .ok (.iand, len)) (hlen : x_lenOK (.iand) len = true) (hS : x_St ad b0 D cA s S H locs) (hl : x_lr ad ls lsC) (hm : ls.length = x_ml M) (h : x_step X M (.iand) len pc ls st S = some (.inl z)) (k : x_Kt ad b0 D cA p l e R s m args below meth c M Q z) : x_Gl ad p l e R s m args below meth c Q (pc, ls, st, S) H locs lsC := by
  obtain ⟨had, hx, hb, hml, hr, hown, hts, hlk, hst9, htab, hF, hK, hR, hini, hb0⟩ := hC
  have hlen : len = 1 := Nat.eq_of_beq_eq_true hlen
  subst hlen
  unfold x_step at h
  dsimp only at h
  split at h
  · obtain rfl := x_go_inj h
    exact lv_iand hx hb hd (k _ _ _ hS hl hm)
  · exact x_no h
theorem xs_ixor (hC : x_Cx ad b0 D cA X p l R s m args meth c M) (hd : decode (x_mb M) pc = .ok (.ixor, len)) (hlen : x_lenOK (.ixor) len = true) (hS : x_St ad b0 D cA s S H locs) (hl : x_lr ad ls lsC) (hm : ls.length = x_ml M) (h : x_step X M (.ixor) len pc ls st S = some (.inl z)) (k : x_Kt ad b0 D cA p l e R s m args below meth c M Q z) : x_Gl ad p l e R s m args below meth c Q (pc, ls, st, S) H locs lsC := by
  obtain ⟨had, hx, hb, hml, hr, hown, hts, hlk, hst9, htab, hF, hK, hR, hini, hb0⟩ := hC
  have hlen : len = 1 := Nat.eq_of_beq_eq_true hlen
  subst hlen
  unfold x_step at h
  dsimp only at h
  split at h
  · obtain rfl := x_go_inj h
    exact lv_ixor hx hb hd (k _ _ _ hS hl hm)
  · exact x_no h
theorem xs_ishr (hC : x_Cx ad b0 D cA X p l R s m args meth c M) (hd : decode (x_mb M) pc = .ok (.ishr, len)) (hlen : x_lenOK (.ishr) len = true) (hS : x_St ad b0 D cA s S H locs) (hl : x_lr ad ls lsC) (hm : ls.length = x_ml M) (h : x_step X M (.ishr) len pc ls st S = some (.inl z)) (k : x_Kt ad b0 D cA p l e R s m args below meth c M Q z) : x_Gl ad p l e R s m args below meth c Q (pc, ls, st, S) H locs lsC := by
  obtain ⟨had, hx, hb, hml, hr, hown, hts, hlk, hst9, htab, hF, hK, hR, hini, hb0⟩ := hC
  have hlen : len = 1 := Nat.eq_of_beq_eq_true hlen
  subst hlen
  unfold x_step at h
  dsimp only at h
  split at h
  · obtain rfl := x_go_inj h
    exact lv_ishr hx hb hd (k _ _ _ hS hl hm)
  · exact x_no h
theorem xs_ladd (hC : x_Cx ad b0 D cA X p l R s m args meth c M) (hd : decode (x_mb M) pc = .ok (.ladd, len)) (hlen : x_lenOK (.ladd) len = true) (hS : x_St ad b0 D cA s S H locs) (hl : x_lr ad ls lsC) (hm : ls.length = x_ml M) (h : x_step X M (.ladd) len pc ls st S = some (.inl z)) (k : x_Kt ad b0 D cA p l e R s m args below meth c M Q z) : x_Gl ad p l e R s m args below meth c Q (pc, ls, st, S) H locs lsC := by
  obtain ⟨had, hx, hb, hml, hr, hown, hts, hlk, hst9, htab, hF, hK, hR, hini, hb0⟩ := hC
  have hlen : len = 1 := Nat.eq_of_beq_eq_true hlen
  subst hlen
  unfold x_step at h
  dsimp only at h
  split at h
  · obtain rfl := x_go_inj h
    exact lv_ladd hx hb hd (k _ _ _ hS hl hm)
  · exact x_no h
theorem xs_lsub (hC : x_Cx ad b0 D cA X p l R s m args meth c M) (hd : decode (x_mb M) pc = .ok (.lsub, len)) (hlen : x_lenOK (.lsub) len = true) (hS : x_St ad b0 D cA s S H locs) (hl : x_lr ad ls lsC) (hm : ls.length = x_ml M) (h : x_step X M (.lsub) len pc ls st S = some (.inl z)) (k : x_Kt ad b0 D cA p l e R s m args below meth c M Q z) : x_Gl ad p l e R s m args below meth c Q (pc, ls, st, S) H locs lsC := by
  obtain ⟨had, hx, hb, hml, hr, hown, hts, hlk, hst9, htab, hF, hK, hR, hini, hb0⟩ := hC
  have hlen : len = 1 := Nat.eq_of_beq_eq_true hlen
  subst hlen
  unfold x_step at h
  dsimp only at h
  split at h
  · obtain rfl := x_go_inj h
    exact lv_lsub hx hb hd (k _ _ _ hS hl hm)
  · exact x_no h
theorem xs_lmul (hC : x_Cx ad b0 D cA X p l R s m args meth c M) (hd : decode (x_mb M) pc = .ok (.lmul, len)) (hlen : x_lenOK (.lmul) len = true) (hS : x_St ad b0 D cA s S H locs) (hl : x_lr ad ls lsC) (hm : ls.length = x_ml M) (h : x_step X M (.lmul) len pc ls st S = some (.inl z)) (k : x_Kt ad b0 D cA p l e R s m args below meth c M Q z) : x_Gl ad p l e R s m args below meth c Q (pc, ls, st, S) H locs lsC := by
  obtain ⟨had, hx, hb, hml, hr, hown, hts, hlk, hst9, htab, hF, hK, hR, hini, hb0⟩ := hC
  have hlen : len = 1 := Nat.eq_of_beq_eq_true hlen
  subst hlen
  unfold x_step at h
  dsimp only at h
  split at h
  · obtain rfl := x_go_inj h
    exact lv_lmul hx hb hd (k _ _ _ hS hl hm)
  · exact x_no h
theorem xs_idiv (hC : x_Cx ad b0 D cA X p l R s m args meth c M) (hd : decode (x_mb M) pc = .ok (.idiv, len)) (hlen : x_lenOK (.idiv) len = true) (hS : x_St ad b0 D cA s S H locs) (hl : x_lr ad ls lsC) (hm : ls.length = x_ml M) (h : x_step X M (.idiv) len pc ls st S = some (.inl z)) (k : x_Kt ad b0 D cA p l e R s m args below meth c M Q z) : x_Gl ad p l e R s m args below meth c Q (pc, ls, st, S) H locs lsC := by
  obtain ⟨had, hx, hb, hml, hr, hown, hts, hlk, hst9, htab, hF, hK, hR, hini, hb0⟩ := hC
  have hlen : len = 1 := Nat.eq_of_beq_eq_true hlen
  subst hlen
  unfold x_step at h
  dsimp only at h
  split at h
  · split at h
    · exact x_no h
    · rename_i hne
      obtain rfl := x_go_inj h
      exact lv_idiv hx hb hd hne (k _ _ _ hS hl hm)
  · exact x_no h
theorem xs_irem (hC : x_Cx ad b0 D cA X p l R s m args meth c M) (hd : decode (x_mb M) pc = .ok (.irem, len)) (hlen : x_lenOK (.irem) len = true) (hS : x_St ad b0 D cA s S H locs) (hl : x_lr ad ls lsC) (hm : ls.length = x_ml M) (h : x_step X M (.irem) len pc ls st S = some (.inl z)) (k : x_Kt ad b0 D cA p l e R s m args below meth c M Q z) : x_Gl ad p l e R s m args below meth c Q (pc, ls, st, S) H locs lsC := by
  obtain ⟨had, hx, hb, hml, hr, hown, hts, hlk, hst9, htab, hF, hK, hR, hini, hb0⟩ := hC
  have hlen : len = 1 := Nat.eq_of_beq_eq_true hlen
  subst hlen
  unfold x_step at h
  dsimp only at h
  split at h
  · split at h
    · exact x_no h
    · rename_i hne
      obtain rfl := x_go_inj h
      exact lv_irem hx hb hd hne (k _ _ _ hS hl hm)
  · exact x_no h
theorem xs_ldiv (hC : x_Cx ad b0 D cA X p l R s m args meth c M) (hd : decode (x_mb M) pc = .ok (.ldiv, len)) (hlen : x_lenOK (.ldiv) len = true) (hS : x_St ad b0 D cA s S H locs) (hl : x_lr ad ls lsC) (hm : ls.length = x_ml M) (h : x_step X M (.ldiv) len pc ls st S = some (.inl z)) (k : x_Kt ad b0 D cA p l e R s m args below meth c M Q z) : x_Gl ad p l e R s m args below meth c Q (pc, ls, st, S) H locs lsC := by
  obtain ⟨had, hx, hb, hml, hr, hown, hts, hlk, hst9, htab, hF, hK, hR, hini, hb0⟩ := hC
  have hlen : len = 1 := Nat.eq_of_beq_eq_true hlen
  subst hlen
  unfold x_step at h
  dsimp only at h
  split at h
  · split at h
    · exact x_no h
    · rename_i hne
      obtain rfl := x_go_inj h
      exact lv_ldiv hx hb hd hne (k _ _ _ hS hl hm)
  · exact x_no h
theorem xs_lrem (hC : x_Cx ad b0 D cA X p l R s m args meth c M) (hd : decode (x_mb M) pc = .ok (.lrem, len)) (hlen : x_lenOK (.lrem) len = true) (hS : x_St ad b0 D cA s S H locs) (hl : x_lr ad ls lsC) (hm : ls.length = x_ml M) (h : x_step X M (.lrem) len pc ls st S = some (.inl z)) (k : x_Kt ad b0 D cA p l e R s m args below meth c M Q z) : x_Gl ad p l e R s m args below meth c Q (pc, ls, st, S) H locs lsC := by
  obtain ⟨had, hx, hb, hml, hr, hown, hts, hlk, hst9, htab, hF, hK, hR, hini, hb0⟩ := hC
  have hlen : len = 1 := Nat.eq_of_beq_eq_true hlen
  subst hlen
  unfold x_step at h
  dsimp only at h
  split at h
  · split at h
    · exact x_no h
    · rename_i hne
      obtain rfl := x_go_inj h
      exact lv_lrem hx hb hd hne (k _ _ _ hS hl hm)
  · exact x_no h
theorem xs_ineg (hC : x_Cx ad b0 D cA X p l R s m args meth c M) (hd : decode (x_mb M) pc = .ok (.ineg, len)) (hlen : x_lenOK (.ineg) len = true) (hS : x_St ad b0 D cA s S H locs) (hl : x_lr ad ls lsC) (hm : ls.length = x_ml M) (h : x_step X M (.ineg) len pc ls st S = some (.inl z)) (k : x_Kt ad b0 D cA p l e R s m args below meth c M Q z) : x_Gl ad p l e R s m args below meth c Q (pc, ls, st, S) H locs lsC := by
  obtain ⟨had, hx, hb, hml, hr, hown, hts, hlk, hst9, htab, hF, hK, hR, hini, hb0⟩ := hC
  have hlen : len = 1 := Nat.eq_of_beq_eq_true hlen
  subst hlen
  unfold x_step at h
  dsimp only at h
  split at h
  · obtain rfl := x_go_inj h
    exact lv_ineg hx hb hd (k _ _ _ hS hl hm)
  · exact x_no h
theorem xs_lneg (hC : x_Cx ad b0 D cA X p l R s m args meth c M) (hd : decode (x_mb M) pc = .ok (.lneg, len)) (hlen : x_lenOK (.lneg) len = true) (hS : x_St ad b0 D cA s S H locs) (hl : x_lr ad ls lsC) (hm : ls.length = x_ml M) (h : x_step X M (.lneg) len pc ls st S = some (.inl z)) (k : x_Kt ad b0 D cA p l e R s m args below meth c M Q z) : x_Gl ad p l e R s m args below meth c Q (pc, ls, st, S) H locs lsC := by
  obtain ⟨had, hx, hb, hml, hr, hown, hts, hlk, hst9, htab, hF, hK, hR, hini, hb0⟩ := hC
  have hlen : len = 1 := Nat.eq_of_beq_eq_true hlen
  subst hlen
  unfold x_step at h
  dsimp only at h
  split at h
  · obtain rfl := x_go_inj h
    exact lv_lneg hx hb hd (k _ _ _ hS hl hm)
  · exact x_no h
theorem xs_i2l (hC : x_Cx ad b0 D cA X p l R s m args meth c M) (hd : decode (x_mb M) pc = .ok (.i2l, len)) (hlen : x_lenOK (.i2l) len = true) (hS : x_St ad b0 D cA s S H locs) (hl : x_lr ad ls lsC) (hm : ls.length = x_ml M) (h : x_step X M (.i2l) len pc ls st S = some (.inl z)) (k : x_Kt ad b0 D cA p l e R s m args below meth c M Q z) : x_Gl ad p l e R s m args below meth c Q (pc, ls, st, S) H locs lsC := by
  obtain ⟨had, hx, hb, hml, hr, hown, hts, hlk, hst9, htab, hF, hK, hR, hini, hb0⟩ := hC
  have hlen : len = 1 := Nat.eq_of_beq_eq_true hlen
  subst hlen
  unfold x_step at h
  dsimp only at h
  split at h
  · obtain rfl := x_go_inj h
    exact lv_i2l hx hb hd rfl (k _ _ _ hS hl hm)
  · exact x_no h
theorem xs_l2i (hC : x_Cx ad b0 D cA X p l R s m args meth c M) (hd : decode (x_mb M) pc = .ok (.l2i, len)) (hlen : x_lenOK (.l2i) len = true) (hS : x_St ad b0 D cA s S H locs) (hl : x_lr ad ls lsC) (hm : ls.length = x_ml M) (h : x_step X M (.l2i) len pc ls st S = some (.inl z)) (k : x_Kt ad b0 D cA p l e R s m args below meth c M Q z) : x_Gl ad p l e R s m args below meth c Q (pc, ls, st, S) H locs lsC := by
  obtain ⟨had, hx, hb, hml, hr, hown, hts, hlk, hst9, htab, hF, hK, hR, hini, hb0⟩ := hC
  have hlen : len = 1 := Nat.eq_of_beq_eq_true hlen
  subst hlen
  unfold x_step at h
  dsimp only at h
  split at h
  · obtain rfl := x_go_inj h
    exact lv_l2i hx hb hd rfl (k _ _ _ hS hl hm)
  · exact x_no h
theorem xs_i2b (hC : x_Cx ad b0 D cA X p l R s m args meth c M) (hd : decode (x_mb M) pc = .ok (.i2b, len)) (hlen : x_lenOK (.i2b) len = true) (hS : x_St ad b0 D cA s S H locs) (hl : x_lr ad ls lsC) (hm : ls.length = x_ml M) (h : x_step X M (.i2b) len pc ls st S = some (.inl z)) (k : x_Kt ad b0 D cA p l e R s m args below meth c M Q z) : x_Gl ad p l e R s m args below meth c Q (pc, ls, st, S) H locs lsC := by
  obtain ⟨had, hx, hb, hml, hr, hown, hts, hlk, hst9, htab, hF, hK, hR, hini, hb0⟩ := hC
  have hlen : len = 1 := Nat.eq_of_beq_eq_true hlen
  subst hlen
  unfold x_step at h
  dsimp only at h
  split at h
  · obtain rfl := x_go_inj h
    exact lv_i2b hx hb hd rfl (k _ _ _ hS hl hm)
  · exact x_no h
theorem xs_lcmp (hC : x_Cx ad b0 D cA X p l R s m args meth c M) (hd : decode (x_mb M) pc = .ok (.lcmp, len)) (hlen : x_lenOK (.lcmp) len = true) (hS : x_St ad b0 D cA s S H locs) (hl : x_lr ad ls lsC) (hm : ls.length = x_ml M) (h : x_step X M (.lcmp) len pc ls st S = some (.inl z)) (k : x_Kt ad b0 D cA p l e R s m args below meth c M Q z) : x_Gl ad p l e R s m args below meth c Q (pc, ls, st, S) H locs lsC := by
  obtain ⟨had, hx, hb, hml, hr, hown, hts, hlk, hst9, htab, hF, hK, hR, hini, hb0⟩ := hC
  have hlen : len = 1 := Nat.eq_of_beq_eq_true hlen
  subst hlen
  unfold x_step at h
  dsimp only at h
  split at h
  · obtain rfl := x_go_inj h
    exact W.lcmp hx hb hd (k _ _ _ hS hl hm)
  · exact x_no h
theorem xs_dup (hC : x_Cx ad b0 D cA X p l R s m args meth c M) (hd : decode (x_mb M) pc = .ok (.dup, len)) (hlen : x_lenOK (.dup) len = true) (hS : x_St ad b0 D cA s S H locs) (hl : x_lr ad ls lsC) (hm : ls.length = x_ml M) (h : x_step X M (.dup) len pc ls st S = some (.inl z)) (k : x_Kt ad b0 D cA p l e R s m args below meth c M Q z) : x_Gl ad p l e R s m args below meth c Q (pc, ls, st, S) H locs lsC := by
  obtain ⟨had, hx, hb, hml, hr, hown, hts, hlk, hst9, htab, hF, hK, hR, hini, hb0⟩ := hC
  have hlen : len = 1 := Nat.eq_of_beq_eq_true hlen
  subst hlen
  unfold x_step at h
  dsimp only at h
  split at h
  · split at h
    · rename_i hc
      obtain rfl := x_go_inj h
      exact lv_dup hx hb hd ((x_tv_cat _ _).trans hc) (k _ _ _ hS hl hm)
    · exact x_no h
  · exact x_no h
theorem xs_pop (hC : x_Cx ad b0 D cA X p l R s m args meth c M) (hd : decode (x_mb M) pc = .ok (.pop, len)) (hlen : x_lenOK (.pop) len = true) (hS : x_St ad b0 D cA s S H locs) (hl : x_lr ad ls lsC) (hm : ls.length = x_ml M) (h : x_step X M (.pop) len pc ls st S = some (.inl z)) (k : x_Kt ad b0 D cA p l e R s m args below meth c M Q z) : x_Gl ad p l e R s m args below meth c Q (pc, ls, st, S) H locs lsC := by
  obtain ⟨had, hx, hb, hml, hr, hown, hts, hlk, hst9, htab, hF, hK, hR, hini, hb0⟩ := hC
  have hlen : len = 1 := Nat.eq_of_beq_eq_true hlen
  subst hlen
  unfold x_step at h
  dsimp only at h
  split at h
  · split at h
    · rename_i hc
      obtain rfl := x_go_inj h
      exact lv_pop hx hb hd ((x_tv_cat _ _).trans hc) (k _ _ _ hS hl hm)
    · exact x_no h
  · exact x_no h
theorem xs_dup2 (hC : x_Cx ad b0 D cA X p l R s m args meth c M) (hd : decode (x_mb M) pc = .ok (.dup2, len)) (hlen : x_lenOK (.dup2) len = true) (hS : x_St ad b0 D cA s S H locs) (hl : x_lr ad ls lsC) (hm : ls.length = x_ml M) (h : x_step X M (.dup2) len pc ls st S = some (.inl z)) (k : x_Kt ad b0 D cA p l e R s m args below meth c M Q z) : x_Gl ad p l e R s m args below meth c Q (pc, ls, st, S) H locs lsC := by
  obtain ⟨had, hx, hb, hml, hr, hown, hts, hlk, hst9, htab, hF, hK, hR, hini, hb0⟩ := hC
  have hlen : len = 1 := Nat.eq_of_beq_eq_true hlen
  subst hlen
  unfold x_step at h
  dsimp only at h
  split at h
  · split at h
    · rename_i hc
      obtain rfl := x_go_inj h
      exact lv_dup2_11 hx hb hd ((x_tv_cat _ _).trans hc.1) ((x_tv_cat _ _).trans hc.2) (k _ _ _ hS hl hm)
    · exact x_no h
  · exact x_no h
theorem xs_goto {off : Int} (hC : x_Cx ad b0 D cA X p l R s m args meth c M) (hd : decode (x_mb M) pc = .ok (.goto off, len)) (hlen : x_lenOK (.goto off) len = true) (hS : x_St ad b0 D cA s S H locs) (hl : x_lr ad ls lsC) (hm : ls.length = x_ml M) (h : x_step X M (.goto off) len pc ls st S = some (.inl z)) (k : x_Kt ad b0 D cA p l e R s m args below meth c M Q z) : x_Gl ad p l e R s m args below meth c Q (pc, ls, st, S) H locs lsC := by
  obtain ⟨had, hx, hb, hml, hr, hown, hts, hlk, hst9, htab, hF, hK, hR, hini, hb0⟩ := hC
  have hlen : len = 3 := Nat.eq_of_beq_eq_true hlen
  subst hlen
  unfold x_step at h
  dsimp only at h
  split at h
  · rename_i t ht
    obtain rfl := x_go_inj h
    exact lv_goto hx hb hd (x_jm_eq ht) (k _ _ _ hS hl hm)
  · exact x_no h
theorem xs_ifc {cn : Jvm.ClassFile.Cond} {off : Int} (hC : x_Cx ad b0 D cA X p l R s m args meth c M) (hd : decode (x_mb M) pc = .ok (.ifCond cn off, len)) (hlen : x_lenOK (.ifCond cn off) len = true) (hS : x_St ad b0 D cA s S H locs) (hl : x_lr ad ls lsC) (hm : ls.length = x_ml M) (h : x_step X M (.ifCond cn off) len pc ls st S = some (.inl z)) (k : x_Kt ad b0 D cA p l e R s m args below meth c M Q z) : x_Gl ad p l e R s m args below meth c Q (pc, ls, st, S) H locs lsC := by
  obtain ⟨had, hx, hb, hml, hr, hown, hts, hlk, hst9, htab, hF, hK, hR, hini, hb0⟩ := hC
  have hlen : len = 3 := Nat.eq_of_beq_eq_true hlen
  subst hlen
  unfold x_step at h
  dsimp only at h
  split at h
  · rename_i _ x _
    split at h
    · rename_i t ht
      have tt := x_jm_eq ht
      cases cn
      case eq =>
        refine lv_if_eq hx hb hd tt (fun hc => ?_) (fun hc => ?_)
        · rw [if_pos (show x_cond .eq x 0 = true from decide_eq_true hc)] at h
          obtain rfl := x_go_inj h
          exact k _ _ _ hS hl hm
        · rw [if_neg (show ¬ x_cond .eq x 0 = true from fun z9 => hc (of_decide_eq_true z9))] at h
          obtain rfl := x_go_inj h
          exact k _ _ _ hS hl hm
      case ne =>
        refine lv_if_ne hx hb hd tt (fun hc => ?_) (fun hc => ?_)
        · rw [if_pos (show x_cond .ne x 0 = true from decide_eq_true hc)] at h
          obtain rfl := x_go_inj h
          exact k _ _ _ hS hl hm
        · rw [if_neg (show ¬ x_cond .ne x 0 = true from fun z9 => (of_decide_eq_true z9) hc)] at h
          obtain rfl := x_go_inj h
          exact k _ _ _ hS hl hm
      case lt =>
        refine lv_if_lt hx hb hd tt (fun hc => ?_) (fun hc => ?_)
        · rw [if_pos (show x_cond .lt x 0 = true from decide_eq_true hc)] at h
          obtain rfl := x_go_inj h
          exact k _ _ _ hS hl hm
        · rw [if_neg (show ¬ x_cond .lt x 0 = true from fun z9 => hc (of_decide_eq_true z9))] at h
          obtain rfl := x_go_inj h
          exact k _ _ _ hS hl hm
      case ge =>
        refine lv_if_ge hx hb hd tt (fun hc => ?_) (fun hc => ?_)
        · rw [if_pos (show x_cond .ge x 0 = true from decide_eq_true hc)] at h
          obtain rfl := x_go_inj h
          exact k _ _ _ hS hl hm
        · rw [if_neg (show ¬ x_cond .ge x 0 = true from fun z9 => hc (of_decide_eq_true z9))] at h
          obtain rfl := x_go_inj h
          exact k _ _ _ hS hl hm
      case gt =>
        refine lv_if_gt hx hb hd tt (fun hc => ?_) (fun hc => ?_)
        · rw [if_pos (show x_cond .gt x 0 = true from decide_eq_true hc)] at h
          obtain rfl := x_go_inj h
          exact k _ _ _ hS hl hm
        · rw [if_neg (show ¬ x_cond .gt x 0 = true from fun z9 => hc (of_decide_eq_true z9))] at h
          obtain rfl := x_go_inj h
          exact k _ _ _ hS hl hm
      case le =>
        refine lv_if_le hx hb hd tt (fun hc => ?_) (fun hc => ?_)
        · rw [if_pos (show x_cond .le x 0 = true from decide_eq_true hc)] at h
          obtain rfl := x_go_inj h
          exact k _ _ _ hS hl hm
        · rw [if_neg (show ¬ x_cond .le x 0 = true from fun z9 => hc (of_decide_eq_true z9))] at h
          obtain rfl := x_go_inj h
          exact k _ _ _ hS hl hm
    · exact x_no h
  · exact x_no h
theorem xs_icmp {cn : Jvm.ClassFile.Cond} {off : Int} (hC : x_Cx ad b0 D cA X p l R s m args meth c M) (hd : decode (x_mb M) pc = .ok (.if_icmp cn off, len)) (hlen : x_lenOK (.if_icmp cn off) len = true) (hS : x_St ad b0 D cA s S H locs) (hl : x_lr ad ls lsC) (hm : ls.length = x_ml M) (h : x_step X M (.if_icmp cn off) len pc ls st S = some (.inl z)) (k : x_Kt ad b0 D cA p l e R s m args below meth c M Q z) : x_Gl ad p l e R s m args below meth c Q (pc, ls, st, S) H locs lsC := by
  obtain ⟨had, hx, hb, hml, hr, hown, hts, hlk, hst9, htab, hF, hK, hR, hini, hb0⟩ := hC
  have hlen : len = 3 := Nat.eq_of_beq_eq_true hlen
  subst hlen
  unfold x_step at h
  dsimp only at h
  split at h
  · rename_i _ y x _
    split at h
    · rename_i t ht
      have tt := x_jm_eq ht
      cases cn
      case eq =>
        refine lv_icmp_eq hx hb hd tt (fun hc => ?_) (fun hc => ?_)
        · rw [if_pos (show x_cond .eq x y = true from decide_eq_true hc)] at h
          obtain rfl := x_go_inj h
          exact k _ _ _ hS hl hm
        · rw [if_neg (show ¬ x_cond .eq x y = true from fun z9 => hc (of_decide_eq_true z9))] at h
          obtain rfl := x_go_inj h
          exact k _ _ _ hS hl hm
      case ne =>
        refine lv_icmp_ne hx hb hd tt (fun hc => ?_) (fun hc => ?_)
        · rw [if_pos (show x_cond .ne x y = true from decide_eq_true hc)] at h
          obtain rfl := x_go_inj h
          exact k _ _ _ hS hl hm
        · rw [if_neg (show ¬ x_cond .ne x y = true from fun z9 => (of_decide_eq_true z9) hc)] at h
          obtain rfl := x_go_inj h
          exact k _ _ _ hS hl hm
      case lt =>
        refine lv_icmp_lt hx hb hd tt (fun hc => ?_) (fun hc => ?_)
        · rw [if_pos (show x_cond .lt x y = true from decide_eq_true hc)] at h
          obtain rfl := x_go_inj h
          exact k _ _ _ hS hl hm
        · rw [if_neg (show ¬ x_cond .lt x y = true from fun z9 => hc (of_decide_eq_true z9))] at h
          obtain rfl := x_go_inj h
          exact k _ _ _ hS hl hm
      case ge =>
        refine lv_icmp_ge hx hb hd tt (fun hc => ?_) (fun hc => ?_)
        · rw [if_pos (show x_cond .ge x y = true from decide_eq_true hc)] at h
          obtain rfl := x_go_inj h
          exact k _ _ _ hS hl hm
        · rw [if_neg (show ¬ x_cond .ge x y = true from fun z9 => hc (of_decide_eq_true z9))] at h
          obtain rfl := x_go_inj h
          exact k _ _ _ hS hl hm
      case gt =>
        refine lv_icmp_gt hx hb hd tt (fun hc => ?_) (fun hc => ?_)
        · rw [if_pos (show x_cond .gt x y = true from decide_eq_true hc)] at h
          obtain rfl := x_go_inj h
          exact k _ _ _ hS hl hm
        · rw [if_neg (show ¬ x_cond .gt x y = true from fun z9 => hc (of_decide_eq_true z9))] at h
          obtain rfl := x_go_inj h
          exact k _ _ _ hS hl hm
      case le =>
        refine lv_icmp_le hx hb hd tt (fun hc => ?_) (fun hc => ?_)
        · rw [if_pos (show x_cond .le x y = true from decide_eq_true hc)] at h
          obtain rfl := x_go_inj h
          exact k _ _ _ hS hl hm
        · rw [if_neg (show ¬ x_cond .le x y = true from fun z9 => hc (of_decide_eq_true z9))] at h
          obtain rfl := x_go_inj h
          exact k _ _ _ hS hl hm
    · exact x_no h
  · exact x_no h
theorem xs_tsw {dflt lo hi : Int} {offs : Array Int} (hC : x_Cx ad b0 D cA X p l R s m args meth c M) (hd : decode (x_mb M) pc = .ok (.tableswitch dflt lo hi offs, len)) (hlen : x_lenOK (.tableswitch dflt lo hi offs) len = true) (hS : x_St ad b0 D cA s S H locs) (hl : x_lr ad ls lsC) (hm : ls.length = x_ml M) (h : x_step X M (.tableswitch dflt lo hi offs) len pc ls st S = some (.inl z)) (k : x_Kt ad b0 D cA p l e R s m args below meth c M Q z) : x_Gl ad p l e R s m args below meth c Q (pc, ls, st, S) H locs lsC := by
  obtain ⟨had, hx, hb, hml, hr, hown, hts, hlk, hst9, htab, hF, hK, hR, hini, hb0⟩ := hC
  unfold x_step at h
  dsimp only at h
  split at h
  · split at h
    · rename_i hc
      split at h
      · rename_i t ht
        obtain rfl := x_go_inj h
        exact lv_tableOut hx hb hd hc (x_jm_eq ht) (k _ _ _ hS hl hm)
      · exact x_no h
    · rename_i hc
      split at h
      · rename_i off hof
        split at h
        · rename_i t ht
          obtain rfl := x_go_inj h
          exact lv_tableIn hx hb hd (fun q => hc (Or.inl q)) (fun q => hc (Or.inr q)) hof (x_jm_eq ht) (k _ _ _ hS hl hm)
        · exact x_no h
      · exact x_no h
  · exact x_no h
end

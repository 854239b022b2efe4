/-! ===== the instructions that read and write cells ===== -/
theorem x_key_div {M : x_MI} {k : Nat} (h : k < 1000) : x_key M k / 1000 = x_mo M ∧ x_key M k % 1000 = k := by
  unfold x_key
  omega
theorem x_fldT_kd : ∀ e ∈ x_fldT, (x_fks e.2.1)[e.2.2.1]? = some e.2.2.2.1 := by decide +kernel
theorem x_cl_lt {ci : Nat} {r : vw_C} (h : vwCl[ci]? = some r) : ci < 10 := (List.getElem?_eq_some_iff.mp h).1
theorem x_wAll {ci : Nat} {r : vw_C} (h : vwCl[ci]? = some r) : ∀ w ∈ u_ws r.1 r.2.1 r.2.2, w ∈ x_tb := by
  have hl := x_cl_lt h
  match ci, h, hl with
  | 0, h, _ => cases h; exact x_w0
  | 1, h, _ => cases h; exact x_w1
  | 2, h, _ => cases h; exact x_w2
  | 3, h, _ => cases h; exact x_w3
  | 4, h, _ => cases h; exact x_w4
  | 5, h, _ => cases h; exact x_w5
  | 6, h, _ => cases h; exact x_w6
  | 7, h, _ => cases h; exact x_w7
  | 8, h, _ => cases h; exact x_w8
  | 9, h, _ => cases h; exact x_w9
theorem x_tyAll {ci : Nat} {r : vw_C} (h : vwCl[ci]? = some r) : ∀ k, k < r.2.2 → parseFieldDescriptor (r.2.1 k).2.2.1 = some (x_ty ci k) := by
  have hl := x_cl_lt h
  match ci, h, hl with
  | 0, h, _ => cases h; exact tyX0_ok
  | 1, h, _ => cases h; exact tyX1_ok
  | 2, h, _ => cases h; exact tyX2_ok
  | 3, h, _ => cases h; exact tyX3_ok
  | 4, h, _ => cases h; exact tyX4_ok
  | 5, h, _ => cases h; exact tyX5_ok
  | 6, h, _ => cases h; exact tyX6_ok
  | 7, h, _ => cases h; exact tyX7_ok
  | 8, h, _ => cases h; exact tyX8_ok
  | 9, h, _ => cases h; exact tyX9_ok
theorem x_nmAll {ci : Nat} {r : vw_C} (h : vwCl[ci]? = some r) : ∀ a, a < r.2.2 → ∀ b, b < r.2.2 → a ≠ b → (r.2.1 a).2.1 ≠ (r.2.1 b).2.1 := by
  have hl := x_cl_lt h
  match ci, h, hl with
  | 0, h, _ => cases h; exact nmX0
  | 1, h, _ => cases h; exact nmX1
  | 2, h, _ => cases h; exact nmX2
  | 3, h, _ => cases h; exact nmX3
  | 4, h, _ => cases h; exact nmX4
  | 5, h, _ => cases h; exact nmX5
  | 6, h, _ => cases h; exact nmX6
  | 7, h, _ => cases h; exact nmX7
  | 8, h, _ => cases h; exact nmX8
  | 9, h, _ => cases h; exact nmX9
theorem x_fks_len {ci : Nat} {r : vw_C} (h : vwCl[ci]? = some r) : (x_fks ci).length = r.2.2 := by
  have hl := x_cl_lt h
  match ci, h, hl with
  | 0, h, _ => cases h; rfl
  | 1, h, _ => cases h; rfl
  | 2, h, _ => cases h; rfl
  | 3, h, _ => cases h; rfl
  | 4, h, _ => cases h; rfl
  | 5, h, _ => cases h; rfl
  | 6, h, _ => cases h; rfl
  | 7, h, _ => cases h; rfl
  | 8, h, _ => cases h; rfl
  | 9, h, _ => cases h; rfl
theorem x_fv_val {ad : Nat → Nat} {S : x_S} {r j k : Nat} {v : Value} (h : x_fv S r j k = some v) : x_fval ad S.1 r j k = x_tv ad v := by
  unfold x_fv at h
  unfold x_fval
  split at h
  · cases h; rfl
  · cases h; rfl
  · cases hr : S.1.2.2 r j with
    | none => rw [hr] at h; cases h
    | some a =>
      rw [hr] at h
      cases h
      simp only [Option.map_some]
      rfl
theorem x_up_self {α : Type} (f : Nat → α) (k : Nat) (v : α) : va_up f k v k = v := by unfold va_up; rw [if_pos rfl]
theorem x_up_ne {α : Type} (f : Nat → α) {k j : Nat} (v : α) (h : j ≠ k) : va_up f k v j = f j := by unfold va_up; rw [if_neg h]
/-- a field takes a value: what the machine asks, and the new cells -/
theorem x_fp_ok {ad : Nat → Nat} {cA : Nat → ClassId} {S S' : x_S} {r j k ci : Nat} {v : Value} {ty : FieldType} (h : x_fp S r j k v = some S') (ht : x_kd ty = k) (hk : (x_fks ci)[j]? = some k) (hs : (x_shp r).1 = 10 + ci) : narrow ty (x_tv ad v) = x_tv ad v ∧ fits ty (x_tv ad v) = true ∧ (x_cell ad cA S'.1 r = .inr (ci, (x_fs ad S.1 r ci).set j (x_tv ad v))) ∧ (∀ i, i ≠ r → x_cell ad cA S'.1 i = x_cell ad cA S.1 i) ∧ S'.2 = S.2 := by
  unfold x_fp at h
  split at h
  · cases h
    have ety : ty = .int := by cases ty <;> first | rfl | cases ht
    subst ety
    refine ⟨rfl, rfl, ?_, fun i hi => x_cell_same (x_up_ne _ _ hi) rfl rfl, rfl⟩
    rw [x_cell_o hs]
    refine congrArg (fun q => Sum.inr (ci, q)) (x_fs_set hk ?_ fun i t hi => ?_).symm
    · show Value.int (va_up S.1.1 r (va_up (S.1.1 r) j _) r j) = _
      rw [x_up_self, x_up_self]; rfl
    · unfold x_fval x_setI
      dsimp only
      rw [x_up_self, x_up_ne _ _ hi]
  · cases h
    have ety : ty = .long := by cases ty <;> first | rfl | cases ht
    subst ety
    refine ⟨rfl, rfl, ?_, fun i hi => x_cell_same rfl (x_up_ne _ _ hi) rfl, rfl⟩
    rw [x_cell_o hs]
    refine congrArg (fun q => Sum.inr (ci, q)) (x_fs_set hk ?_ fun i t hi => ?_).symm
    · show Value.long (va_up S.1.2.1 r (va_up (S.1.2.1 r) j _) r j) = _
      rw [x_up_self, x_up_self]; rfl
    · unfold x_fval x_setL
      dsimp only
      rw [x_up_self, x_up_ne _ _ hi]
  · rename_i a
    cases h
    have ety : (∃ q, ty = .object q) ∨ ∃ q, ty = .array q := by cases ty <;> first | exact Or.inl ⟨_, rfl⟩ | exact Or.inr ⟨_, rfl⟩ | cases ht
    refine ⟨?_, ?_, ?_, fun i hi => x_cell_same rfl rfl (x_up_ne _ _ hi), rfl⟩
    · rcases ety with ⟨q, rfl⟩ | ⟨q, rfl⟩ <;> rfl
    · rcases ety with ⟨q, rfl⟩ | ⟨q, rfl⟩ <;> rfl
    rw [x_cell_o hs]
    refine congrArg (fun q => Sum.inr (ci, q)) (x_fs_set hk ?_ fun i t hi => ?_).symm
    · show va_rf ((va_up S.1.2.2 r (va_up (S.1.2.2 r) j (some a)) r j).map ad) = _
      rw [x_up_self, x_up_self]; rfl
    · unfold x_fval x_setR
      dsimp only
      rw [x_up_self, x_up_ne _ _ hi]
  · cases h
theorem x_own_spec {s : x_S} {k r : Nat} (h : x_own_arr s k r = true) : r < s.2.1 ∧ (x_shp r).1 = k := by
  unfold x_own_arr at h
  rw [Bool.and_eq_true] at h
  exact ⟨of_decide_eq_true h.1, Nat.eq_of_beq_eq_true h.2⟩
theorem x_arr_spec {X : x_X} {s : x_S} {r : Nat} {q : Nat × (Nat → Int32)} (h : x_arr X s r = some q) : (r < s.2.1 ∧ (x_shp r).1 = 1 ∧ q = ((x_shp r).2, s.1.1 r)) ∨ x_for X r = some q := by
  unfold x_arr at h
  split at h
  · rename_i hr
    split at h
    · rename_i h1
      cases h
      exact Or.inl ⟨hr, h1, rfl⟩
    · cases h
  · exact Or.inr h
section
variable {ad : Nat → Nat} {b0 : Nat} {D : va_G} {cA : Nat → ClassId} {X : x_X} {p : Program} {l : Launch} {e : Env} {R : Room} {s : State} {m : MethodId} {args : Array Value} {below : List Frame} {meth : Method} {c : Code} {M : x_MI} {Q : State → Prop} {H : Heap} {locs : List Loc} {lsC : Array Slot} {pc len : Nat} {ls : x_Ls} {st : List Value} {S : x_S} {z : Nat × x_Ls × List Value × x_S}
theorem xs_ldc {k9 : Nat} (hC : x_Cx ad b0 D cA X p l R s m args meth c M) (hd : decode (x_mb M) pc = .ok (.ldc k9, len)) (hlen : x_lenOK (.ldc k9) len = true) (hS : x_St ad b0 D cA s S H locs) (hl : x_lr ad ls lsC) (hm : ls.length = x_ml M) (h : x_step X M (.ldc k9) len pc ls st S = some (.inl z)) (k : x_Kt ad b0 D cA p l e R s m args below meth c M Q z) : x_Gl ad p l e R s m args below meth c Q (pc, ls, st, S) H locs lsC := by
  obtain ⟨had, hx, hb, hml, hr, hown, hts, hlk, hst9, htab, hF, hK, hR, hini, hb0⟩ := hC
  have hlen : len = 2 := Nat.eq_of_beq_eq_true hlen
  subst hlen
  unfold x_step at h
  dsimp only at h
  split at h
  · rename_i hk
    have hkk := x_key_div (M := M) hk
    split at h
    · rename_i v hv
      obtain rfl := x_go_inj h
      have hw := hts _ (x_cstT_ok _ (x_look_mem hv))
      dsimp only at hw
      rw [hkk.1, hkk.2] at hw
      exact lv_ldc hx hb hown hw hd (k _ _ _ hS hl hm)
    · rename_i r _ hv
      obtain rfl := x_go_inj h
      have hw := hF.2.2.2.2.2.2.1 _ (x_look_mem hv)
      dsimp only at hw
      rw [hkk.1, hkk.2] at hw
      exact va_ldcS hx hb hown hw hd (k _ _ _ hS hl hm)
    · exact x_no h
  · exact x_no h
theorem xs_ldc2 {k9 : Nat} (hC : x_Cx ad b0 D cA X p l R s m args meth c M) (hd : decode (x_mb M) pc = .ok (.ldc2_w k9, len)) (hlen : x_lenOK (.ldc2_w k9) len = true) (hS : x_St ad b0 D cA s S H locs) (hl : x_lr ad ls lsC) (hm : ls.length = x_ml M) (h : x_step X M (.ldc2_w k9) len pc ls st S = some (.inl z)) (k : x_Kt ad b0 D cA p l e R s m args below meth c M Q z) : x_Gl ad p l e R s m args below meth c Q (pc, ls, st, S) H locs lsC := by
  obtain ⟨had, hx, hb, hml, hr, hown, hts, hlk, hst9, htab, hF, hK, hR, hini, hb0⟩ := hC
  have hlen : len = 3 := Nat.eq_of_beq_eq_true hlen
  subst hlen
  unfold x_step at h
  dsimp only at h
  split at h
  · rename_i hk
    have hkk := x_key_div (M := M) hk
    split at h
    · rename_i v hv
      obtain rfl := x_go_inj h
      have hw := hts _ (x_cslT_ok _ (x_look_mem hv))
      dsimp only at hw
      rw [hkk.1, hkk.2] at hw
      exact lv_ldc2 hx hb hown hw hd (k _ _ _ hS hl hm)
    · exact x_no h
  · exact x_no h
theorem xs_getfield {k9 : Nat} (hC : x_Cx ad b0 D cA X p l R s m args meth c M) (hd : decode (x_mb M) pc = .ok (.getfield k9, len)) (hlen : x_lenOK (.getfield k9) len = true) (hS : x_St ad b0 D cA s S H locs) (hl : x_lr ad ls lsC) (hm : ls.length = x_ml M) (h : x_step X M (.getfield k9) len pc ls st S = some (.inl z)) (k : x_Kt ad b0 D cA p l e R s m args below meth c M Q z) : x_Gl ad p l e R s m args below meth c Q (pc, ls, st, S) H locs lsC := by
  obtain ⟨had, hx, hb, hml, hr, hown, hts, hlk, hst9, htab, hF, hK, hR, hini, hb0⟩ := hC
  have hlen : len = 3 := Nat.eq_of_beq_eq_true hlen
  subst hlen
  unfold x_step at h
  dsimp only at h
  split at h
  · rename_i _ r st9
    split at h
    · rename_i ci j kd fin hv
      split at h
      · rename_i hcond
        obtain ⟨hr1, hsh, hk⟩ := hcond
        have hkk := x_key_div (M := M) hk
        split at h
        · rename_i v hfv
          obtain rfl := x_go_inj h
          obtain ⟨rc, g1, g2, g3, g4, g5, g6⟩ := x_fldT_ok _ (x_look_mem hv)
          have g7 := x_fldT_kd _ (x_look_mem hv)
          dsimp only at g1 g2 g3 g4 g5 g6 g7
          rw [hkk.1, hkk.2] at g3
          obtain ⟨C, T, N⟩ := rc
          dsimp only at g2 g3 g4 g5
          exact va_get (ref := C) hx hb hts (x_wAll g1) hown hK hS.1.1 r (by rw [x_wl_get hr1, x_cell_o hsh]) g1 j g2 (hts _ g3) (fun x hx9 => by rw [← g4]; exact hx9) (v := x_tv ad v) (by rw [x_fs_get g7, x_fv_val hfv]) hd (k _ _ _ hS hl hm)
        · exact x_no h
      · exact x_no h
    · exact x_no h
  · exact x_no h
end

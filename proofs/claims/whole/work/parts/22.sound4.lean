/-! ===== makings, Object.<init>, copies ===== -/
theorem x_defs {ci : Nat} {r : vw_C} (h : vwCl[ci]? = some r) (ad : Nat → Nat) (I : Nat → Nat → Int32) (L : Nat → Nat → Int64) (P : Nat → Nat → Option Nat) (n : Nat) : ∀ j, j < r.2.2 → defaultValue (x_ty ci j) = vp_V (x_fs ad (va_up I n (fun _ => 0), va_up L n (fun _ => 0), va_up P n (fun _ => none)) n ci) j := by
  intro j hj
  have hl := x_cl_lt h
  have hk : (x_fks ci)[j]? = some (x_kd (x_ty ci j)) := by
    match ci, h, hl with
    | 0, h, _ => cases h; exact (show ∀ j, j < 6 → (x_fks 0)[j]? = some (x_kd (x_ty 0 j)) by decide) j hj
    | 1, h, _ => cases h; exact (show ∀ j, j < 8 → (x_fks 1)[j]? = some (x_kd (x_ty 1 j)) by decide) j hj
    | 2, h, _ => cases h; exact (show ∀ j, j < 2 → (x_fks 2)[j]? = some (x_kd (x_ty 2 j)) by decide) j hj
    | 3, h, _ => cases h; exact (show ∀ j, j < 3 → (x_fks 3)[j]? = some (x_kd (x_ty 3 j)) by decide) j hj
    | 4, h, _ => cases h; exact (show ∀ j, j < 7 → (x_fks 4)[j]? = some (x_kd (x_ty 4 j)) by decide) j hj
    | 5, h, _ => cases h; exact (show ∀ j, j < 7 → (x_fks 5)[j]? = some (x_kd (x_ty 5 j)) by decide) j hj
    | 6, h, _ => cases h; exact (show ∀ j, j < 6 → (x_fks 6)[j]? = some (x_kd (x_ty 6 j)) by decide) j hj
    | 7, h, _ => cases h; exact (show ∀ j, j < 4 → (x_fks 7)[j]? = some (x_kd (x_ty 7 j)) by decide) j hj
    | 8, h, _ => cases h; exact (show ∀ j, j < 4 → (x_fks 8)[j]? = some (x_kd (x_ty 8 j)) by decide) j hj
    | 9, h, _ => cases h; exact (show ∀ j, j < 19 → (x_fks 9)[j]? = some (x_kd (x_ty 9 j)) by decide) j hj
  have h3 : x_kd (x_ty ci j) < 3 := by
    match ci, h, hl with
    | 0, h, _ => cases h; exact (show ∀ j, j < 6 → x_kd (x_ty 0 j) < 3 by decide) j hj
    | 1, h, _ => cases h; exact (show ∀ j, j < 8 → x_kd (x_ty 1 j) < 3 by decide) j hj
    | 2, h, _ => cases h; exact (show ∀ j, j < 2 → x_kd (x_ty 2 j) < 3 by decide) j hj
    | 3, h, _ => cases h; exact (show ∀ j, j < 3 → x_kd (x_ty 3 j) < 3 by decide) j hj
    | 4, h, _ => cases h; exact (show ∀ j, j < 7 → x_kd (x_ty 4 j) < 3 by decide) j hj
    | 5, h, _ => cases h; exact (show ∀ j, j < 7 → x_kd (x_ty 5 j) < 3 by decide) j hj
    | 6, h, _ => cases h; exact (show ∀ j, j < 6 → x_kd (x_ty 6 j) < 3 by decide) j hj
    | 7, h, _ => cases h; exact (show ∀ j, j < 4 → x_kd (x_ty 7 j) < 3 by decide) j hj
    | 8, h, _ => cases h; exact (show ∀ j, j < 4 → x_kd (x_ty 8 j) < 3 by decide) j hj
    | 9, h, _ => cases h; exact (show ∀ j, j < 19 → x_kd (x_ty 9 j) < 3 by decide) j hj
  unfold vp_V
  rw [List.getD_eq_getElem?_getD, x_fs_get hk]
  generalize x_ty ci j = ty at h3 ⊢
  cases ty <;> first | exact absurd h3 (by decide) | (rw [Option.getD_some]; unfold x_fval x_kd; dsimp only; simp only [x_up_self]; rfl)
section
variable {ad : Nat → Nat} {b0 : Nat} {D : va_G} {cA : Nat → ClassId} {X : x_X} {p : Program} {l : Launch} {e : Env} {R : Room} {s : State} {m : MethodId} {args : Array Value} {below : List Frame} {meth : Method} {c : Code} {M : x_MI} {Q : State → Prop} {H : Heap} {locs : List Loc} {lsC : Array Slot} {pc len : Nat} {ls : x_Ls} {st : List Value} {S : x_S} {z : Nat × x_Ls × List Value × x_S}
/-- behind a making: the world has one cell more -/
theorem x_made {k9 : Nat} {H1 : Heap} (had : ∀ k, k < x_N → ad k = b0 + k) (hS : x_St ad b0 D cA s S H locs) (hn : S.2.1 < x_N) (z1 : H1.size = b0 + S.2.1 + 1) (o1 : ∀ q, q < b0 + S.2.1 → H1[q]? = H[q]?) (hat : va_at D vwCl (ad S.2.1, x_cell ad cA (x_mk S k9).1 S.2.1) H1) : x_St ad b0 D cA s (x_mk S k9) H1 locs := by
  have hH : H.size = b0 + S.2.1 := hS.1.2.2.1 hn
  refine ⟨⟨x_wl_P hS.1.1 (fun j hj => x_cell_same (x_up_ne _ _ hj) (x_up_ne _ _ hj) (x_up_ne _ _ hj)) (fun q hq => o1 q (by omega)) hat, ?_, fun _ => ?_, ?_⟩, ?_, fun q h1 h2 => ?_, hS.2.2.2⟩
  · show b0 + (S.2.1 + 1) ≤ _
    omega
  · show _ = b0 + (S.2.1 + 1)
    omega
  · show S.2.1 + 1 ≤ x_N
    omega
  · have := hS.2.1
    omega
  · rw [o1 q (by have := hS.2.1; omega)]
    exact hS.2.2.1 q h1 h2
theorem xs_newarray {t : ArrayType} (hC : x_Cx ad b0 D cA X p l R s m args meth c M) (hd : decode (x_mb M) pc = .ok (.newarray t, len)) (hlen : x_lenOK (.newarray t) len = true) (hS : x_St ad b0 D cA s S H locs) (hl : x_lr ad ls lsC) (hm : ls.length = x_ml M) (h : x_step X M (.newarray t) len pc ls st S = some (.inl z)) (k : x_Kt ad b0 D cA p l e R s m args below meth c M Q z) : x_Gl ad p l e R s m args below meth c Q (pc, ls, st, S) H locs lsC := by
  obtain ⟨had, hx, hb, hml, hr, hown, hts, hlk, hst9, htab, hF, hK, hR, hini, hb0⟩ := hC
  have hlen : len = 2 := Nat.eq_of_beq_eq_true hlen
  subst hlen
  unfold x_step at h
  dsimp only at h
  split at h
  · rename_i _ n st9
    split at h
    · exact x_no h
    · rename_i hneg
      split at h
      · rename_i hcond
        obtain ⟨hn, hc1, hc2, hsh2, hsh1⟩ := hcond
        obtain rfl := x_go_inj h
        have hH : H.size = b0 + S.2.1 := hS.1.2.2.1 hn
        have hadn : ad S.2.1 = b0 + S.2.1 := had _ hn
        have hsm : n.toNatClampNeg ≤ 4848 := by
          rw [← hsh2]
          have : ∀ q, q < x_N → (x_shp q).2 ≤ 4848 := by decide +kernel
          exact this _ hn
        cases t <;> first | exact absurd hsh1 (fun h9 => by
          have : ∀ q, q < x_N → (x_shp q).1 ≠ 99 := by decide +kernel
          exact this _ hn h9) | skip
        case byte =>
          refine va_newaK (atype := .byte) (N := n.toNatClampNeg) (h := b0 + S.2.1) hx hb (hts _ x_aw_byte) rfl hd rfl hneg rfl (by show _ * 1 ≤ _; omega) (Nat.le_trans hc1 hR.2.2.1) (Nat.le_trans hc2 hR.2.2.2) hH fun H1 cB e1 z1 o1 hAr hNm => ?_
          have hcB : cB = cA 0 := Option.some.inj (hNm.symm.trans ((hK.2 0 _ rfl).2))
          subst hcB
          have := k H1 locs lsC (x_made had hS hn z1 o1 (by
            rw [x_cell_0 hsh1]
            show H1[ad S.2.1]? = some (arrV (cA 0) (x_shp S.2.1).2 (fun j => Value.int (va_up S.1.1 S.2.1 (fun _ => 0) S.2.1 j)))
            rw [x_up_self, hadn, hsh2]
            exact e1)) hl hm
          unfold x_Gl at this
          dsimp only at this
          rw [show List.map (x_tv ad) (Value.ref S.2.1 :: st9) = Value.ref (b0 + S.2.1) :: List.map (x_tv ad) st9 from by rw [← hadn]; rfl] at this
          exact this
        case int =>
          refine va_newaK (atype := .int) (N := n.toNatClampNeg) (h := b0 + S.2.1) hx hb (hts _ x_aw_int) rfl hd rfl hneg rfl (by show _ * 4 ≤ _; omega) (Nat.le_trans hc1 hR.2.2.1) (Nat.le_trans hc2 hR.2.2.2) hH fun H1 cB e1 z1 o1 hAr hNm => ?_
          have hcB : cB = cA 1 := Option.some.inj (hNm.symm.trans ((hK.2 1 _ rfl).2))
          subst hcB
          have := k H1 locs lsC (x_made had hS hn z1 o1 (by
            rw [x_cell_1 hsh1]
            show H1[ad S.2.1]? = some (arrV (cA 1) (x_shp S.2.1).2 (fun j => Value.int (va_up S.1.1 S.2.1 (fun _ => 0) S.2.1 j)))
            rw [x_up_self, hadn, hsh2]
            exact e1)) hl hm
          unfold x_Gl at this
          dsimp only at this
          rw [show List.map (x_tv ad) (Value.ref S.2.1 :: st9) = Value.ref (b0 + S.2.1) :: List.map (x_tv ad) st9 from by rw [← hadn]; rfl] at this
          exact this
        case long =>
          refine va_newaK (atype := .long) (N := n.toNatClampNeg) (h := b0 + S.2.1) hx hb (hts _ x_aw_long) rfl hd rfl hneg rfl (by show _ * 8 ≤ _; omega) (Nat.le_trans hc1 hR.2.2.1) (Nat.le_trans hc2 hR.2.2.2) hH fun H1 cB e1 z1 o1 hAr hNm => ?_
          have hcB : cB = cA 2 := Option.some.inj (hNm.symm.trans ((hK.2 2 _ rfl).2))
          subst hcB
          have := k H1 locs lsC (x_made had hS hn z1 o1 (by
            rw [x_cell_2 hsh1]
            show H1[ad S.2.1]? = some (arrV (cA 2) (x_shp S.2.1).2 (fun j => Value.long (va_up S.1.2.1 S.2.1 (fun _ => 0) S.2.1 j)))
            rw [x_up_self, hadn, hsh2]
            exact e1)) hl hm
          unfold x_Gl at this
          dsimp only at this
          rw [show List.map (x_tv ad) (Value.ref S.2.1 :: st9) = Value.ref (b0 + S.2.1) :: List.map (x_tv ad) st9 from by rw [← hadn]; rfl] at this
          exact this
      · exact x_no h
  · exact x_no h
theorem xs_anewarray {k9 : Nat} (hC : x_Cx ad b0 D cA X p l R s m args meth c M) (hd : decode (x_mb M) pc = .ok (.anewarray k9, len)) (hlen : x_lenOK (.anewarray k9) len = true) (hS : x_St ad b0 D cA s S H locs) (hl : x_lr ad ls lsC) (hm : ls.length = x_ml M) (h : x_step X M (.anewarray k9) len pc ls st S = some (.inl z)) (k : x_Kt ad b0 D cA p l e R s m args below meth c M Q z) : x_Gl ad p l e R s m args below meth c Q (pc, ls, st, S) H locs lsC := by
  obtain ⟨had, hx, hb, hml, hr, hown, hts, hlk, hst9, htab, hF, hK, hR, hini, hb0⟩ := hC
  have hlen : len = 3 := Nat.eq_of_beq_eq_true hlen
  subst hlen
  unfold x_step at h
  dsimp only at h
  split at h
  · rename_i _ n st9
    split at h
    · exact x_no h
    · rename_i hneg
      split at h
      · rename_i hcond
        obtain ⟨hv, hk, hn, hc1, hc2, hsh2, hsh1⟩ := hcond
        have hkk := x_key_div (M := M) hk
        obtain rfl := x_go_inj h
        have hH : H.size = b0 + S.2.1 := hS.1.2.2.1 hn
        have hadn : ad S.2.1 = b0 + S.2.1 := had _ hn
        have hsm : n.toNatClampNeg ≤ 4848 := by
          rw [← hsh2]
          have : ∀ q, q < x_N → (x_shp q).2 ≤ 4848 := by decide +kernel
          exact this _ hn
        obtain ⟨rc, g1, g2, g3, g4⟩ := x_newT_ok _ (x_look_mem hv)
        dsimp only at g1 g2
        rw [hkk.1, hkk.2] at g2
        cases g1
        refine W.anew (C := "TimberSale$Sale") hx hb hown (hts _ g2) (va_AO.use hF.2.2.2.2.2.1) rfl hd rfl hneg (by omega) (Nat.le_trans hc1 hR.2.2.1) (Nat.le_trans hc2 hR.2.2.2) fun cB kB comp f1 f2 f3 f4 => ?_
        generalize hH1 : H.push ({ cls := cB, slots := Array.replicate n.toNatClampNeg .null, vm := .none } : Cell) = H1
        have z1 : H1.size = b0 + S.2.1 + 1 := by rw [← hH1, Array.size_push, hH]
        have e1 : H1[H.size]? = some (arrV cB n.toNatClampNeg (fun _ => .null)) := by rw [← hH1, Array.getElem?_push_size, ← arrV_new]
        have o1 : ∀ q : Nat, q < b0 + S.2.1 → H1[q]? = H[q]? := fun q hq => by rw [← hH1, Array.getElem?_push, if_neg (by omega)]
        have hcB : cB = cA 3 := by
          obtain ⟨_, _, _, _, _, hfc⟩ := (hK.2 3 _ rfl).2
          exact Option.some.inj (f1.symm.trans hfc)
        subst hcB
        have := k H1 locs lsC (x_made had hS hn z1 o1 (by
          rw [x_cell_3 hsh1]
          show H1[ad S.2.1]? = some (arrV (cA 3) (x_shp S.2.1).2 (fun j => va_rf ((va_up S.1.2.2 S.2.1 (fun _ => none) S.2.1 j).map ad)))
          rw [x_up_self, hadn, hsh2, ← hH]
          exact e1)) hl hm
        unfold x_Gl at this
        dsimp only at this
        rw [show List.map (x_tv ad) (Value.ref S.2.1 :: st9) = Value.ref H.size :: List.map (x_tv ad) st9 from by rw [hH, ← hadn]; rfl] at this
        exact this
      · exact x_no h
  · exact x_no h
theorem xs_new {k9 : Nat} (hC : x_Cx ad b0 D cA X p l R s m args meth c M) (hd : decode (x_mb M) pc = .ok (.new k9, len)) (hlen : x_lenOK (.new k9) len = true) (hS : x_St ad b0 D cA s S H locs) (hl : x_lr ad ls lsC) (hm : ls.length = x_ml M) (h : x_step X M (.new k9) len pc ls st S = some (.inl z)) (k : x_Kt ad b0 D cA p l e R s m args below meth c M Q z) : x_Gl ad p l e R s m args below meth c Q (pc, ls, st, S) H locs lsC := by
  obtain ⟨had, hx, hb, hml, hr, hown, hts, hlk, hst9, htab, hF, hK, hR, hini, hb0⟩ := hC
  have hlen : len = 3 := Nat.eq_of_beq_eq_true hlen
  subst hlen
  unfold x_step at h
  dsimp only at h
  split at h
  · rename_i hk
    have hkk := x_key_div (M := M) hk
    split at h
    · rename_i ci hv
      split at h
      · rename_i hcond
        obtain ⟨hn, hc1, hc2, hsh1⟩ := hcond
        obtain rfl := x_go_inj h
        have hH : H.size = b0 + S.2.1 := hS.1.2.2.1 hn
        have hadn : ad S.2.1 = b0 + S.2.1 := had _ hn
        obtain ⟨rc, g1, g2, g3, g4⟩ := x_newT_ok _ (x_look_mem hv)
        dsimp only at g1 g2 g3 g4
        rw [hkk.1, hkk.2] at g2
        have hfl := x_fks_len g1
        rw [hfl] at hc2
        have hKn := hK.1 ci rc g1
        refine W.newcK (n := rc.2.2) (h := b0 + S.2.1) hx hb hown (hts _ g2) (hts _ g3) (hts _ g4) rfl hd (Nat.le_trans hc1 hR.2.2.1) (Nat.le_trans hc2 hR.2.2.2) hKn.2.1 hH fun H1 kC hkC e1 z1 o1 => ?_
        have := k H1 locs lsC (x_made had hS hn z1 o1 (by
          rw [x_cell_o hsh1, hadn]
          exact ⟨rc, g1, (u_born (x_ty ci) hts (x_wAll g1) hKn hkC e1 (x_tyAll g1)).to (x_defs g1 ad _ _ _ _)⟩)) hl hm
        unfold x_Gl at this
        dsimp only at this
        rw [show List.map (x_tv ad) (Value.ref S.2.1 :: st) = Value.ref (b0 + S.2.1) :: List.map (x_tv ad) st from by rw [← hadn]; rfl] at this
        have hsl : (x_mk S (x_fks ci).length).2.2.2 = S.2.2.2 + rc.2.2 := by rw [← hfl]; rfl
        rw [hsl] at this
        exact this
      · exact x_no h
    · split at h
      · cases h
      · exact x_no h
    · exact x_no h
  · exact x_no h
end

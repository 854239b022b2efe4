/-! ===== stores, makings, copies ===== -/
section
variable {ad : Nat → Nat} {b0 : Nat} {D : va_G} {cA : Nat → ClassId} {X : x_X} {p : Program} {l : Launch} {e : Env} {R : Room} {s : State} {m : MethodId} {args : Array Value} {below : List Frame} {meth : Method} {c : Code} {M : x_MI} {Q : State → Prop} {H : Heap} {locs : List Loc} {lsC : Array Slot} {pc len : Nat} {ls : x_Ls} {st : List Value} {S : x_S} {z : Nat × x_Ls × List Value × x_S}
theorem x_nx {S' : x_S} {r pc' : Nat} {x : va_E} {st9 : List Value} (hS : x_St ad b0 D cA s S H locs) (hr : r < S.2.1) (he : x_cell ad cA S'.1 r = x) (ho : ∀ j, j ≠ r → x_cell ad cA S'.1 j = x_cell ad cA S.1 j) (h2 : S'.2 = S.2) (hl : x_lr ad ls lsC) (hm : ls.length = x_ml M) (k : x_Kt ad b0 D cA p l e R s m args below meth c M Q (pc', ls, st9, S')) : x_Nx D vwCl (fun q => b0 ≤ q) (x_wl ad cA S.1 S.2.1) s.heap H r (ad r) x (fun H1 locs1 => W p l e R s m args below meth c H1 locs1 S.2.2.1 S.2.2.2 Q (F0 m pc' lsC (st9.map (x_tv ad)))) := by
  intro H1 locs1 hz hP1 hS1
  rw [x_wl_set hr he ho] at hP1
  obtain ⟨μ', t⟩ := S'
  dsimp only at h2
  subst h2
  exact k H1 locs1 lsC ⟨⟨hP1, by rw [hz]; exact hS.1.2.1, by rw [hz]; exact hS.1.2.2.1, hS.1.2.2.2⟩, hS1⟩ hl hm
theorem xs_putfield {k9 : Nat} (hC : x_Cx ad b0 D cA X p l R s m args meth c M) (hd : decode (x_mb M) pc = .ok (.putfield k9, len)) (hlen : x_lenOK (.putfield k9) len = true) (hS : x_St ad b0 D cA s S H locs) (hl : x_lr ad ls lsC) (hm : ls.length = x_ml M) (h : x_step X M (.putfield k9) len pc ls st S = some (.inl z)) (k : x_Kt ad b0 D cA p l e R s m args below meth c M Q z) : x_Gl ad p l e R s m args below meth c Q (pc, ls, st, S) H locs lsC := by
  obtain ⟨had, hx, hb, hml, hr, hown, hts, hlk, hst9, htab, hF, hK, hR, hini, hb0⟩ := hC
  have hlen : len = 3 := Nat.eq_of_beq_eq_true hlen
  subst hlen
  unfold x_step at h
  dsimp only at h
  split at h
  · rename_i _ v r st9
    split at h
    · rename_i ci j kd fin hv
      split at h
      · rename_i hcond
        obtain ⟨hr1, hsh, hk, hfin⟩ := hcond
        have hkk := x_key_div (M := M) hk
        split at h
        · rename_i S' hfp
          obtain rfl := x_go_inj h
          obtain ⟨rc, g1, g2, g3, g4, g5, g6⟩ := x_fldT_ok _ (x_look_mem hv)
          have g7 := x_fldT_kd _ (x_look_mem hv)
          have g8 := x_clOwn g1
          dsimp only at g1 g2 g3 g4 g5 g6 g7
          rw [hkk.1, hkk.2] at g3
          obtain ⟨C, T, N⟩ := rc
          dsimp only at g2 g3 g4 g5 g8
          obtain ⟨f1, f2, f3, f4, f5⟩ := x_fp_ok (ad := ad) (cA := cA) hfp g6 g7 hsh
          have he : (x_wl ad cA S.1 S.2.1)[r]? = some (ad r, .inr (ci, x_fs ad S.1 r ci)) := by rw [x_wl_get hr1, x_cell_o hsh]
          exact x_put hx hb hts (x_wAll g1) (x_ty ci) (x_tyAll g1) (x_nmAll g1) hown hK hS.1.1 (x_wl_D had hS.1.2.2.2) hS.2 r he g1 j g2 (hts _ g3) g4 g5 (fun h9 => ⟨hini (hfin h9).1, by rw [(hfin h9).2]; exact g8⟩) f1 f2 (by rw [x_fs_len]; exact (List.getElem?_eq_some_iff.mp g7).1) hd (x_nx hS hr1 f3 f4 f5 hl hm k)
        · exact x_no h
      · exact x_no h
    · exact x_no h
  · exact x_no h
theorem xs_getstatic {k9 : Nat} (hC : x_Cx ad b0 D cA X p l R s m args meth c M) (hd : decode (x_mb M) pc = .ok (.getstatic k9, len)) (hlen : x_lenOK (.getstatic k9) len = true) (hS : x_St ad b0 D cA s S H locs) (hl : x_lr ad ls lsC) (hm : ls.length = x_ml M) (h : x_step X M (.getstatic k9) len pc ls st S = some (.inl z)) (k : x_Kt ad b0 D cA p l e R s m args below meth c M Q z) : x_Gl ad p l e R s m args below meth c Q (pc, ls, st, S) H locs lsC := by
  obtain ⟨had, hx, hb, hml, hr, hown, hts, hlk, hst9, htab, hF, hK, hR, hini, hb0⟩ := hC
  have hlen : len = 3 := Nat.eq_of_beq_eq_true hlen
  subst hlen
  unfold x_step at h
  dsimp only at h
  split at h
  · rename_i hk
    have hkk := x_key_div (M := M) hk
    split at h
    · rename_i r hv
      obtain rfl := x_go_inj h
      obtain ⟨g1, g2⟩ := hF.2.1 _ (x_look_mem hv)
      dsimp only at g1 g2
      rw [hkk.1, hkk.2] at g2
      exact va_getsN hx hb g1 hS.2 hown (va_Nw.use rfl g2) (fun _ h9 => h9) hd (k _ _ _ hS hl hm)
    · exact x_no h
  · exact x_no h
theorem xs_alen (hC : x_Cx ad b0 D cA X p l R s m args meth c M) (hd : decode (x_mb M) pc = .ok (.arraylength, len)) (hlen : x_lenOK .arraylength len = true) (hS : x_St ad b0 D cA s S H locs) (hl : x_lr ad ls lsC) (hm : ls.length = x_ml M) (h : x_step X M .arraylength len pc ls st S = some (.inl z)) (k : x_Kt ad b0 D cA p l e R s m args below meth c M Q z) : x_Gl ad p l e R s m args below meth c Q (pc, ls, st, S) H locs lsC := by
  obtain ⟨had, hx, hb, hml, hr, hown, hts, hlk, hst9, htab, hF, hK, hR, hini, hb0⟩ := hC
  have hlen : len = 1 := Nat.eq_of_beq_eq_true hlen
  subst hlen
  unfold x_step at h
  dsimp only at h
  split at h
  · rename_i _ r st9
    split at h
    · rename_i n hn
      obtain rfl := x_go_inj h
      unfold x_len at hn
      split at hn
      · rename_i hr1
        split at hn
        · rename_i hsh
          cases hn
          have hg := x_wl_get (ad := ad) (cA := cA) (μ := S.1) hr1
          have h4 : (x_shp r).1 = 0 ∨ (x_shp r).1 = 1 ∨ (x_shp r).1 = 2 ∨ (x_shp r).1 = 3 := by omega
          rcases h4 with h4 | h4 | h4 | h4
          · rw [x_cell_0 h4] at hg
            exact va_alen hx hb hK hS.1.1 r 0 hg rfl rfl hd (k _ _ _ hS hl hm)
          · rw [x_cell_1 h4] at hg
            exact va_alen hx hb hK hS.1.1 r 1 hg rfl rfl hd (k _ _ _ hS hl hm)
          · rw [x_cell_2 h4] at hg
            exact va_alen hx hb hK hS.1.1 r 2 hg rfl rfl hd (k _ _ _ hS hl hm)
          · rw [x_cell_3 h4] at hg
            exact va_alen hx hb hK hS.1.1 r 3 hg rfl rfl hd (k _ _ _ hS hl hm)
        · cases hn
      · cases hq : x_for X r with
        | none => rw [hq] at hn; cases hn
        | some q =>
          rw [hq] at hn
          cases hn
          exact va_tlen hx hb (hF.1 r q hq) hS.2 rfl hd (k _ _ _ hS hl hm)
    · exact x_no h
  · exact x_no h
theorem xs_iaload (hC : x_Cx ad b0 D cA X p l R s m args meth c M) (hd : decode (x_mb M) pc = .ok (.iaload, len)) (hlen : x_lenOK .iaload len = true) (hS : x_St ad b0 D cA s S H locs) (hl : x_lr ad ls lsC) (hm : ls.length = x_ml M) (h : x_step X M .iaload len pc ls st S = some (.inl z)) (k : x_Kt ad b0 D cA p l e R s m args below meth c M Q z) : x_Gl ad p l e R s m args below meth c Q (pc, ls, st, S) H locs lsC := by
  obtain ⟨had, hx, hb, hml, hr, hown, hts, hlk, hst9, htab, hF, hK, hR, hini, hb0⟩ := hC
  have hlen : len = 1 := Nat.eq_of_beq_eq_true hlen
  subst hlen
  unfold x_step at h
  dsimp only at h
  split at h
  · rename_i _ j r st9
    split at h
    · rename_i q hq
      split at h
      · exact x_no h
      · rename_i hin
        obtain rfl := x_go_inj h
        rcases x_arr_spec hq with ⟨hr1, hsh, rfl⟩ | hq
        · have hg := x_wl_get (ad := ad) (cA := cA) (μ := S.1) hr1
          rw [x_cell_1 hsh] at hg
          exact va_iald hx hb hK hS.1.1 r 1 hg rfl hin hd (k _ _ _ hS hl hm)
        · exact va_ti hx hb (hF.1 r q hq) hS.2 hin rfl hd (k _ _ _ hS hl hm)
    · exact x_no h
  · exact x_no h
theorem xs_baload (hC : x_Cx ad b0 D cA X p l R s m args meth c M) (hd : decode (x_mb M) pc = .ok (.baload, len)) (hlen : x_lenOK .baload len = true) (hS : x_St ad b0 D cA s S H locs) (hl : x_lr ad ls lsC) (hm : ls.length = x_ml M) (h : x_step X M .baload len pc ls st S = some (.inl z)) (k : x_Kt ad b0 D cA p l e R s m args below meth c M Q z) : x_Gl ad p l e R s m args below meth c Q (pc, ls, st, S) H locs lsC := by
  obtain ⟨had, hx, hb, hml, hr, hown, hts, hlk, hst9, htab, hF, hK, hR, hini, hb0⟩ := hC
  have hlen : len = 1 := Nat.eq_of_beq_eq_true hlen
  subst hlen
  unfold x_step at h
  dsimp only at h
  split at h
  · rename_i _ j r st9
    split at h
    · rename_i ho
      obtain ⟨hr1, hsh⟩ := x_own_spec ho
      split at h
      · exact x_no h
      · rename_i hin
        obtain rfl := x_go_inj h
        have hg := x_wl_get (ad := ad) (cA := cA) (μ := S.1) hr1
        rw [x_cell_0 hsh] at hg
        exact va_bald hx hb hK hS.1.1 r 0 hg rfl hin hd (k _ _ _ hS hl hm)
    · exact x_no h
  · exact x_no h
theorem xs_laload (hC : x_Cx ad b0 D cA X p l R s m args meth c M) (hd : decode (x_mb M) pc = .ok (.laload, len)) (hlen : x_lenOK .laload len = true) (hS : x_St ad b0 D cA s S H locs) (hl : x_lr ad ls lsC) (hm : ls.length = x_ml M) (h : x_step X M .laload len pc ls st S = some (.inl z)) (k : x_Kt ad b0 D cA p l e R s m args below meth c M Q z) : x_Gl ad p l e R s m args below meth c Q (pc, ls, st, S) H locs lsC := by
  obtain ⟨had, hx, hb, hml, hr, hown, hts, hlk, hst9, htab, hF, hK, hR, hini, hb0⟩ := hC
  have hlen : len = 1 := Nat.eq_of_beq_eq_true hlen
  subst hlen
  unfold x_step at h
  dsimp only at h
  split at h
  · rename_i _ j r st9
    split at h
    · rename_i ho
      obtain ⟨hr1, hsh⟩ := x_own_spec ho
      split at h
      · exact x_no h
      · rename_i hin
        obtain rfl := x_go_inj h
        have hg := x_wl_get (ad := ad) (cA := cA) (μ := S.1) hr1
        rw [x_cell_2 hsh] at hg
        exact va_lald hx hb hK hS.1.1 r 2 hg rfl hin hd (k _ _ _ hS hl hm)
    · exact x_no h
  · exact x_no h
theorem xs_aaload (hC : x_Cx ad b0 D cA X p l R s m args meth c M) (hd : decode (x_mb M) pc = .ok (.aaload, len)) (hlen : x_lenOK .aaload len = true) (hS : x_St ad b0 D cA s S H locs) (hl : x_lr ad ls lsC) (hm : ls.length = x_ml M) (h : x_step X M .aaload len pc ls st S = some (.inl z)) (k : x_Kt ad b0 D cA p l e R s m args below meth c M Q z) : x_Gl ad p l e R s m args below meth c Q (pc, ls, st, S) H locs lsC := by
  obtain ⟨had, hx, hb, hml, hr, hown, hts, hlk, hst9, htab, hF, hK, hR, hini, hb0⟩ := hC
  have hlen : len = 1 := Nat.eq_of_beq_eq_true hlen
  subst hlen
  unfold x_step at h
  dsimp only at h
  split at h
  · rename_i _ j r st9
    split at h
    · rename_i ho
      obtain ⟨hr1, hsh⟩ := x_own_spec ho
      split at h
      · exact x_no h
      · rename_i hin
        split at h
        · rename_i v hv
          obtain rfl := x_go_inj h
          have hg := x_wl_get (ad := ad) (cA := cA) (μ := S.1) hr1
          rw [x_cell_3 hsh] at hg
          refine va_aldq hx hb hK hS.1.1 r 3 hg rfl hin hd ?_
          have := k _ _ _ hS hl hm
          rw [hv]
          exact this
        · exact x_no h
    · exact x_no h
  · exact x_no h
theorem xs_iastore (hC : x_Cx ad b0 D cA X p l R s m args meth c M) (hd : decode (x_mb M) pc = .ok (.iastore, len)) (hlen : x_lenOK .iastore len = true) (hS : x_St ad b0 D cA s S H locs) (hl : x_lr ad ls lsC) (hm : ls.length = x_ml M) (h : x_step X M .iastore len pc ls st S = some (.inl z)) (k : x_Kt ad b0 D cA p l e R s m args below meth c M Q z) : x_Gl ad p l e R s m args below meth c Q (pc, ls, st, S) H locs lsC := by
  obtain ⟨had, hx, hb, hml, hr, hown, hts, hlk, hst9, htab, hF, hK, hR, hini, hb0⟩ := hC
  have hlen : len = 1 := Nat.eq_of_beq_eq_true hlen
  subst hlen
  unfold x_step at h
  dsimp only at h
  split at h
  · rename_i _ x j r st9
    split at h
    · rename_i ho
      obtain ⟨hr1, hsh⟩ := x_own_spec ho
      split at h
      · exact x_no h
      · rename_i hin
        obtain rfl := x_go_inj h
        have hg := x_wl_get (ad := ad) (cA := cA) (μ := S.1) hr1
        rw [x_cell_1 hsh] at hg
        exact x_iast hx hb hK hS.1.1 (x_wl_D had hS.1.2.2.2) hS.2 r 1 hg rfl hin hd (x_nx (S' := x_setI S r j.toNatClampNeg x) hS hr1 (by rw [x_cell_1 hsh]; unfold x_setI; dsimp only; rw [x_up_self]) (fun i hi => x_cell_same (x_up_ne _ _ hi) rfl rfl) rfl hl hm k)
    · exact x_no h
  · exact x_no h
theorem xs_bastore (hC : x_Cx ad b0 D cA X p l R s m args meth c M) (hd : decode (x_mb M) pc = .ok (.bastore, len)) (hlen : x_lenOK .bastore len = true) (hS : x_St ad b0 D cA s S H locs) (hl : x_lr ad ls lsC) (hm : ls.length = x_ml M) (h : x_step X M .bastore len pc ls st S = some (.inl z)) (k : x_Kt ad b0 D cA p l e R s m args below meth c M Q z) : x_Gl ad p l e R s m args below meth c Q (pc, ls, st, S) H locs lsC := by
  obtain ⟨had, hx, hb, hml, hr, hown, hts, hlk, hst9, htab, hF, hK, hR, hini, hb0⟩ := hC
  have hlen : len = 1 := Nat.eq_of_beq_eq_true hlen
  subst hlen
  unfold x_step at h
  dsimp only at h
  split at h
  · rename_i _ x j r st9
    split at h
    · rename_i ho
      obtain ⟨hr1, hsh⟩ := x_own_spec ho
      split at h
      · exact x_no h
      · rename_i hin
        obtain rfl := x_go_inj h
        have hg := x_wl_get (ad := ad) (cA := cA) (μ := S.1) hr1
        rw [x_cell_0 hsh] at hg
        exact x_bast hx hb hK hS.1.1 (x_wl_D had hS.1.2.2.2) hS.2 r 0 hg rfl hin hd (x_nx (S' := x_setI S r j.toNatClampNeg (vp_nar .byte x)) hS hr1 (by rw [x_cell_0 hsh]; unfold x_setI; dsimp only; rw [x_up_self]) (fun i hi => x_cell_same (x_up_ne _ _ hi) rfl rfl) rfl hl hm k)
    · exact x_no h
  · exact x_no h
theorem xs_lastore (hC : x_Cx ad b0 D cA X p l R s m args meth c M) (hd : decode (x_mb M) pc = .ok (.lastore, len)) (hlen : x_lenOK .lastore len = true) (hS : x_St ad b0 D cA s S H locs) (hl : x_lr ad ls lsC) (hm : ls.length = x_ml M) (h : x_step X M .lastore len pc ls st S = some (.inl z)) (k : x_Kt ad b0 D cA p l e R s m args below meth c M Q z) : x_Gl ad p l e R s m args below meth c Q (pc, ls, st, S) H locs lsC := by
  obtain ⟨had, hx, hb, hml, hr, hown, hts, hlk, hst9, htab, hF, hK, hR, hini, hb0⟩ := hC
  have hlen : len = 1 := Nat.eq_of_beq_eq_true hlen
  subst hlen
  unfold x_step at h
  dsimp only at h
  split at h
  · rename_i _ x j r st9
    split at h
    · rename_i ho
      obtain ⟨hr1, hsh⟩ := x_own_spec ho
      split at h
      · exact x_no h
      · rename_i hin
        obtain rfl := x_go_inj h
        have hg := x_wl_get (ad := ad) (cA := cA) (μ := S.1) hr1
        rw [x_cell_2 hsh] at hg
        exact x_last hx hb hK hS.1.1 (x_wl_D had hS.1.2.2.2) hS.2 r 2 hg rfl hin hd (x_nx (S' := x_setL S r j.toNatClampNeg x) hS hr1 (by rw [x_cell_2 hsh]; unfold x_setL; dsimp only; rw [x_up_self]) (fun i hi => x_cell_same rfl (x_up_ne _ _ hi) rfl) rfl hl hm k)
    · exact x_no h
  · exact x_no h
theorem xs_aastore (hC : x_Cx ad b0 D cA X p l R s m args meth c M) (hd : decode (x_mb M) pc = .ok (.aastore, len)) (hlen : x_lenOK .aastore len = true) (hS : x_St ad b0 D cA s S H locs) (hl : x_lr ad ls lsC) (hm : ls.length = x_ml M) (h : x_step X M .aastore len pc ls st S = some (.inl z)) (k : x_Kt ad b0 D cA p l e R s m args below meth c M Q z) : x_Gl ad p l e R s m args below meth c Q (pc, ls, st, S) H locs lsC := by
  obtain ⟨had, hx, hb, hml, hr, hown, hts, hlk, hst9, htab, hF, hK, hR, hini, hb0⟩ := hC
  have hlen : len = 1 := Nat.eq_of_beq_eq_true hlen
  subst hlen
  unfold x_step at h
  dsimp only at h
  split at h
  · rename_i _ v j r st9
    split at h
    · rename_i ho
      obtain ⟨hr1, hsh⟩ := x_own_spec ho.1
      split at h
      · exact x_no h
      · rename_i hin
        obtain rfl := x_go_inj h
        have hg := x_wl_get (ad := ad) (cA := cA) (μ := S.1) hr1
        rw [x_cell_3 hsh] at hg
        have hg2 := x_wl_get (ad := ad) (cA := cA) (μ := S.1) ho.2.1
        rw [x_cell_o (c := 6) ho.2.2] at hg2
        have hfun : (fun i => (va_up (S.1.2.2 r) j.toNatClampNeg (some v) i).map ad) = va_up (fun i => (S.1.2.2 r i).map ad) j.toNatClampNeg (some (ad v)) := by
          funext i
          by_cases hi : i = j.toNatClampNeg
          · subst hi
            rw [x_up_self, x_up_self]; rfl
          · rw [x_up_ne _ _ hi, x_up_ne _ _ hi]
        refine x_aast hx hb hK hS.1.1 (x_wl_D had hS.1.2.2.2) hS.2 r 3 v 6 (r := (RX6, TX6, 6)) hg rfl hg2 rfl hin hd (x_nx (S' := x_setR S r j.toNatClampNeg (some v)) hS hr1 ?_ (fun i hi => x_cell_same rfl rfl (x_up_ne _ _ hi)) rfl hl hm k)
        rw [x_cell_3 hsh]
        unfold x_setR
        dsimp only
        rw [x_up_self, hfun]
    · exact x_no h
  · exact x_no h
end

/-! ===== Object.<init>, System.arraycopy ===== -/
theorem x_cats_map (ad : Nat → Nat) (st : List Value) : ((st.map (x_tv ad)).map fun v => v.category).sum = x_cats st := by
  unfold x_cats
  rw [List.map_map]
  congr 1
  apply List.map_congr_left
  intro v _
  exact x_tv_cat ad v
theorem x_inv_spec {M : x_MI} {k kd : Nat} {st : List Value} {s : x_S} {a : x_A} (h : x_inv M k kd st s = some a) : ∃ q N na, x_cal M (x_key M k) = some (q, N, na) ∧ (kd = x_qk q ∧ na ≤ st.length ∧ x_cats (st.drop na) ≤ 8 ∧ x_lv N < x_lv M ∧ s.2.2.1 + x_mc N ≤ x_mc M ∧ s.2.2.2 + x_ms N ≤ x_ms M ∧ k < 1000 ∧ (x_av (st.take na).reverse).length ≤ x_ml N ∧ x_rcv q N s (st.take na).reverse = true) ∧ a = .inr (.inr (.inl (N, (st.take na).reverse, st.drop na))) := by
  unfold x_inv at h
  split at h
  · rename_i q N na hc
    split at h
    · rename_i hcond
      exact ⟨q, N, na, hc, hcond, (Option.some.inj h).symm⟩
    · cases h
  · cases h
section
variable {ad : Nat → Nat} {b0 : Nat} {D : va_G} {cA : Nat → ClassId} {X : x_X} {p : Program} {l : Launch} {e : Env} {R : Room} {s : State} {m : MethodId} {args : Array Value} {below : List Frame} {meth : Method} {c : Code} {M : x_MI} {Q : State → Prop} {H : Heap} {locs : List Loc} {lsC : Array Slot} {pc len : Nat} {ls : x_Ls} {st : List Value} {S : x_S} {z : Nat × x_Ls × List Value × x_S}
theorem xs_special {k9 : Nat} (hC : x_Cx ad b0 D cA X p l R s m args meth c M) (hd : decode (x_mb M) pc = .ok (.invokespecial k9, len)) (hlen : x_lenOK (.invokespecial k9) len = true) (hS : x_St ad b0 D cA s S H locs) (hl : x_lr ad ls lsC) (hm : ls.length = x_ml M) (h : x_step X M (.invokespecial k9) len pc ls st S = some (.inl z)) (k : x_Kt ad b0 D cA p l e R s m args below meth c M Q z) : x_Gl ad p l e R s m args below meth c Q (pc, ls, st, S) H locs lsC := by
  obtain ⟨had, hx, hb, hml, hr, hown, hts, hlk, hst9, htab, hF, hK, hR, hini, hb0⟩ := hC
  have hlen : len = 3 := Nat.eq_of_beq_eq_true hlen
  subst hlen
  unfold x_step at h
  dsimp only at h
  split at h
  · rename_i _ hv
    split at h
    · rename_i _ r st9
      split at h
      · rename_i hcond
        obtain ⟨hcat, hk⟩ := hcond
        have hkk := x_key_div (M := M) hk
        obtain rfl := x_go_inj h
        have hw := hts _ (x_obiT_ok _ (x_look_mem hv))
        dsimp only at hw
        rw [hkk.1, hkk.2] at hw
        refine W.objInit hx hb hown hw (hts _ x_obi1) (hts _ x_obi2) rfl (by rw [hml, ← hm]; exact hl.1) (a := ad r) rfl hd (by have := hR.1; omega) ?_ (k _ _ _ hS hl hm)
        show 2 * 0 + ((st9.map (x_tv ad)).map fun v => v.category).sum + 12 ≤ R.locals
        rw [x_cats_map]
        have := hR.2.1
        omega
      · exact x_no h
    · exact x_no h
  · obtain ⟨q, N, na, -, -, he⟩ := x_inv_spec h
    cases he
theorem xs_static {k9 : Nat} (hC : x_Cx ad b0 D cA X p l R s m args meth c M) (hd : decode (x_mb M) pc = .ok (.invokestatic k9, len)) (hlen : x_lenOK (.invokestatic k9) len = true) (hS : x_St ad b0 D cA s S H locs) (hl : x_lr ad ls lsC) (hm : ls.length = x_ml M) (h : x_step X M (.invokestatic k9) len pc ls st S = some (.inl z)) (k : x_Kt ad b0 D cA p l e R s m args below meth c M Q z) : x_Gl ad p l e R s m args below meth c Q (pc, ls, st, S) H locs lsC := by
  obtain ⟨had, hx, hb, hml, hr, hown, hts, hlk, hst9, htab, hF, hK, hR, hini, hb0⟩ := hC
  have hlen : len = 3 := Nat.eq_of_beq_eq_true hlen
  subst hlen
  unfold x_step at h
  dsimp only at h
  split at h
  · rename_i _ hv
    split at h
    · rename_i _ n dp b sp a st9
      split at h
      · exact x_no h
      · rename_i hneg
        split at h
        · rename_i hcond
          obtain ⟨hcat, hk⟩ := hcond
          have hkk := x_key_div (M := M) hk
          have hw := hts _ (x_cpyT_ok _ (x_look_mem hv))
          dsimp only at hw
          rw [hkk.1, hkk.2] at hw
          have hn1 : ¬ n < 0 := fun q => hneg (Or.inl q)
          have hn2 : ¬ sp < 0 := fun q => hneg (Or.inr (Or.inl q))
          have hn3 : ¬ dp < 0 := fun q => hneg (Or.inr (Or.inr q))
          have hmx : c.maxLocals = lsC.size := by rw [hml, ← hm]; exact hl.1.symm
          have hfr : 1 ≤ R.frames := by have := hR.1; omega
          have hlo : ((st9.map (x_tv ad)).map fun v => v.category).sum + (nativeFrameWords "java/lang/System" "arraycopy" 5 + 11) ≤ R.locals := by
            rw [x_cats_map]
            have := hR.2.1
            have h8 : nativeFrameWords "java/lang/System" "arraycopy" 5 ≤ 100 := by decide +kernel
            omega
          split at h
          · rename_i q hq
            split at h
            · rename_i hc2
              obtain ⟨hob, hq1, hq2⟩ := hc2
              obtain ⟨hb1, hbs⟩ := x_own_spec hob
              obtain rfl := x_go_inj h
              have hgb := x_wl_get (ad := ad) (cA := cA) (μ := S.1) hb1
              rw [x_cell_1 hbs] at hgb
              have hnx := x_nx (S' := x_rowI S b (va_cpy q.2 (S.1.1 b) sp.toNatClampNeg dp.toNatClampNeg n.toNatClampNeg)) hS hb1 (x_cell_1 hbs) (fun i hi => x_cell_same (x_up_ne _ _ hi) rfl rfl) rfl hl hm k
              have e9 : (x_rowI S b (va_cpy q.2 (S.1.1 b) sp.toNatClampNeg dp.toNatClampNeg n.toNatClampNeg)).1.1 b = va_cpy q.2 (S.1.1 b) sp.toNatClampNeg dp.toNatClampNeg n.toNatClampNeg := x_up_self _ _ _
              rw [e9] at hnx
              rcases x_arr_spec hq with ⟨ha1, has, hqe⟩ | hq
              · have hga := x_wl_get (ad := ad) (cA := cA) (μ := S.1) ha1
                rw [x_cell_1 has] at hga
                have hca : H[ad a]? = some (arrV (cA 1) (x_shp a).2 (fun j => Value.int (S.1.1 a j))) := hS.1.1 a _ hga
                subst hqe
                exact x_copy Value.int hx hb hmx hown hw (hts _ x_cpy1) (hts _ x_cpy2) (hts _ x_cpy3) hK hS.1.1 (x_wl_D had hS.1.2.2.2) hS.2 b 1 hca ((hK.2 1 _ rfl).1 _ _) (fun q => by cases q) (Nat.le_of_eq (arrV_size _ _ _).symm) (fun j hj => arrV_read _ _ hj) hgb rfl rfl rfl hn2 hn3 hn1 hq1 hq2 (fun _ => rfl) (fun _ _ _ => trivial) rfl hfr hlo hd hnx
              · obtain ⟨scr, hca, g3, g4, g5, -, g6, -⟩ := (hF.1 a q hq).kept hS.2.2.1
                exact x_copy Value.int hx hb hmx hown hw (hts _ x_cpy1) (hts _ x_cpy2) (hts _ x_cpy3) hK hS.1.1 (x_wl_D had hS.1.2.2.2) hS.2 b 1 hca g3 g4 g5 g6 hgb rfl rfl rfl hn2 hn3 hn1 hq1 hq2 (fun _ => rfl) (fun _ _ _ => trivial) rfl hfr hlo hd hnx
            · exact x_no h
          · split at h
            · rename_i hc2
              obtain ⟨hoa, hob, hq1, hq2⟩ := hc2
              obtain ⟨ha1, has⟩ := x_own_spec hoa
              obtain ⟨hb1, hbs⟩ := x_own_spec hob
              obtain rfl := x_go_inj h
              have hga := x_wl_get (ad := ad) (cA := cA) (μ := S.1) ha1
              rw [x_cell_2 has] at hga
              have hgb := x_wl_get (ad := ad) (cA := cA) (μ := S.1) hb1
              rw [x_cell_2 hbs] at hgb
              have hnx := x_nx (S' := x_rowL S b (va_cpy (S.1.2.1 a) (S.1.2.1 b) sp.toNatClampNeg dp.toNatClampNeg n.toNatClampNeg)) hS hb1 (x_cell_2 hbs) (fun i hi => x_cell_same rfl (x_up_ne _ _ hi) rfl) rfl hl hm k
              have e9 : (x_rowL S b (va_cpy (S.1.2.1 a) (S.1.2.1 b) sp.toNatClampNeg dp.toNatClampNeg n.toNatClampNeg)).1.2.1 b = va_cpy (S.1.2.1 a) (S.1.2.1 b) sp.toNatClampNeg dp.toNatClampNeg n.toNatClampNeg := x_up_self _ _ _
              rw [e9] at hnx
              have hca : H[ad a]? = some (arrV (cA 2) (x_shp a).2 (fun j => Value.long (S.1.2.1 a j))) := hS.1.1 a _ hga
              exact x_copy Value.long hx hb hmx hown hw (hts _ x_cpy1) (hts _ x_cpy2) (hts _ x_cpy3) hK hS.1.1 (x_wl_D had hS.1.2.2.2) hS.2 b 2 hca ((hK.2 2 _ rfl).1 _ _) (fun q => by cases q) (Nat.le_of_eq (arrV_size _ _ _).symm) (fun j hj => arrV_read _ _ hj) hgb rfl rfl rfl hn2 hn3 hn1 hq1 hq2 (fun _ => rfl) (fun _ _ _ => trivial) rfl hfr hlo hd hnx
            · exact x_no h
        · exact x_no h
    · exact x_no h
  · obtain ⟨q, N, na, -, -, he⟩ := x_inv_spec h
    cases he
end

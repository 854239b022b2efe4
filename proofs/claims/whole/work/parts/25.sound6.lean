/-! ===== the texts' calls ===== -/
theorem x_slnT_ok : ∀ e ∈ x_slnT, Cond.methodLink (x_own (e.1 / 1000)) (e.1 % 1000) yJ0_length_8abf5 ∈ x_tb := List.forall_mem_cons.mpr ⟨xj_m122_length, List.forall_mem_cons.mpr ⟨xj_m47_length, fun _ h => absurd h List.not_mem_nil⟩⟩
theorem x_schT_ok : ∀ e ∈ x_schT, Cond.methodLink (x_own (e.1 / 1000)) (e.1 % 1000) yJ0_charAt_5068e ∈ x_tb := List.forall_mem_cons.mpr ⟨xj_m131_charAt, List.forall_mem_cons.mpr ⟨xj_m53_charAt, fun _ h => absurd h List.not_mem_nil⟩⟩
section
variable {ad : Nat → Nat} {b0 : Nat} {D : va_G} {cA : Nat → ClassId} {X : x_X} {p : Program} {l : Launch} {e : Env} {R : Room} {s : State} {m : MethodId} {args : Array Value} {below : List Frame} {meth : Method} {c : Code} {M : x_MI} {Q : State → Prop} {H : Heap} {locs : List Loc} {lsC : Array Slot} {pc len : Nat} {ls : x_Ls} {st : List Value} {S : x_S} {z : Nat × x_Ls × List Value × x_S}
theorem x_room {st : List Value} {pc9 : Nat} {ls9 : Array Slot} {rest9 : List Value} (h : x_cats st ≤ 8) : 2 * (F0 m pc9 ls9 rest9).monitorRoom + ((st.map (x_tv ad)).map fun v => v.category).sum ≤ 8 := lv_room (by rw [x_cats_map]; exact h)
theorem xs_virtual {k9 : Nat} (hC : x_Cx ad b0 D cA X p l R s m args meth c M) (hd : decode (x_mb M) pc = .ok (.invokevirtual k9, len)) (hlen : x_lenOK (.invokevirtual k9) len = true) (hS : x_St ad b0 D cA s S H locs) (hl : x_lr ad ls lsC) (hm : ls.length = x_ml M) (h : x_step X M (.invokevirtual k9) len pc ls st S = some (.inl z)) (k : x_Kt ad b0 D cA p l e R s m args below meth c M Q z) : x_Gl ad p l e R s m args below meth c Q (pc, ls, st, S) H locs lsC := by
  obtain ⟨had, hx, hb, hml, hr, hown, hts, hlk, hst9, htab, hF, hK, hR, hini, hb0⟩ := hC
  have hlen : len = 3 := Nat.eq_of_beq_eq_true hlen
  subst hlen
  unfold x_step at h
  dsimp only at h
  have hStr := hF.2.2.2.2.2.2.2
  split at h
  · rename_i _ hv
    split at h
    · rename_i _ r st9
      split at h
      · rename_i hcond
        obtain ⟨hcat, hk, h1, h2, hcs⟩ := hcond
        have hfit : S.2.2.1 + 0 ≤ R.cells ∧ S.2.2.2 + 0 ≤ R.slots := ⟨Nat.le_trans hcs.1 hR.2.2.1, Nat.le_trans hcs.2 hR.2.2.2⟩
        have hkk := x_key_div (M := M) hk
        obtain rfl := x_go_inj h
        have hw := hts _ (x_slnT_ok _ (x_look_mem hv))
        dsimp only at hw
        rw [hkk.1, hkk.2] at hw
        obtain ⟨g1, -⟩ := hStr.1 r h1 h2
        have hrcv : ∃ cellB : Cell, H[ad r]? = some cellB ∧ cellB.vm.isStatics = false ∧ s.vm.findClass "java/lang/String" = some cellB.cls := by
          obtain ⟨cell, q1, q2, q3, -⟩ := g1.kept hS.2.2.1
          exact ⟨cell, q1, q2, q3⟩
        refine vp_callSi (W.runV (As := []) (rest := st9.map (x_tv ad)) (C := RJ0) (nL := x_ml M) ⟨hx, hb, hml, hown, hts⟩ (xj_length l ad b0 h1 h2) ⟨callB_of 0 hts (x_goodIn xj_c_length) rfl rfl rfl (hts _ xj_n_RJ0) hw ⟨by decide +kernel, by decide +kernel, by decide +kernel⟩ ⟨by have := hR.1; dsimp only; omega, by have := hR.2.1; dsimp only; omega⟩, hts _ xj_i_length, hts _ xj_s_length⟩ ⟨x_Str.blind, hrcv, x_Str.pre hS.2 hStr⟩ rfl rfl (hl.1.trans hm) rfl (x_room hcat) hd hfit) (fun v hv => ?_)
        subst hv
        exact k _ _ _ hS hl hm
      · exact x_no h
    · exact x_no h
  · rename_i hv1 hv
    split at h
    · rename_i _ j r st9
      split at h
      · rename_i hcond
        obtain ⟨hcat, hk, h1, h2, hcs⟩ := hcond
        have hfit : S.2.2.1 + 0 ≤ R.cells ∧ S.2.2.2 + 0 ≤ R.slots := ⟨Nat.le_trans hcs.1 hR.2.2.1, Nat.le_trans hcs.2 hR.2.2.2⟩
        have hkk := x_key_div (M := M) hk
        split at h
        · exact x_no h
        · rename_i hin
          obtain rfl := x_go_inj h
          have hw := hts _ (x_schT_ok _ (x_look_mem hv))
          dsimp only at hw
          rw [hkk.1, hkk.2] at hw
          obtain ⟨g1, -⟩ := hStr.1 r h1 h2
          have hrcv : ∃ cellB : Cell, H[ad r]? = some cellB ∧ cellB.vm.isStatics = false ∧ s.vm.findClass "java/lang/String" = some cellB.cls := by
            obtain ⟨cell, q1, q2, q3, -⟩ := g1.kept hS.2.2.1
            exact ⟨cell, q1, q2, q3⟩
          refine vp_callSi (W.runV (As := [.int j]) (rest := st9.map (x_tv ad)) (C := RJ0) (nL := x_ml M) ⟨hx, hb, hml, hown, hts⟩ (xj_charAt l ad b0 h1 h2 hin) ⟨callB_of 1 hts (x_goodIn xj_c_charAt) rfl rfl rfl (hts _ xj_n_RJ0) hw ⟨by decide +kernel, by decide +kernel, by decide +kernel⟩ ⟨by have := hR.1; dsimp only; omega, by have := hR.2.1; dsimp only; omega⟩, hts _ xj_i_charAt, hts _ xj_s_charAt⟩ ⟨x_Str.blind, hrcv, x_Str.pre hS.2 hStr⟩ rfl rfl (hl.1.trans hm) rfl (x_room hcat) hd hfit) (fun v hv => ?_)
          subst hv
          exact k _ _ _ hS hl hm
      · exact x_no h
    · exact x_no h
  · obtain ⟨q, N, na, -, -, he⟩ := x_inv_spec h
    cases he
end

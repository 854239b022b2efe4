/-! ===== THE INTERPRETER IS SOUND ===== -/
/-- what a run of fuel F gives at the machine -/
def x_Sd (l : Launch) (ad : Nat → Nat) (b0 : Nat) (D : va_G) (cA : Nat → ClassId) (X : x_X) (F : Nat) : Prop := ∀ (M : x_MI) (pc : Nat) (ls : x_Ls) (st : List Value) (S : x_S) (o : x_O) (μ' : x_Mem) (n' : Nat), x_run X F M pc ls st S = some (o, μ', n') →
  ∀ {p : Program} {e : Env} {R : Room} {s : State} {m : MethodId} {args : Array Value} {below : List Frame} {meth : Method} {c : Code} {H : Heap} {locs : List Loc} {lsC : Array Slot}, x_Cx ad b0 D cA X p l R s m args meth c M → x_St ad b0 D cA s S H locs → x_lr ad ls lsC → ls.length = x_ml M →
    W p l e R s m args below meth c H locs S.2.2.1 S.2.2.2 (vx_MQ below (x_QO ad b0 D cA o μ' n') (x_XO ad b0 D cA o μ' n') args s (x_mc M) (x_ms M) (fun q => b0 ≤ q)) (F0 m pc lsC (st.map (x_tv ad)))
theorem x_ent_len {n : Nat} {as : List Value} (h : (x_av as).length ≤ n) : (x_ent n as).length = n := by
  unfold x_ent
  rw [List.length_append, List.length_replicate]
  omega
/-- .. hence the method's contract -/
theorem x_ctOf {l : Launch} {ad : Nat → Nat} {b0 : Nat} {D : va_G} {cA : Nat → ClassId} {X : x_X} {F : Nat} (hst : l.stackTraces = false) (had : ∀ k, k < x_N → ad k = b0 + k) (ih : x_Sd l ad b0 D cA X F) {N : x_MI} {k n n' : Nat} {as : List Value} {μ μ' : x_Mem} {o : x_O} (hN : x_mOK N k) (h : x_run X F N 0 (x_ent (x_ml N) as) [] (μ, n, 0, 0) = some (o, μ', n')) (hav : (x_av as).length ≤ x_ml N) : x_Ct l ad b0 D cA X N as μ n o μ' n' := by
  refine x_ofW hN.2.2.1.1 ?_
  intro p e s m args below meth c s₁ B hml ht hv
  obtain ⟨rfl, hF, hK, hW, hb0⟩ := hv
  rw [lg_entry_eq]
  have hts0 := atoms_spec (ws := x_cd N :: x_tb) B.pre
  have hown := findClass_of_methodNamed B.named
  rw [hN.2.2.2.1] at hown
  exact ih N 0 _ [] (μ, n, 0, 0) o μ' n' h ⟨had, B.exec, B.bytes, hml, B.returns, hown, fun w hw => hts0 w (List.mem_cons_of_mem _ hw), B.notSynchronized, hst, ht, hF, hK, ⟨Nat.le_refl _, Nat.le_refl _, Nat.le_refl _, Nat.le_refl _⟩, fun hi => (name_of_methodNamed B.named B.method).1.trans (of_decide_eq_true hi), hb0⟩ ⟨hW, va_S.rf⟩ (x_ent_lr hav) (x_ent_len hav)
theorem x_lenInv {i : Instr} {k kd len : Nat} (h : x_isInv i k kd) (hl : x_lenOK i len = true) : len = 3 := by
  rcases h with ⟨rfl, -⟩ | ⟨rfl, -⟩ | ⟨rfl, -⟩ <;> exact Nat.eq_of_beq_eq_true hl
theorem x_tl_map {ad : Nat → Nat} (v : Option Value) (rest : List Value) : (v.toList ++ rest).map (x_tv ad) = (v.map (x_tv ad)).toList ++ rest.map (x_tv ad) := by
  rw [List.map_append]
  cases v <;> rfl
theorem x_sound {l : Launch} {ad : Nat → Nat} {b0 : Nat} {D : va_G} {cA : Nat → ClassId} {X : x_X} (hst : l.stackTraces = false) (had : ∀ k, k < x_N → ad k = b0 + k) : ∀ F, x_Sd l ad b0 D cA X F := by
  intro F
  induction F with
  | zero =>
    intro M pc ls st S o μ' n' h
    cases h
  | succ F ih =>
    intro M pc ls st S o μ' n' h p e R s m args below meth c H locs lsC hC hS hl hm
    unfold x_run at h
    split at h
    · rename_i i len hd
      split at h
      · cases h
      · rename_i hlen
        split at h
        · rename_i pc' ls' st' S' hs
          exact x_step_sound hC hd hlen hS hl hm hs (fun H1 locs1 lsC1 hS1 hl1 hm1 => ih M pc' ls' st' S' o μ' n' h hC hS1 hl1 hm1)
        · rename_i v hs
          obtain ⟨rfl, rfl, rfl, hc1, hc2⟩ := x_fin_spec h
          rcases x_step_cases hs with ⟨z, hz⟩ | ⟨v', hz, hst', hret⟩ | ⟨k, kd, hinv, hi⟩ | ⟨E, hz, -⟩
          · cases hz
          · cases hz
            subst hst'
            exact x_endR hC hd hlen hS hret hc1 hc2
          · obtain ⟨q, N, na, -, -, he⟩ := x_inv_spec hinv
            cases he
          · cases hz
        · rename_i N as rest hs
          rcases x_step_cases hs with ⟨z, hz⟩ | ⟨v', hz, hst', hret⟩ | ⟨k, kd, hinv, hi⟩ | ⟨E, hz, -⟩
          · cases hz
          · cases hz
          · obtain ⟨q, N, na, hcal, hcond, he⟩ := x_inv_spec hinv
            cases he
            have hl3 := x_lenInv hi hlen
            subst hl3
            cases hr : x_run X F N 0 (x_ent (x_ml N) (List.take na st).reverse) [] (S.1, S.2.1, 0, 0) with
            | none => rw [hr] at h; cases h
            | some w =>
              obtain ⟨oc, μ1, n1⟩ := w
              rw [hr] at h
              have hct := x_ctOf hst had ih (x_cal_ok hcal).1 hr hcond.2.2.2.2.2.2.2.1
              obtain ⟨a, hrun⟩ := x_runC (e := e) (below := below) hC hd hi hS hl hm hcal hcond hct
              cases oc with
              | inl v =>
                have h : x_run X F M (pc + 3) ls (v.toList ++ List.drop na st) (μ1, n1, S.2.2.1 + x_mc N, S.2.2.2 + x_ms N) = some (o, μ', n') := h
                refine x_retW hrun hS.2 (fun H1 locs1 hw hS1 => ?_)
                have := ih M _ _ _ _ o μ' n' h (e := e) (below := below) hC ⟨hw, hS1⟩ hl hm
                rw [x_tl_map] at this
                exact this
              | inr E =>
                have h : x_exc M pc E (μ1, n1, S.2.2.1 + x_mc N, S.2.2.2 + x_ms N) = some (o, μ', n') := h
                exact x_thrW hrun hS.2 (fun H1 locs1 ce q h4 hw hS1 hce hcv hcl => x_endX (S := (μ1, n1, S.2.2.1 + x_mc N, S.2.2.2 + x_ms N)) hC ⟨hw, hS1⟩ hl hm h4 hce hcv hcl h)
          · cases hz
        · rename_i E hs
          rcases x_step_cases hs with ⟨z, hz⟩ | ⟨v', hz, hst', hret⟩ | ⟨k, kd, hinv, hi⟩ | ⟨E', hz, hthr⟩
          · cases hz
          · cases hz
          · obtain ⟨q, N, na, -, -, he⟩ := x_inv_spec hinv
            cases he
          · cases hz
            exact x_endT hC hd hlen hS hl hm hthr h
        · cases h
    · cases h

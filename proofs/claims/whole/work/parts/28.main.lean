/-! ===== runs of the interpreter are runs of the machine ===== -/
theorem x_hanT_ok : ∀ e ∈ x_hanT, Cond.classLink (x_own (e.1 / 1000)) (e.1 % 1000) (x_en e.2) ∈ x_tb :=
  List.forall_mem_cons.mpr ⟨x_tbm 425 (by decide +kernel) rfl, List.forall_mem_cons.mpr ⟨x_tbm 512 (by decide +kernel) rfl, List.forall_mem_cons.mpr ⟨x_tbm 737 (by decide +kernel) rfl, List.forall_mem_cons.mpr ⟨x_tbm 1008 (by decide +kernel) rfl, fun _ h => absurd h List.not_mem_nil⟩⟩⟩⟩
theorem x_hanT_lt : ∀ e ∈ x_hanT, e.2 < 4 ∧ e.1 % 1000 ≠ 0 := by decide
theorem x_thrT_lt : ∀ e ∈ x_thrT, e.2 < 4 ∧ e.1 = 8000 + (x_ek e.2).1 := by decide
/-- the handler that was found -/
theorem x_hfind_spec {E pc c t : Nat} : ∀ {l : List (Nat × Nat × Nat × Nat)}, x_hfind E pc c l = some t → ∃ pre a b x suf, l = pre ++ (a, b, t, x) :: suf ∧ a ≤ pc ∧ pc < b ∧ x_look (c * 1000 + x) x_hanT = some E ∧ ∀ z ∈ pre, ∃ E', x_look (c * 1000 + z.2.2.2) x_hanT = some E' ∧ E ≠ E'
  | [], h => by cases h
  | (a, b, t', x) :: l, h => by
    unfold x_hfind at h
    split at h
    · rename_i hab
      split at h
      · rename_i E' hE
        split at h
        · rename_i he
          cases h
          subst he
          exact ⟨[], a, b, x, l, rfl, hab.1, hab.2, hE, fun z hz => absurd hz List.not_mem_nil⟩
        · rename_i hne
          obtain ⟨pre, a1, b1, x1, suf, h1, h2, h3, h4, h5⟩ := x_hfind_spec h
          refine ⟨(a, b, t', x) :: pre, a1, b1, x1, suf, by rw [h1]; rfl, h2, h3, h4, fun z hz => ?_⟩
          rcases List.mem_cons.mp hz with rfl | hz
          · exact ⟨E', hE, fun q => hne q.symm⟩
          · exact h5 z hz
      · cases h
    · cases h
theorem x_fin_spec {M : x_MI} {o o' : x_O} {S : x_S} {μ' : x_Mem} {n' : Nat} (h : x_fin M o S = some (o', μ', n')) : o' = o ∧ μ' = S.1 ∧ n' = S.2.1 ∧ S.2.2.1 ≤ x_mc M ∧ S.2.2.2 ≤ x_ms M := by
  unfold x_fin at h
  split at h
  · rename_i hc
    cases h
    exact ⟨rfl, rfl, rfl, hc⟩
  · cases h
section
variable {ad : Nat → Nat} {b0 : Nat} {D : va_G} {cA : Nat → ClassId} {X : x_X} {p : Program} {l : Launch} {e : Env} {R : Room} {s : State} {m : MethodId} {args : Array Value} {below : List Frame} {meth : Method} {c : Code} {M : x_MI} {H : Heap} {locs : List Loc} {lsC : Array Slot} {pc len : Nat} {ls : x_Ls} {st : List Value} {S : x_S}
/-- the end with a value -/
theorem x_endR {i : Instr} {v : Option Value} (hC : x_Cx ad b0 D cA X p l R s m args meth c M) (hd : decode (x_mb M) pc = .ok (i, len)) (hlen : x_lenOK i len = true) (hS : x_St ad b0 D cA s S H locs) (hret : x_isRet M i v) (hc1 : S.2.2.1 ≤ x_mc M) (hc2 : S.2.2.2 ≤ x_ms M) : W p l e R s m args below meth c H locs S.2.2.1 S.2.2.2 (vx_MQ below (x_QO ad b0 D cA (.inl v) S.1 S.2.1) (x_XO ad b0 D cA (.inl v) S.1 S.2.1) args s (x_mc M) (x_ms M) (fun q => b0 ≤ q)) (F0 m pc lsC (v.toList.map (x_tv ad))) := by
  obtain ⟨had, hx, hb, hml, hr, hown, hts, hlk, hst9, htab, hF, hK, hR, hini, hb0⟩ := hC
  refine W.widen hc1 hc2 (vx_ret ?_)
  rcases hret with ⟨rfl, x, ty, rfl, hmr, hn⟩ | ⟨rfl, x, rfl, hmr⟩ | ⟨rfl, x, q, rfl, hmr⟩ | ⟨rfl, rfl, hmr⟩
  · have hlen : len = 1 := Nat.eq_of_beq_eq_true hlen
    subst hlen
    exact W.zret hx hb (hr.trans hmr) hn (fun t ht _ => ⟨rfl, by rw [ht]; exact hS.1, hS.2.F ht⟩) hS.2.2.2 hd
  · have hlen : len = 1 := Nat.eq_of_beq_eq_true hlen
    subst hlen
    exact W.lret hx hb (hr.trans hmr) (fun t ht _ => ⟨rfl, by rw [ht]; exact hS.1, hS.2.F ht⟩) hS.2.2.2 hd
  · have hlen : len = 1 := Nat.eq_of_beq_eq_true hlen
    subst hlen
    exact W.aret hx hb (hr.trans hmr) (Or.inl ⟨q, rfl⟩) (Or.inr ⟨ad x, rfl⟩) (fun t ht _ => ⟨rfl, by rw [ht]; exact hS.1, hS.2.F ht⟩) hS.2.2.2 hd
  · have hlen : len = 1 := Nat.eq_of_beq_eq_true hlen
    subst hlen
    exact W.vret hx hb (hr.trans hmr) (fun t ht _ => ⟨rfl, by rw [ht]; exact hS.1, hS.2.F ht⟩) hS.2.2.2 hd
/-- an exception that comes out of a call -/
theorem x_endX {E n' : Nat} {o : x_O} {μ' : x_Mem} {rest : List Value} {ce : Cell} {q : Addr} (hC : x_Cx ad b0 D cA X p l R s m args meth c M) (hS : x_St ad b0 D cA s S H locs) (hl : x_lr ad ls lsC) (hm : ls.length = x_ml M) (h4 : E < 4) (hce : H[q]? = some ce) (hcv : ce.vm = .none) (hcl : s.vm.findClass (x_en E) = some ce.cls) (h : x_exc M pc E S = some (o, μ', n')) : vx_W p l e R s m args below meth c H locs S.2.2.1 S.2.2.2 (vx_MQ below (x_QO ad b0 D cA o μ' n') (x_XO ad b0 D cA o μ' n') args s (x_mc M) (x_ms M) (fun q => b0 ≤ q)) (F0 m pc lsC rest) q := by
  obtain ⟨had, hx, hb, hml, hr, hown, hts, hlk, hst9, htab, hF, hK, hR, hini, hb0⟩ := hC
  unfold x_exc at h
  split at h
  · rename_i hmh
    obtain ⟨rfl, rfl, rfl, hc1, hc2⟩ := x_fin_spec h
    rw [hmh] at htab
    exact vx_out (E := x_en E) (ce := ce) (fun x hx => by rw [htab] at hx; cases hx) hlk hce hcv hcl (fun t ht _ => ⟨rfl, h4, by rw [ht]; exact hS.1, hS.2.F ht⟩) hS.2.2.2 hc1 hc2
  · rename_i h0 hs0 hmh
    split at h
    · rename_i t ht
      split at h
      · rename_i v hv hmr
        obtain ⟨rfl, rfl, rfl, hc1, hc2⟩ := x_fin_spec h
        obtain ⟨pre, a, b, x, suf, g1, g2, g3, g4, g5⟩ := x_hfind_spec ht
        have hmo : x_mo M * 1000 + x < (x_mo M + 1) * 1000 ∨ True := Or.inr trivial
        obtain ⟨f1, f2⟩ := x_hanT_lt _ (x_look_mem g4)
        have f3 := hts _ (x_hanT_ok _ (x_look_mem g4))
        sorry
      · cases h
    · cases h
end

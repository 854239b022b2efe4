/-! ===== runs of the interpreter are runs of the machine ===== -/
theorem x_hanT_ok : ∀ e ∈ x_hanT, Cond.classLink (x_own (e.1 / 1000)) (e.1 % 1000) (x_en e.2) ∈ x_tb :=
  List.forall_mem_cons.mpr ⟨x_tbm 425 (by decide +kernel) rfl, List.forall_mem_cons.mpr ⟨x_tbm 512 (by decide +kernel) rfl, List.forall_mem_cons.mpr ⟨x_tbm 737 (by decide +kernel) rfl, List.forall_mem_cons.mpr ⟨x_tbm 1008 (by decide +kernel) rfl, fun _ h => absurd h List.not_mem_nil⟩⟩⟩⟩
theorem x_hanT_lt : ∀ e ∈ x_hanT, e.2 < 4 ∧ e.1 % 1000 ≠ 0 := by decide
theorem x_thrT_lt : ∀ e ∈ x_thrT, e.2 < 4 ∧ e.1 = 8000 + (x_ek e.2).1 := by decide
/-- the handler that was found -/
theorem x_hfind_spec {E pc c t : Nat} : ∀ {l : List (Nat × Nat × Nat × Nat)}, x_hfind E pc c l = some t → ∃ pre a b x suf, l = pre ++ (a, b, t, x) :: suf ∧ (a ≤ pc ∧ pc < b ∧ x < 1000) ∧ x_look (c * 1000 + x) x_hanT = some E ∧ ∀ z ∈ pre, ∃ E', x_look (c * 1000 + z.2.2.2) x_hanT = some E' ∧ E ≠ E' ∧ z.2.2.2 < 1000
  | [], h => by cases h
  | (a, b, t', x) :: l, h => by
    unfold x_hfind at h
    split at h
    · rename_i hab
      split at h
      · rename_i E' hE
        split at h
        · rename_i he
          cases h
          subst he
          exact ⟨[], a, b, x, l, rfl, hab, hE, fun z hz => absurd hz List.not_mem_nil⟩
        · rename_i hne
          obtain ⟨pre, a1, b1, x1, suf, h1, h2, h4, h5⟩ := x_hfind_spec h
          refine ⟨(a, b, t', x) :: pre, a1, b1, x1, suf, by rw [h1]; rfl, h2, h4, fun z hz => ?_⟩
          rcases List.mem_cons.mp hz with rfl | hz
          · exact ⟨E', hE, fun q => hne q.symm, hab.2.2⟩
          · exact h5 z hz
      · cases h
    · cases h
theorem x_fin_spec {M : x_MI} {o o' : x_O} {S : x_S} {μ' : x_Mem} {n' : Nat} (h : x_fin M o S = some (o', μ', n')) : o' = o ∧ μ' = S.1 ∧ n' = S.2.1 ∧ S.2.2.1 ≤ x_mc M ∧ S.2.2.2 ≤ x_ms M := by
  unfold x_fin at h
  split at h
  · rename_i hc
    cases h
    exact ⟨rfl, rfl, rfl, hc⟩
  · cases h
section
variable {ad : Nat → Nat} {b0 : Nat} {D : va_G} {cA : Nat → ClassId} {X : x_X} {p : Program} {l : Launch} {e : Env} {R : Room} {s : State} {m : MethodId} {args : Array Value} {below : List Frame} {meth : Method} {c : Code} {M : x_MI} {H : Heap} {locs : List Loc} {lsC : Array Slot} {pc len : Nat} {ls : x_Ls} {st : List Value} {S : x_S}
/-- the end with a value -/
theorem x_endR {i : Instr} {v : Option Value} (hC : x_Cx ad b0 D cA X p l R s m args meth c M) (hd : decode (x_mb M) pc = .ok (i, len)) (hlen : x_lenOK i len = true) (hS : x_St ad b0 D cA s S H locs) (hret : x_isRet M i v) (hc1 : S.2.2.1 ≤ x_mc M) (hc2 : S.2.2.2 ≤ x_ms M) : W p l e R s m args below meth c H locs S.2.2.1 S.2.2.2 (vx_MQ below (x_QO ad b0 D cA (.inl v) S.1 S.2.1) (x_XO ad b0 D cA (.inl v) S.1 S.2.1) args s (x_mc M) (x_ms M) (fun q => b0 ≤ q)) (F0 m pc lsC (v.toList.map (x_tv ad))) := by
  obtain ⟨had, hx, hb, hml, hr, hown, hts, hlk, hst9, htab, hF, hK, hR, hini, hb0⟩ := hC
  refine W.widen hc1 hc2 (vx_ret ?_)
  rcases hret with ⟨rfl, x, ty, rfl, hmr, hn⟩ | ⟨rfl, x, rfl, hmr⟩ | ⟨rfl, x, q, rfl, hmr⟩ | ⟨rfl, rfl, hmr⟩
  · have hlen : len = 1 := Nat.eq_of_beq_eq_true hlen
    subst hlen
    exact W.zret hx hb (hr.trans hmr) hn (fun t ht _ => ⟨rfl, by rw [ht]; exact hS.1, hS.2.F ht⟩) hS.2.2.2 hd
  · have hlen : len = 1 := Nat.eq_of_beq_eq_true hlen
    subst hlen
    exact W.lret hx hb (hr.trans hmr) (fun t ht _ => ⟨rfl, by rw [ht]; exact hS.1, hS.2.F ht⟩) hS.2.2.2 hd
  · have hlen : len = 1 := Nat.eq_of_beq_eq_true hlen
    subst hlen
    exact W.aret hx hb (hr.trans hmr) (Or.inl ⟨q, rfl⟩) (Or.inr ⟨ad x, rfl⟩) (fun t ht _ => ⟨rfl, by rw [ht]; exact hS.1, hS.2.F ht⟩) hS.2.2.2 hd
  · have hlen : len = 1 := Nat.eq_of_beq_eq_true hlen
    subst hlen
    exact W.vret hx hb (hr.trans hmr) (fun t ht _ => ⟨rfl, by rw [ht]; exact hS.1, hS.2.F ht⟩) hS.2.2.2 hd
/-- an exception that comes out of a call -/
theorem x_endX {E n' : Nat} {o : x_O} {μ' : x_Mem} {rest : List Value} {ce : Cell} {q : Addr} (hC : x_Cx ad b0 D cA X p l R s m args meth c M) (hS : x_St ad b0 D cA s S H locs) (hl : x_lr ad ls lsC) (hm : ls.length = x_ml M) (h4 : E < 4) (hce : H[q]? = some ce) (hcv : ce.vm = .none) (hcl : s.vm.findClass (x_en E) = some ce.cls) (h : x_exc M pc E S = some (o, μ', n')) : vx_W p l e R s m args below meth c H locs S.2.2.1 S.2.2.2 (vx_MQ below (x_QO ad b0 D cA o μ' n') (x_XO ad b0 D cA o μ' n') args s (x_mc M) (x_ms M) (fun q => b0 ≤ q)) (F0 m pc lsC rest) q := by
  obtain ⟨had, hx, hb, hml, hr, hown, hts, hlk, hst9, htab, hF, hK, hR, hini, hb0⟩ := hC
  unfold x_exc at h
  split at h
  · rename_i hmh
    obtain ⟨rfl, rfl, rfl, hc1, hc2⟩ := x_fin_spec h
    rw [hmh] at htab
    exact vx_out (E := x_en E) (ce := ce) (fun x hx => by rw [htab] at hx; cases hx) hlk hce hcv hcl (fun t ht _ => ⟨rfl, h4, by rw [ht]; exact hS.1, hS.2.F ht⟩) hS.2.2.2 hc1 hc2
  · rename_i h0 hs0 hmh
    split at h
    · rename_i t ht
      split at h
      · rename_i v hv hmr
        obtain ⟨rfl, rfl, rfl, hc1, hc2⟩ := x_fin_spec h
        obtain ⟨pre, a, b, x, suf, g1, ⟨g2, g3, gx⟩, g4, g5⟩ := x_hfind_spec ht
        have hdm : ∀ y, y < 1000 → (x_mo M * 1000 + y) / 1000 = x_mo M ∧ (x_mo M * 1000 + y) % 1000 = y := fun y hy => by omega
        obtain ⟨f1, f2⟩ := x_hanT_lt _ (x_look_mem g4)
        have f3 := hts _ (x_hanT_ok _ (x_look_mem g4))
        dsimp only at f1 f2 f3
        rw [(hdm x gx).2] at f2
        rw [(hdm x gx).1, (hdm x gx).2] at f3
        rw [hmh, g1] at htab
        unfold tableOf at htab
        rw [List.map_append, List.map_cons] at htab
        obtain ⟨-, -, k3, k4⟩ := hF.2.2.2.2.1 E h4
        refine vx_catch (name := x_en E) (E := x_en E) (ce := ce) hown _ _ _ htab (fun z hz => ?_) ?_ f2 f3 (va_Nw.use rfl k3) hce hcv hcl ?_
        · obtain ⟨y, hy, rfl⟩ := List.mem_map.mp hz
          obtain ⟨E', q1, q2, q3⟩ := g5 y hy
          obtain ⟨f4, f5⟩ := x_hanT_lt _ (x_look_mem q1)
          have f6 := hts _ (x_hanT_ok _ (x_look_mem q1))
          dsimp only at f4 f5 f6
          rw [(hdm _ q3).2] at f5
          rw [(hdm _ q3).1, (hdm _ q3).2] at f6
          exact Or.inr ⟨f5, x_en E', f6, k4 E' f4 q2⟩
        · show (decide (a ≤ pc) && decide (pc < b)) = true
          rw [decide_eq_true g2, decide_eq_true g3]
          rfl
        · show W p l e R s m args below meth c H locs S.2.2.1 S.2.2.2 _ (F0 m t lsC [.ref q])
          unfold x_hbody at hv
          split at hv
          · rename_i kf hd0
            split at hv
            · rename_i w hd1 hd2
              split at hv
              · rename_i hkf
                cases hv
                refine lv_astore_n hx hb hd0 rfl hl.has (by rw [hm]; exact hkf) rfl (fun ls' h' => ?_)
                refine lv_iconst hx hb hd1 rfl ?_
                refine W.widen hc1 hc2 (vx_ret ?_)
                exact W.iret hx hb (hr.trans hmr) (fun t ht _ => ⟨rfl, by rw [ht]; exact hS.1, hS.2.F ht⟩) hS.2.2.2 hd2
              · cases hv
            · cases hv
          · rename_i kf hd0
            split at hv
            · rename_i w hd1 hd2
              split at hv
              · rename_i hkf
                cases hv
                refine lv_astore hx hb hd0 hl.has (by rw [hm]; exact hkf) rfl (fun ls' h' => ?_)
                refine lv_iconst hx hb hd1 rfl ?_
                refine W.widen hc1 hc2 (vx_ret ?_)
                exact W.iret hx hb (hr.trans hmr) (fun t ht _ => ⟨rfl, by rw [ht]; exact hS.1, hS.2.F ht⟩) hS.2.2.2 hd2
              · cases hv
            · cases hv
          · cases hv
      · cases h
    · cases h
theorem x_fitE : ∀ E, E < 4 → Bundle.fit (x_en E) = true := by decide +kernel
/-- a throw of its own -/
theorem x_endT {i : Instr} {E n' : Nat} {o : x_O} {μ' : x_Mem} (hC : x_Cx ad b0 D cA X p l R s m args meth c M) (hd : decode (x_mb M) pc = .ok (i, len)) (hlen : x_lenOK i len = true) (hS : x_St ad b0 D cA s S H locs) (hl : x_lr ad ls lsC) (hm : ls.length = x_ml M) (ht : x_isThr M i pc st S E) (h : (match x_mh M with | [] => x_fin M (.inr E) (S.1, S.2.1, S.2.2.1 + 1, S.2.2.2 + 6) | _ :: _ => none) = some (o, μ', n')) : W p l e R s m args below meth c H locs S.2.2.1 S.2.2.2 (vx_MQ below (x_QO ad b0 D cA o μ' n') (x_XO ad b0 D cA o μ' n') args s (x_mc M) (x_ms M) (fun q => b0 ≤ q)) (F0 m pc lsC (st.map (x_tv ad))) := by
  obtain ⟨had, hx, hb, hml, hr, hown, hts, hlk, hst9, htab, hF, hK, hR, hini, hb0⟩ := hC
  obtain ⟨k, rfl, hk, hv, hthr, hn, hcat, hc1, hc2⟩ := ht
  have hlen : len = 3 := Nat.eq_of_beq_eq_true hlen
  subst hlen
  have hkk := x_key_div (M := M) hk
  obtain ⟨h4, hkey⟩ := x_thrT_lt _ (x_look_mem hv)
  dsimp only at h4 hkey
  have hek : ∀ E, E < 4 → (x_ek E).1 < 1000 := by decide
  have hek := hek E h4
  have hmo : x_mo M = 8 := by rw [← hkk.1, hkey]; omega
  have hke : k = (x_ek E).1 := by rw [← hkk.2, hkey]; omega
  subst hke
  split at h
  · rename_i hmh
    obtain ⟨rfl, rfl, rfl, -, -⟩ := x_fin_spec h
    rw [hmh] at htab
    rw [hmo] at hown
    unfold x_thr at hthr
    split at hthr
    · rename_i a b d3 d4 d7 d10
      rw [Bool.and_eq_true] at hthr
      have ea := Nat.eq_of_beq_eq_true hthr.1
      have eb := Nat.eq_of_beq_eq_true hthr.2
      subst ea
      subst eb
      obtain ⟨k1, ⟨sa, k2⟩, -, -⟩ := hF.2.2.2.2.1 E h4
      have hng := x_thw_ng E h4
      have hw : ∀ w ∈ x_thw E, w.before args s = true := fun w hw => va_Nw.use (by
        have := hng w hw
        rw [Bool.and_eq_true, Bool.and_eq_true] at this
        exact this.2.1) (k1 w hw)
      have hot : ∀ w ∈ x_thw E, vx_ot w = true := fun w hw => by
        have := hng w hw
        rw [Bool.and_eq_true, Bool.and_eq_true] at this
        exact this.2.2
      have hfr := hR.1
      have hlo := hR.2.1
      exact x_throwSW (own := "TimberSale") (cls := x_en E) (A := fun q => b0 ≤ q) hx hb hst9 hown (x_fitE E h4) (x_ex_ok E) (hw _ List.mem_cons_self) (hw _ (List.mem_cons_of_mem _ List.mem_cons_self)) k2 (fun w h9 => hw w (List.mem_cons_of_mem _ (List.mem_cons_of_mem _ h9))) hot hF.2.2.2.1.1 hF.2.2.2.1.2 hS.2 (by rw [hml, ← hm]; exact hl.1) hd d3 d4 d7 d10 (fun x hx => by rw [htab] at hx; cases hx) (show 5 < R.frames by omega) (by rw [x_cats_map]; omega) (Nat.le_trans hc1 hR.2.2.1) (Nat.le_trans hc2 hR.2.2.2) hlk
        (fun t _ hz hq => ⟨rfl, h4, ⟨hS.1.1.kept (fun j z hj => hq _ (hS.1.1 j z hj).lt), Nat.le_trans hS.1.2.1 hz, fun h9 => absurd h9 (by rw [hn]; exact Nat.lt_irrefl _), hS.1.2.2.2⟩, Nat.le_trans hS.2.1 hz, fun q g1 g2 => by rw [hq q (Nat.lt_of_lt_of_le g1 hS.2.1)]; exact hS.2.2.1 q g1 g2⟩) hS.2.2.2 hc1 hc2
    · cases hthr
  · cases h
end

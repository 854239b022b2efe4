/-! THE CLAIM OUT OF ONE WALK OF THE LAW'S BODY. Your part is whole_start (and what it stands on); all else here is the same for every law, but numbers. -/
def R_law : String := "TimberSaleLaw"
def lw_P (b : Addr) (xs : List Int32) (args : Array Value) (s : State) : Prop := args = #[.ref b] ∧ s.IntsAt b xs ∧ xs.length ≤ 3584 ∧ (Jvm.Cond.and given_1 narrow_1).before args s = true
def lw_Q (_ : Array Value) (s : State) (o : Outcome) (t : State) : Prop := o = .returned (some (.int 1)) ∧ Framed s o t [] 601024 7293034
def lw_Z (below : List Frame) (a : Array Value) (s : State) : State → Prop := fun t => ∃ o, t.status = .running ∧ Ended t below o ∧ lw_Q a s o t
/-- the law's own end, with 1 on the stack, nothing written that was there before, its room as the claim has it -/
theorem lw_ret {p : Program} {l : Launch} {e : Env} {s : State} {m : MethodId} {below : List Frame} {meth : Method} {c : Code} {b : Nat} (hx : p.tables.exec = Jvm.exec) (hb : c.code = code) (hr : meth.sig.returnType = ret) (hlocks : meth.locks = false) {pc : Nat} {H : Heap} {ls : Array Slot} (hdg : decode code pc = .ok (.ireturn, 1)) : W p l e room_1 s m #[Value.ref b] below meth c H [] 601024 7293034 (lw_Z below #[Value.ref b] s) (F0 m pc ls [.int 1]) := by
  intro T hT X
  obtain ⟨fs, hret, hrun, hended, hW, hframe⟩ := X.leave (v := some (.int 1)) (hlocks := hlocks) (fun h => by rw [hr] at h; cases h)
  have hmeth' : T.vm.method? m = some meth := X.method'
  refine ⟨T.setFrames fs, ?_, .returned (some (.int 1)), hrun, hended, rfl, ⟨_, rfl⟩, hW, hframe⟩
  jvm_step X.here [X.here.top, hx, hb, hdg, hmeth', hr, ret, narrow_b1]
  (try refine ⟨rfl, ?_⟩); (try refine ⟨rfl, ?_⟩)
  first | (intro acts; rw [hret _ acts rfl rfl rfl]) | rw [hret _ _ rfl rfl rfl]
  exact Steps.refl _
/-- what holds at the law's entry: the machine, the code, the tables' words (any of lw_tbl by 'hts w (by decide +kernel)'), the script of L ints xs at the cell b, what the Statement gives of the start (any of its parts by flat_of_before) -/
def lw_At (p : Program) (s : State) (m : MethodId) (meth : Method) (c : Code) (b L : Nat) (xs : Nat → Int32) : Prop :=
  p.tables.exec = Jvm.exec ∧ c.code = code ∧ meth.sig.returnType = ret ∧ c.maxLocals = 8 ∧ s.vm.findClass R_law = some m.cls ∧ (∀ w ∈ lw_tbl, w.before #[Value.ref b] s = true) ∧ va_X b L xs s s.heap ∧ b < s.heap.size ∧ meth.locks = false ∧ (Jvm.Cond.and given_1 narrow_1).before #[Value.ref b] s = true ∧ c.exceptionTable.toList = []
/-! the pure goal: every script's run of the interpreter ends with 1 -/
def x_m0 : x_Mem := (fun _ _ => 0, fun _ _ => 0, fun _ _ => none)
def x_Goal : Prop := ∀ (L : Nat) (xs : Nat → Int32), L ≤ 3584 → ∃ (F : Nat) (μ' : x_Mem) (n' : Nat), x_run (L, xs) F mL_law 0 (x_ent 8 [.ref 1000]) [] (x_m0, 0, 0, 0) = some (.inl (some (.int 1)), μ', n')
set_option maxRecDepth 100000 in
/-- what isn't ours, at the law's entry -/
theorem x_Fr0 {s : State} {b L : Nat} {xs : Nat → Int32} (hts : ∀ w ∈ lw_tbl, w.before #[Value.ref b] s = true) (hX : va_X b L xs s s.heap) (hbl : b < s.heap.size) (hgv : (Jvm.Cond.and given_1 narrow_1).before #[Value.ref b] s = true) : ∃ ad : Nat → Nat, (∀ k, k < x_N → ad k = s.heap.size + k) ∧ ad 1000 = b ∧ x_Fr ad s.heap.size (L, xs) s := by
  have hs := flat_of_before _ hgv
  have hA : ∀ a : Nat, a < s.heap.size → ¬ s.heap.size ≤ a := fun a h => Nat.not_le.mpr h
  obtain ⟨t1, e1, T1⟩ := x_T_x_least hs hA
  obtain ⟨t2, e2, T2⟩ := x_T_x_great hs hA
  obtain ⟨adK, adV, hK, hev⟩ := x_S0 hs hA
  refine ⟨fun k => if k < 1000 then s.heap.size + k else match k with | 1000 => b | 1001 => t1 | 1002 => t2 | k => adK (k - 1010), fun k hk => ?_, rfl, ?_⟩
  · have : k < 1000 := Nat.lt_trans hk (by decide)
    show (if k < 1000 then s.heap.size + k else _) = _
    rw [if_pos this]
  · refine ⟨fun r q hq => ?_, ?_, ?_, ?_, ?_, ?_, ?_, ?_⟩
    · unfold x_for at hq
      split at hq
      · cases hq
        obtain ⟨scr, g1, g2, g3, g4, g5⟩ := hX
        exact ⟨scr, g1, g2, g3, Nat.le_of_eq g4.symm, by rw [g4], g5, hA _ hbl⟩
      · cases hq; exact T1
      · cases hq; exact T2
      · cases hq
    · exact List.forall_mem_cons.mpr ⟨⟨va_Zof (hts _ (List.mem_of_getElem? (i := 134) (by decide +kernel))) (hts _ (List.mem_of_getElem? (i := 51) (by decide +kernel))) e1 hA, va_Nw.of rfl (hts _ (List.mem_of_getElem? (i := 133) (by decide +kernel)))⟩, List.forall_mem_cons.mpr ⟨⟨va_Zof (hts _ (List.mem_of_getElem? (i := 134) (by decide +kernel))) (hts _ (List.mem_of_getElem? (i := 51) (by decide +kernel))) e1 hA, va_Nw.of rfl (hts _ (List.mem_of_getElem? (i := 649) (by decide +kernel)))⟩, List.forall_mem_cons.mpr ⟨⟨va_Zof (hts _ (List.mem_of_getElem? (i := 651) (by decide +kernel))) (hts _ (List.mem_of_getElem? (i := 51) (by decide +kernel))) e2 hA, va_Nw.of rfl (hts _ (List.mem_of_getElem? (i := 650) (by decide +kernel)))⟩, fun _ h => absurd h List.not_mem_nil⟩⟩⟩
    · intro e he h3
      have h9 : e ∈ x_calT.filter (fun e => Nat.beq e.2.1 3) := List.mem_filter.mpr ⟨he, by rw [h3]; rfl⟩
      have h10 : x_calT.filter (fun e => Nat.beq e.2.1 3) = [(7024, 3, mX8_copy, 2), (2025, 3, mX8_copy, 2), (37, 3, mX8_copy, 2), (1048, 3, mX8_copy, 2), (4034, 3, mX8_copy, 2)] := rfl
      rw [h10] at h9
      exact (show ∀ e ∈ ([(7024, 3, mX8_copy, 2), (2025, 3, mX8_copy, 2), (37, 3, mX8_copy, 2), (1048, 3, mX8_copy, 2), (4034, 3, mX8_copy, 2)] : List (Nat × Nat × x_MI × Nat)), va_Nw (.methodLinkNest (x_own (e.1 / 1000)) (e.1 % 1000) (x_my e.2.2.1) "TimberSale") s from List.forall_mem_cons.mpr ⟨va_Nw.of rfl (hts _ (List.mem_of_getElem? (i := 135) (by decide +kernel))), List.forall_mem_cons.mpr ⟨va_Nw.of rfl (hts _ (List.mem_of_getElem? (i := 697) (by decide +kernel))), List.forall_mem_cons.mpr ⟨va_Nw.of rfl (hts _ (List.mem_of_getElem? (i := 702) (by decide +kernel))), List.forall_mem_cons.mpr ⟨va_Nw.of rfl (hts _ (List.mem_of_getElem? (i := 707) (by decide +kernel))), List.forall_mem_cons.mpr ⟨va_Nw.of rfl (hts _ (List.mem_of_getElem? (i := 713) (by decide +kernel))), fun _ h => absurd h List.not_mem_nil⟩⟩⟩⟩⟩) e h9
    · exact ⟨vx_Zqof (hts _ (List.mem_of_getElem? (i := 464) (by decide +kernel))) (hts _ (List.mem_of_getElem? (i := 63) (by decide +kernel))) (hs _ (List.mem_of_getElem? (i := 14) (by decide +kernel))) hA, vx_Zqof (hts _ (List.mem_of_getElem? (i := 466) (by decide +kernel))) (hts _ (List.mem_of_getElem? (i := 63) (by decide +kernel))) (hs _ (List.mem_of_getElem? (i := 15) (by decide +kernel))) hA⟩
    · intro E hE
      refine ⟨fun w hw => ?_, x_E0 hts hs E hE, ?_, fun E' h' hne => x_N0 hs E hE E' h' hne⟩
      · have := x_thw_ng E hE w hw
        rw [Bool.and_eq_true, Bool.and_eq_true] at this
        exact va_Nw.of this.2.1 (hts w (x_thw_in E hE w hw))
      · match E, hE with
        | 0, _ => exact va_Nw.of rfl (hts _ (List.mem_of_getElem? (i := 439) (by decide +kernel)))
        | 1, _ => exact va_Nw.of rfl (hts _ (List.mem_of_getElem? (i := 525) (by decide +kernel)))
        | 2, _ => exact va_Nw.of rfl (hts _ (List.mem_of_getElem? (i := 747) (by decide +kernel)))
        | 3, _ => exact va_Nw.of rfl (hts _ (List.mem_of_getElem? (i := 1022) (by decide +kernel)))
    · exact va_AO.of (hts _ (List.mem_of_getElem? (i := 121) (by decide +kernel)))
    · exact List.forall_mem_cons.mpr ⟨vk_R.of (hts _ (List.mem_of_getElem? (i := 580) (by decide +kernel))) (hev 0 (by decide)), List.forall_mem_cons.mpr ⟨vk_R.of (hts _ (List.mem_of_getElem? (i := 670) (by decide +kernel))) (hev 1 (by decide)), List.forall_mem_cons.mpr ⟨vk_R.of (hts _ (List.mem_of_getElem? (i := 676) (by decide +kernel))) (hev 2 (by decide)), List.forall_mem_cons.mpr ⟨vk_R.of (hts _ (List.mem_of_getElem? (i := 1406) (by decide +kernel))) (hev 3 (by decide)), fun _ h => absurd h List.not_mem_nil⟩⟩⟩⟩
    · refine ⟨fun r r1 r2 => ?_, va_Zof (hts _ (List.mem_of_getElem? (i := 602) (by decide +kernel))) (hts _ (List.mem_of_getElem? (i := 69) (by decide +kernel))) (va_eqt (hs _ (List.mem_of_getElem? (i := 16) (by decide +kernel)))) hA, va_Zqof (hts _ (List.mem_of_getElem? (i := 618) (by decide +kernel))) (hts _ (List.mem_of_getElem? (i := 71) (by decide +kernel))) (hs _ (List.mem_of_getElem? (i := 17) (by decide +kernel))) hA⟩
      have hr : r = 1010 ∨ r = 1011 ∨ r = 1012 ∨ r = 1013 := by omega
      rcases hr with rfl | rfl | rfl | rfl
      · exact ⟨(hK.1 0 (by decide)).1, (hK.1 0 (by decide)).2.1, adV 0, (hK.1 0 (by decide)).2.2⟩
      · exact ⟨(hK.1 1 (by decide)).1, (hK.1 1 (by decide)).2.1, adV 1, (hK.1 1 (by decide)).2.2⟩
      · exact ⟨(hK.1 2 (by decide)).1, (hK.1 2 (by decide)).2.1, adV 2, (hK.1 2 (by decide)).2.2⟩
      · exact ⟨(hK.1 3 (by decide)).1, (hK.1 3 (by decide)).2.1, adV 3, (hK.1 3 (by decide)).2.2⟩
/-- the interpreter's run at the law's entry is the machine's -/
theorem whole_start {p : Program} {e : Env} {s : State} {m : MethodId} {below : List Frame} {meth : Method} {c : Code} (G : x_Goal) (l : Launch) (hflags : l.flags = flags0) {b L : Nat} {xs : Nat → Int32} (hL : L ≤ 3584) (C0 : lw_At p s m meth c b L xs) : W p l e room_1 s m #[Value.ref b] below meth c s.heap [] 0 0 (lw_Z below #[Value.ref b] s) (entryFrame m ([Value.ref b] : List Value).toArray 8) := by
  obtain ⟨hx, hb, hr, hml, hown, hts, hX, hbl, hlk, hgv, htab⟩ := C0
  obtain ⟨ad, had, ha0, hF⟩ := x_Fr0 hts hX hbl hgv
  obtain ⟨D, cA, hK⟩ := x_K0 hts
  obtain ⟨F, μ', n', hrun⟩ := G L xs hL
  have hst : l.stackTraces = false := by
    unfold Launch.stackTraces
    rw [hflags]
    decide +kernel
  have hlr : x_lr ad (x_ent 8 [.ref 1000]) ((lg_sl ([Value.ref b]) ++ List.replicate (8 - (lg_sl ([Value.ref b])).length) Slot.unset).toArray) := by
    have := x_ent_lr (ad := ad) (l := [.ref 1000]) (n := 8) (by decide)
    rw [show ([Value.ref 1000] : List Value).map (x_tv ad) = [Value.ref b] from by rw [← ha0]; rfl] at this
    exact this
  have K := x_sound (l := l) (ad := ad) (b0 := s.heap.size) (D := D) (cA := cA) (X := (L, xs)) hst had F mL_law 0 _ [] (x_m0, 0, 0, 0) _ μ' n' hrun (p := p) (e := e) (R := room_1) (s := s) (m := m) (args := #[Value.ref b]) (below := below) (meth := meth) (c := c) (H := s.heap) (locs := []) (lsC := (lg_sl ([Value.ref b]) ++ List.replicate (8 - (lg_sl ([Value.ref b])).length) Slot.unset).toArray)
    ⟨had, hx, hb, hml, hr, hown, fun w hw => hts w (List.mem_filter.mp hw).1, hlk, hst, htab, hF, hK, ⟨by decide, by decide, Nat.le_refl _, Nat.le_refl _⟩, fun h => absurd h (by decide), Nat.le_refl _⟩
    ⟨⟨(fun k q hk => by cases hk), Nat.le_refl _, fun _ => rfl, by decide⟩, va_S.rf⟩ hlr rfl
  rw [lg_entry_eq]
  intro T hT Y
  obtain ⟨t, a1, o, b1, b2, b3⟩ := K T hT Y
  refine ⟨t, a1, o, b1, b2, ?_⟩
  rcases b3 with ⟨⟨hv, -, -⟩, Lo, ⟨-, hW, hsm⟩, hfree⟩ | ⟨q, -, E, ce, L9, hbad, -⟩
  · refine ⟨hv, ⟨_, hv⟩, hW, ?_⟩
    exact hsm.weaken (fun y hy hlt => absurd (hfree y hy) (Nat.not_le.mpr hlt)) (Nat.le_refl _) (Nat.le_refl _)
  · exact hbad.elim
set_option maxHeartbeats 4000000 in
theorem lw_walk (G : x_Goal) (l : Launch) (hflags : l.flags = flags0) (b : Addr) (xs : List Int32) : MetFree l x (headSpec (Jvm.Cond.code x code maxLocals ret :: tables_1) room_1) (lw_P b xs) (fun _ _ _ _ _ => True) lw_Q := by
  refine MetFree.of_bodyS (code := code) (maxLocals := maxLocals) (ret := ret) (by decide) ?_ ?_
  · intro args s m h hn
    obtain ⟨meth, c, h1, h2, h3, h4, h5, h6, -, -⟩ := Cond.code_spec hn (atoms_spec (ws := Jvm.Cond.code x code maxLocals ret :: tables_1) h _ List.mem_cons_self)
    exact ⟨meth, c, h1, h2, h3, h4, h5, h6⟩
  · intro p e s m args below meth c s₁ B hml0 hP _
    obtain ⟨rfl, hx, hbd, hgv⟩ := hP
    obtain ⟨scr, harrAt, hlist, hof, hsmall⟩ := hx
    obtain ⟨hcb, hkn, -, -⟩ := State.arrayAt?_spec harrAt
    have hown : s.vm.findClass R_law = some m.cls := findClass_of_methodNamed B.named
    have hts0 : ∀ c ∈ (Jvm.Cond.code x code maxLocals ret :: tables_1), c.before #[Value.ref b] s = true := atoms_spec (ws := Jvm.Cond.code x code maxLocals ret :: tables_1) B.pre
    have hts : ∀ w ∈ lw_tbl, w.before #[Value.ref b] s = true := k2_hts_sels lw_privs (fun w hw => hts0 w (List.mem_cons_of_mem _ hw)) lw_privs_ok
    have hml : c.maxLocals = 8 := B.maxLocals_eq (hts0 _ List.mem_cons_self)
    have X₀ : Stand p l e room_1 s m #[Value.ref b] below meth c s₁ [] 0 0 := Stand.of_body B
    have hh0 : s₁.heap = s.heap := by rw [B.state]; rfl
    have htab : c.exceptionTable.toList = [] := by
      obtain ⟨meth9, c9, h1, h2, -, -, -, -, h7, -⟩ := Cond.code_spec B.named (hts0 _ List.mem_cons_self)
      cases Option.some.inj (h1.symm.trans B.method)
      cases Option.some.inj (h2.symm.trans (Stand.of_body B).code)
      rw [Array.isEmpty_iff.mp h7]
    have hsz : scr.slots.size = xs.length := by rw [← Array.length_toList, hlist, List.length_map]
    have hval : ∀ j : Nat, j < xs.length → scr.slots[j]? = some (.int (xs.getD j 0)) := fun j hj => by
      rw [← Array.getElem?_toList, hlist]
      simp [hj]
    have hbl : b < s.heap.size := (Array.getElem?_eq_some_iff.mp hcb).1
    have hX : va_X b xs.length (fun j => xs.getD j 0) s s.heap := ⟨scr, hcb, hof, hkn, hsz, hval⟩
    have K : W p l e room_1 s m #[Value.ref b] below meth c s₁.heap [] 0 0 (lw_Z below #[Value.ref b] s) (entryFrame m ([Value.ref b] : List Value).toArray 8) := by
      rw [hh0]
      exact whole_start G l hflags hbd ⟨B.exec, B.bytes, B.returns, hml, hown, hts, hX, hbl, B.notSynchronized, hgv, htab⟩
    obtain ⟨t, a1, o, b1, b2, b3⟩ := K s₁ rfl X₀
    exact ⟨t, o, a1, b1, b2, b3⟩
theorem lw_pre_spec {args : Array Value} {s : State} (h : (Jvm.Cond.and given_1 narrow_1).before args s = true) (hr : rest_1_c.before args s = true) : ∃ (b : Addr) (xs : List Int32), lw_P b xs args s := by
  have hs := flat_of_before _ h
  have hq := flat_of_before _ hr
  have hc : (Cond.count 1).before args s = true := hs _ (by decide +kernel)
  have harr : (Cond.arrayOf (.arg 0) .int).before args s = true := hs _ (by decide +kernel)
  have hle : (Cond.le (.length (.arg 0)) (.int 3584)).before args s = true := hs _ (by decide +kernel)
  have hlen : (Cond.isInt (.length (.arg 0))).before args s = true := hq _ (by decide +kernel)
  have hall : (Cond.all (.arg 0) (.isInt (.elem (.arg 0) (.index 0)))).before args s = true := hq _ (by decide +kernel)
  obtain ⟨b, xs, hb, hx⟩ := State.ints_of_pre rfl harr hlen hall
  have hsm : xs.length < 2 ^ 31 := hx.choose_spec.2.2.2
  have hev : (Term.length (.arg 0)).eval args s none [] s = some (.int xs.length.toInt32) := hx.length_eval hb
  have hv := Cond.le_ints hev (show (Term.int 3584).eval args s none [] s = some (.int 3584) from rfl)
  have hd : xs.length.toInt32 ≤ 3584 := by
    simpa [Cond.before, Cond.holds, hv] using hle
  have hN : xs.length ≤ 3584 := (Int32.ofNat_le_ofNat hsm (by decide)).mp (show Int32.ofNat xs.length ≤ Int32.ofNat 3584 from hd)
  exact ⟨b, xs, Cond.one_arg hc (show args[0]? = some (.ref b) from hb), hx, hN, h⟩
theorem lw_comes (G : x_Goal) (l : Launch) (hflags : l.flags = flags0) : Comes l x (Jvm.Cond.code x code maxLocals ret :: tables_1) room_1 (fun tb e args s => Calls_1 tb e args s ∧ rest_1 tb e args s ∧ Pre_1 tb e args s)
    (fun _ _ args s o t => lw_Q args s o t) := by
  intro p e ha hc hk s m args below hf hfit hheap happ hpre
  obtain ⟨b, xs, hP⟩ := lw_pre_spec hpre.2.2 hpre.2.1
  obtain ⟨k, o, h1, h2, h3, hQ⟩ := lw_walk G l hflags b xs p e ha hc hk s m args below hf ((Spec.applies_iff_loose hf).mp happ).1 hP trivial
  exact ⟨k, o, h1, h2, h3, hQ⟩
theorem lw_frame {s t : State} {o : Outcome} {args : Array Value} (h : Framed s o t [] 601024 7293034) :
    Framed s o t (fieldLocs frame_1_writes args s ++ arrayLocs frame_1_arrays args s ++ staticLocs frame_1_statics s) 601024 7293034 := h
theorem lw_limb (G : x_Goal) (L : Cond) (hL : ∀ (args : Array Value) (s t : State), L.after args s (.returned (some (.int 1))) t = true) :
    ArmFor flags0 classFile x code maxLocals ret World_1 tables_1 room_1 Calls_1 rest_1 Pre_1
      (fun tb e a s o t => postC L tb e a s o t ∧ Framed s o t (fieldLocs frame_1_writes a s ++ arrayLocs frame_1_arrays a s ++ staticLocs frame_1_statics s) 601024 7293034) := by
  intro l hflags _ _ p e ha hc hk s m args below hf hfit hheap happ hpre
  obtain ⟨k, o, h1, h2, h3, rfl, hF⟩ := lw_comes G l hflags p e ha hc hk s m args below hf hfit hheap happ hpre
  exact ⟨k, _, h1, h2, h3, hL args s _, lw_frame hF⟩
theorem x_claim (G : x_Goal) : Claimed_1_1 ∧ Claimed_1_2 := ⟨lw_limb G limb_1_1 (fun args s t => by simp [limb_1_1, Cond.after, Cond.holds, Cond.value]), lw_limb G limb_1_2 (fun args s t => Cond.after_iff.mpr (by
  first | (rw [show limb_1_2 = Cond.eq .result (.int 1) from rfl, Cond.eq_ints (x := 1) (y := 1) rfl rfl]; simp; done) | (simp [limb_1_2, Cond.value, Term.eval]; done)))⟩

/-! ===== the plain steps together; calls; contracts ===== -/
section
variable {ad : Nat → Nat} {b0 : Nat} {D : va_G} {cA : Nat → ClassId} {X : x_X} {p : Program} {l : Launch} {e : Env} {R : Room} {s : State} {m : MethodId} {args : Array Value} {below : List Frame} {meth : Method} {c : Code} {M : x_MI} {Q : State → Prop} {H : Heap} {locs : List Loc} {lsC : Array Slot} {pc len : Nat} {ls : x_Ls} {st : List Value} {S : x_S} {z : Nat × x_Ls × List Value × x_S}
set_option maxHeartbeats 4000000 in
theorem x_step_sound {i : Instr} (hC : x_Cx ad b0 D cA X p l R s m args meth c M) (hd : decode (x_mb M) pc = .ok (i, len)) (hlen : x_lenOK i len = true) (hS : x_St ad b0 D cA s S H locs) (hl : x_lr ad ls lsC) (hm : ls.length = x_ml M) (h : x_step X M i len pc ls st S = some (.inl z)) (k : x_Kt ad b0 D cA p l e R s m args below meth c M Q z) : x_Gl ad p l e R s m args below meth c Q (pc, ls, st, S) H locs lsC := by
  cases i
  case iconst => exact xs_iconst hC hd hlen hS hl hm h k
  case bipush => exact xs_bipush hC hd hlen hS hl hm h k
  case sipush => exact xs_sipush hC hd hlen hS hl hm h k
  case lconst => exact xs_lconst hC hd hlen hS hl hm h k
  case iload => exact xs_iload hC hd hlen hS hl hm h k
  case iload_n => exact xs_iload_n hC hd hlen hS hl hm h k
  case lload => exact xs_lload hC hd hlen hS hl hm h k
  case lload_n => exact xs_lload_n hC hd hlen hS hl hm h k
  case aload => exact xs_aload hC hd hlen hS hl hm h k
  case aload_n => exact xs_aload_n hC hd hlen hS hl hm h k
  case istore => exact xs_istore hC hd hlen hS hl hm h k
  case istore_n => exact xs_istore_n hC hd hlen hS hl hm h k
  case astore => exact xs_astore hC hd hlen hS hl hm h k
  case astore_n => exact xs_astore_n hC hd hlen hS hl hm h k
  case lstore => exact xs_lstore hC hd hlen hS hl hm h k
  case lstore_n => exact xs_lstore_n hC hd hlen hS hl hm h k
  case iinc => exact xs_iinc hC hd hlen hS hl hm h k
  case iadd => exact xs_iadd hC hd hlen hS hl hm h k
  case isub => exact xs_isub hC hd hlen hS hl hm h k
  case imul => exact xs_imul hC hd hlen hS hl hm h k
  case iand => exact xs_iand hC hd hlen hS hl hm h k
  case ixor => exact xs_ixor hC hd hlen hS hl hm h k
  case ishr => exact xs_ishr hC hd hlen hS hl hm h k
  case ladd => exact xs_ladd hC hd hlen hS hl hm h k
  case lsub => exact xs_lsub hC hd hlen hS hl hm h k
  case lmul => exact xs_lmul hC hd hlen hS hl hm h k
  case idiv => exact xs_idiv hC hd hlen hS hl hm h k
  case irem => exact xs_irem hC hd hlen hS hl hm h k
  case ldiv => exact xs_ldiv hC hd hlen hS hl hm h k
  case lrem => exact xs_lrem hC hd hlen hS hl hm h k
  case ineg => exact xs_ineg hC hd hlen hS hl hm h k
  case lneg => exact xs_lneg hC hd hlen hS hl hm h k
  case i2l => exact xs_i2l hC hd hlen hS hl hm h k
  case l2i => exact xs_l2i hC hd hlen hS hl hm h k
  case i2b => exact xs_i2b hC hd hlen hS hl hm h k
  case lcmp => exact xs_lcmp hC hd hlen hS hl hm h k
  case dup => exact xs_dup hC hd hlen hS hl hm h k
  case pop => exact xs_pop hC hd hlen hS hl hm h k
  case dup2 => exact xs_dup2 hC hd hlen hS hl hm h k
  case goto => exact xs_goto hC hd hlen hS hl hm h k
  case ifCond => exact xs_ifc hC hd hlen hS hl hm h k
  case if_icmp => exact xs_icmp hC hd hlen hS hl hm h k
  case tableswitch => exact xs_tsw hC hd hlen hS hl hm h k
  case ldc => exact xs_ldc hC hd hlen hS hl hm h k
  case ldc2_w => exact xs_ldc2 hC hd hlen hS hl hm h k
  case getfield => exact xs_getfield hC hd hlen hS hl hm h k
  case putfield => exact xs_putfield hC hd hlen hS hl hm h k
  case getstatic => exact xs_getstatic hC hd hlen hS hl hm h k
  case arraylength => exact xs_alen hC hd hlen hS hl hm h k
  case iaload => exact xs_iaload hC hd hlen hS hl hm h k
  case baload => exact xs_baload hC hd hlen hS hl hm h k
  case laload => exact xs_laload hC hd hlen hS hl hm h k
  case aaload => exact xs_aaload hC hd hlen hS hl hm h k
  case iastore => exact xs_iastore hC hd hlen hS hl hm h k
  case bastore => exact xs_bastore hC hd hlen hS hl hm h k
  case lastore => exact xs_lastore hC hd hlen hS hl hm h k
  case aastore => exact xs_aastore hC hd hlen hS hl hm h k
  case newarray => exact xs_newarray hC hd hlen hS hl hm h k
  case anewarray => exact xs_anewarray hC hd hlen hS hl hm h k
  case new => exact xs_new hC hd hlen hS hl hm h k
  case invokespecial => exact xs_special hC hd hlen hS hl hm h k
  case invokevirtual => exact xs_virtual hC hd hlen hS hl hm h k
  case invokestatic => exact xs_static hC hd hlen hS hl hm h k
  all_goals (unfold x_step at h; dsimp only at h; (repeat' split at h) <;> cases h)
end
def x_rm (N : x_MI) : Room := { frames := 10 + x_lv N, cells := x_mc N, slots := x_ms N, locals := 200 + 80 * x_lv N }
/-- what a method's end says -/
def x_QO (ad : Nat → Nat) (b0 : Nat) (D : va_G) (cA : Nat → ClassId) (o : x_O) (μ : x_Mem) (n : Nat) : Array Value → State → Outcome → State → Prop := fun _ st oc t => match o with
  | .inl v => oc = .returned (v.map (x_tv ad)) ∧ x_Wd ad b0 D cA μ n t.heap ∧ va_F (fun q => b0 ≤ q) st t
  | .inr _ => False
def x_XO (ad : Nat → Nat) (b0 : Nat) (D : va_G) (cA : Nat → ClassId) (o : x_O) (μ : x_Mem) (n : Nat) : String → State → State → Prop := fun E st t => match o with
  | .inl _ => False
  | .inr e => E = x_en e ∧ e < 4 ∧ x_Wd ad b0 D cA μ n t.heap ∧ va_F (fun q => b0 ≤ q) st t
def x_Pre (ad : Nat → Nat) (b0 : Nat) (D : va_G) (cA : Nat → ClassId) (X : x_X) (μ : x_Mem) (n : Nat) (U : State) : Prop := x_Fr ad b0 X U ∧ va_K D vwCl (x_tys cA) U ∧ x_Wd ad b0 D cA μ n U.heap ∧ b0 ≤ U.heap.size
/-- a method's contract for one run -/
def x_Ct (l : Launch) (ad : Nat → Nat) (b0 : Nat) (D : va_G) (cA : Nat → ClassId) (X : x_X) (N : x_MI) (as : List Value) (μ : x_Mem) (n : Nat) (o : x_O) (μ' : x_Mem) (n' : Nat) : Prop :=
  vx_Met l (x_my N) (x_cd N :: x_tb) (x_rm N) (va_Pc (as.map (x_tv ad)) (x_Pre ad b0 D cA X μ n)) (x_QO ad b0 D cA o μ' n') (x_XO ad b0 D cA o μ' n') (x_mc N) (x_ms N) (fun q => b0 ≤ q)
theorem x_Wd_calling {ad : Nat → Nat} {b0 : Nat} {D : va_G} {cA : Nat → ClassId} {X : x_X} {μ : x_Mem} {n : Nat} {as : List Value} : FrameBlind (va_Pc as (x_Pre ad b0 D cA X μ n)) := fun a U g mk q =>
  ⟨q.1, q.2.1.to (State.WarmedH.refl U) (fun _ _ => rfl), va_K.moved (u := U) (U := U.calling g mk a) (Vm.Alike.refl U.vm) q.2.2.1, q.2.2.2⟩
theorem x_cd_nil {N : x_MI} (h : x_mh N = []) : x_cd N = .code (x_my N) (x_mb N) (x_ml N) (x_mr N) := by unfold x_cd; rw [h]
theorem x_cd_cons {N : x_MI} (h : x_mh N ≠ []) : x_cd N = .codeWith (x_my N) (x_mb N) (x_ml N) (x_mr N) (x_mh N) := by
  unfold x_cd
  split
  · rename_i h1
    exact absurd h1 h
  · rfl
theorem x_ofW {l : Launch} {N : x_MI} {Pc : Array Value → State → Prop} {Qc : Array Value → State → Outcome → State → Prop} {XC : String → State → State → Prop} {mc ms : Nat} {free : Addr → Prop} (hy : plainFor (x_my N) = true)
    (body : ∀ p e s m args below meth c s₁, BodyLoose p l (x_my N) (headSpec (x_cd N :: x_tb) (x_rm N)) (x_mb N) (x_ml N) (x_mr N) e s m args below meth c s₁ → c.maxLocals = x_ml N → c.exceptionTable.toList = tableOf (x_mh N) → Pc args s →
      W p l e (x_rm N) s m args below meth c s.heap [] 0 0 (vx_MQ below Qc XC args s mc ms free) (entryFrame m args (x_ml N))) : vx_Met l (x_my N) (x_cd N :: x_tb) (x_rm N) Pc Qc XC mc ms free := by
  refine MetFree.of_bodySF (code := x_mb N) (maxLocals := x_ml N) (ret := x_mr N) hy ?_ ?_
  · intro args s m h hn
    have h0 := atoms_spec (ws := x_cd N :: x_tb) h _ List.mem_cons_self
    by_cases hh : x_mh N = []
    · rw [x_cd_nil hh] at h0
      obtain ⟨meth, c, h1, h2, h3, h4, h5, h6, -, -⟩ := Cond.code_spec hn h0
      exact ⟨meth, c, h1, h2, h3, h4, h5, h6⟩
    · rw [x_cd_cons hh] at h0
      obtain ⟨m9, meth, c, hn9, h1, h2, h3, h4, -, h5, h6, -⟩ := Cond.codeWith_spec h0
      cases hn.symm.trans hn9
      exact ⟨meth, c, h1, h2, h3, h4, h5, h6⟩
  · intro p e s m args below meth c s₁ B hml hP _
    have hh0 : s₁.heap = s.heap := by rw [B.state]; rfl
    have h0 := atoms_spec (ws := x_cd N :: x_tb) B.pre _ List.mem_cons_self
    have ht : c.exceptionTable.toList = tableOf (x_mh N) := by
      by_cases hh : x_mh N = []
      · rw [x_cd_nil hh] at h0
        obtain ⟨meth9, c9, h1, h2, -, -, -, -, h7, -⟩ := Cond.code_spec B.named h0
        cases Option.some.inj (h1.symm.trans B.method)
        cases Option.some.inj (h2.symm.trans (Stand.of_body B).code)
        rw [Array.isEmpty_iff.mp h7, hh]
        rfl
      · rw [x_cd_cons hh] at h0
        exact vx_table (x := x_my N) B h0
    obtain ⟨t, a1, o, b1, b2, b3⟩ := body p e s m args below meth c s₁ B hml ht hP s₁ hh0 (Stand.of_body B)
    exact ⟨t, o, a1, b1, b2, b3⟩
section
variable {ad : Nat → Nat} {b0 : Nat} {D : va_G} {cA : Nat → ClassId} {X : x_X} {p : Program} {l : Launch} {e : Env} {R : Room} {s : State} {m : MethodId} {args : Array Value} {below : List Frame} {meth : Method} {c : Code} {M : x_MI} {Q : State → Prop} {H : Heap} {locs : List Loc} {lsC : Array Slot} {pc len : Nat} {ls : x_Ls} {st : List Value} {S : x_S}
/-- behind a call that returns -/
theorem x_retW {cells slots mc ms n' : Nat} {v : Option Value} {μ' : x_Mem} {a : Array Value} {st0 rest : List Value} (hr : vx_Run p l e R s m args below meth c H locs cells slots mc ms (F0 m pc lsC st0) rest (x_QO ad b0 D cA (.inl v) μ' n' a) (x_XO ad b0 D cA (.inl v) μ' n') (fun q => b0 ≤ q)) (hS : va_S (fun q => b0 ≤ q) s.heap H locs)
    (kk : ∀ (H1 : Heap) (locs1 : List Loc), x_Wd ad b0 D cA μ' n' H1 → va_S (fun q => b0 ≤ q) s.heap H1 locs1 → W p l e R s m args below meth c H1 locs1 (cells + mc) (slots + ms) Q (F0 m (pc + 3) lsC ((v.map (x_tv ad)).toList ++ rest))) : W p l e R s m args below meth c H locs cells slots Q (F0 m pc lsC st0) := by
  intro T hT X
  rcases hr T hT X with ⟨v9, st₀, t, T', L, h0, X', hL, e1, e2, ⟨hv, hw, hF⟩, st⟩ | ⟨q, st₀, t, T', L, E, ce, h0, X', hL, e1, e2, hx, -⟩
  · cases hv
    obtain ⟨k1, k2, k3⟩ := vx_keep h0 e1 hS (fun _ _ h => h) (fun _ h => h) hL hF
    obtain ⟨t2, a1, b1⟩ := kk T'.heap (locs ++ L) (by rw [e1]; exact hw) k3 T' rfl X'
    exact ⟨t2, st t2 a1, b1⟩
  · exact hx.elim
/-- behind a call that throws -/
theorem x_thrW {cells slots mc ms n' E0 : Nat} {μ' : x_Mem} {a : Array Value} {st0 rest : List Value} (hr : vx_Run p l e R s m args below meth c H locs cells slots mc ms (F0 m pc lsC st0) rest (x_QO ad b0 D cA (.inr E0) μ' n' a) (x_XO ad b0 D cA (.inr E0) μ' n') (fun q => b0 ≤ q)) (hS : va_S (fun q => b0 ≤ q) s.heap H locs)
    (kk : ∀ (H1 : Heap) (locs1 : List Loc) (ce : Cell) (q : Addr), E0 < 4 → x_Wd ad b0 D cA μ' n' H1 → va_S (fun q => b0 ≤ q) s.heap H1 locs1 → H1[q]? = some ce → ce.vm = .none → s.vm.findClass (x_en E0) = some ce.cls → vx_W p l e R s m args below meth c H1 locs1 (cells + mc) (slots + ms) Q (F0 m pc lsC rest) q) : W p l e R s m args below meth c H locs cells slots Q (F0 m pc lsC st0) := by
  intro T hT X
  rcases hr T hT X with ⟨v9, st₀, t, T', L, h0, X', hL, e1, e2, hx, -⟩ | ⟨q, st₀, t, T', L, E, ce, h0, X', hL, e1, e2, ⟨hE, h4, hw, hF⟩, hce, hcv, hcl, st⟩
  · exact hx.elim
  · subst hE
    obtain ⟨k1, k2, k3⟩ := vx_keep h0 e1 hS (fun _ _ h => h) (fun _ h => h) hL hF
    obtain ⟨t2, a1, b1⟩ := kk T'.heap (locs ++ L) ce q h4 (by rw [e1]; exact hw) k3 (by rw [e1]; exact hce) hcv hcl T' rfl X'
    exact ⟨t2, st.trans a1, b1⟩
theorem x_args {na : Nat} (st : List Value) : st.map (x_tv ad) = (((st.take na).reverse).map (x_tv ad)).reverse ++ (st.drop na).map (x_tv ad) := by
  rw [List.map_reverse, List.reverse_reverse, ← List.map_append, List.take_append_drop]
/-- the run of a call, by its kind -/
theorem x_runC {k kd q na n' : Nat} {N : x_MI} {i : Instr} {o : x_O} {μ' : x_Mem} (hC : x_Cx ad b0 D cA X p l R s m args meth c M) (hd : decode (x_mb M) pc = .ok (i, 3)) (hi : x_isInv i k kd) (hS : x_St ad b0 D cA s S H locs) (hl : x_lr ad ls lsC) (hm : ls.length = x_ml M) (hcal : x_cal M (x_key M k) = some (q, N, na))
    (hcond : kd = x_qk q ∧ na ≤ st.length ∧ x_cats (st.drop na) ≤ 8 ∧ x_lv N < x_lv M ∧ S.2.2.1 + x_mc N ≤ x_mc M ∧ S.2.2.2 + x_ms N ≤ x_ms M ∧ k < 1000 ∧ (x_av (st.take na).reverse).length ≤ x_ml N ∧ x_rcv q N S (st.take na).reverse = true)
    (hN : x_Ct l ad b0 D cA X N (st.take na).reverse S.1 S.2.1 o μ' n') :
    ∃ a : Array Value, vx_Run p l e R s m args below meth c H locs S.2.2.1 S.2.2.2 (x_mc N) (x_ms N) (F0 m pc lsC (st.map (x_tv ad))) ((st.drop na).map (x_tv ad)) (x_QO ad b0 D cA o μ' n' a) (x_XO ad b0 D cA o μ' n') (fun q => b0 ≤ q) := by
  obtain ⟨had, hx, hb, hml, hr, hown, hts, hlk, hst9, htab, hF, hK, hR, hini, hb0⟩ := hC
  obtain ⟨hkd, hna, hcat, hlv, hc1, hc2, hk, hav, hrcv⟩ := hcond
  have hkk := x_key_div (M := M) hk
  obtain ⟨⟨g1, g2, g3, g4, g5⟩, g6, g7⟩ := x_cal_ok hcal
  dsimp only at g1 g2 g3 g4 g5 g6 g7
  rw [hkk.1, hkk.2] at g7
  have hroom : (x_rm N).frames + 1 ≤ R.frames ∧ 8 + (x_ml N + 11) + (x_rm N).locals ≤ R.locals := by
    have h1 := hR.1
    have h2 := hR.2.1
    show 10 + x_lv N + 1 ≤ R.frames ∧ 8 + (x_ml N + 11) + (200 + 80 * x_lv N) ≤ R.locals
    omega
  have hfit : S.2.2.1 + x_mc N ≤ R.cells ∧ S.2.2.2 + x_ms N ≤ R.slots := ⟨Nat.le_trans hc1 hR.2.2.1, Nat.le_trans hc2 hR.2.2.2⟩
  have hsz : lsC.size = x_ml M := hl.1.trans hm
  have hpre : ∀ U : State, U.heap = H → s.WarmedH U.vm → va_Pc (((st.take na).reverse).map (x_tv ad)) (x_Pre ad b0 D cA X S.1 S.2.1) (((st.take na).reverse).map (x_tv ad)).toArray U := fun U hU hW => ⟨rfl, hF.to hW (fun q hq => by rw [hU]; exact hS.2.2.1 q (by omega) (fun z9 => absurd hq (Nat.not_lt.mpr z9))), va_K.moved hW.alike hK, by rw [hU]; exact hS.1, by rw [hU]; exact Nat.le_trans hb0 hS.2.1⟩
  have hst := x_args (ad := ad) (na := na) st
  have hlen : ((st.take na).reverse).length = na := by rw [List.length_reverse, List.length_take]; omega
  generalize has : (st.take na).reverse = as at hav hrcv hN hpre hst hlen
  unfold x_Ct at hN
  match q, hkd, g3, g6, g7, hrcv with
  | 0, hkd, g3, g6, g7, hrcv =>
    obtain ⟨w1, w2, w3, ⟨rc, w4, w5⟩, w6⟩ := g7
    have hi0 : i = .invokevirtual k := by
      have : kd = 0 := hkd
      subst this
      rcases hi with ⟨h, -⟩ | ⟨-, h⟩ | ⟨-, h⟩
      · exact h
      · cases h
      · cases h
    subst hi0
    have hcd := x_cd_nil w6
    rw [hcd] at hN g1
    match as, hav, hrcv, hN, hpre, hst, hlen with
    | .ref r :: as', hav, hrcv, hN, hpre, hst, hlen =>
      have hrc : r < S.2.1 ∧ (x_shp r).1 = 10 + x_mo N := by
        have h9 : (decide (r < S.2.1) && Nat.beq (x_shp r).1 (10 + x_mo N)) = true := hrcv
        rw [Bool.and_eq_true] at h9
        exact ⟨of_decide_eq_true h9.1, Nat.eq_of_beq_eq_true h9.2⟩
      have hg := x_wl_get (ad := ad) (cA := cA) (μ := S.1) hrc.1
      rw [x_cell_o hrc.2] at hg
      have hrv := va_recv hK hS.1.1 w4 hg
      rw [w5] at hrv
      refine ⟨_, vx_runV (As := as'.map (x_tv ad)) (n := na - 1) (nL := x_ml M) ⟨hx, hb, hml, hown, hts⟩ hN ⟨callB_of (na - 1) hts (x_goodIn g1) rfl rfl rfl (hts _ g2) (hts _ w1) ⟨g3.2.1, g3.2.2.1, g3.2.2.2⟩ hroom, hts _ w2, hts _ w3⟩ ⟨x_Wd_calling, hrv, hpre⟩ rfl ?_ hsz ?_ (x_room hcat) hd hfit⟩
      · rw [List.length_map]
        rw [List.length_cons] at hlen
        omega
      · show st.map (x_tv ad) = _
        rw [hst, List.map_cons, List.reverse_cons, List.append_assoc]
        rfl
  | 1, hkd, g3, g6, g7, hrcv =>
    obtain ⟨w1, w2, w6⟩ := g7
    have hi0 : i = .invokestatic k := by
      have : kd = 1 := hkd
      subst this
      rcases hi with ⟨-, h⟩ | ⟨h, -⟩ | ⟨-, h⟩
      · cases h
      · exact h
      · cases h
    subst hi0
    have hcd := x_cd_nil w6
    rw [hcd] at hN g1
    exact ⟨_, vx_runS (As := as.map (x_tv ad)) (n := na) (nL := x_ml M) ⟨hx, hb, hml, hown, hts⟩ hN ⟨callB_of na hts (x_goodIn g1) rfl rfl rfl (hts _ g2) (hts _ w1) ⟨g3.2.1, g3.2.2.1, g3.2.2.2⟩ hroom, hts _ w2⟩ ⟨x_Wd_calling, hpre⟩ rfl (by rw [List.length_map]; exact hlen) hsz hst (x_room hcat) hd hfit⟩
  | 2, hkd, g3, g6, g7, hrcv =>
    obtain ⟨w1, w2, w3, w6, w7⟩ := g7
    have hi0 : i = .invokespecial k := by
      have : kd = 2 := hkd
      subst this
      rcases hi with ⟨-, h⟩ | ⟨-, h⟩ | ⟨h, -⟩
      · cases h
      · cases h
      · exact h
    subst hi0
    have hcd := x_cd_nil w6
    rw [hcd] at hN g1
    match as, hav, hrcv, hN, hpre, hst, hlen with
    | .ref r :: as', hav, hrcv, hN, hpre, hst, hlen =>
      have hg1 := g1
      rw [w7] at hg1
      have hN2 := hN
      refine ⟨_, vx_runI (As := as'.map (x_tv ad)) (n := na - 1) (nL := x_ml M) (bytes := x_mb N) (maxL := x_ml N) ⟨hx, hb, hml, hown, hts⟩ hN ⟨callB_of (na - 1) hts (x_goodIn g1) (by rw [w7]) rfl rfl (hts _ g2) (hts _ w1) ⟨g3.2.1, g3.2.2.1, g3.2.2.2⟩ hroom, w3, hts _ w2⟩ ⟨x_Wd_calling, hpre⟩ rfl ?_ hsz ?_ (x_room hcat) hd hfit⟩
      · rw [List.length_map]
        rw [List.length_cons] at hlen
        omega
      · show st.map (x_tv ad) = _
        rw [hst, List.map_cons, List.reverse_cons, List.append_assoc]
        rfl
  | 3, hkd, g3, g6, g7, hrcv =>
    obtain ⟨w2, w6⟩ := g7
    have hi0 : i = .invokestatic k := by
      have : kd = 1 := hkd
      subst this
      rcases hi with ⟨-, h⟩ | ⟨h, -⟩ | ⟨-, h⟩
      · cases h
      · exact h
      · cases h
    subst hi0
    have hcd := x_cd_nil w6
    rw [hcd] at hN g1
    have hnw : va_Nw (.methodLinkNest (x_own (x_mo M)) k (x_my N) "TimberSale") s := by
      have h9 : x_look (x_key M k) x_calT = some (3, N, na) := by
        unfold x_cal at hcal
        split at hcal
        · split at hcal
          · cases hcal
          · cases hcal
        · exact hcal
      have := hF.2.2.1 _ (x_look_mem h9) rfl
      dsimp only at this
      rw [hkk.1, hkk.2] at this
      exact this
    exact ⟨_, vx_runSN (As := as.map (x_tv ad)) (n := na) (nL := x_ml M) ⟨hx, hb, hml, hown, hts⟩ hN ⟨va_cnB na hts (x_goodIn g1) rfl rfl rfl hnw (hts _ g2) ⟨g3.2.1, g3.2.2.1, g3.2.2.2⟩ hroom, hts _ w2, trivial⟩ ⟨x_Wd_calling, hpre⟩ rfl (by rw [List.length_map]; exact hlen) hsz hst (x_room hcat) hd hfit⟩
  | q9 + 4, hkd, g3, g6, g7, hrcv =>
    obtain ⟨w1, w2, w6⟩ := g7
    have hi0 : i = .invokestatic k := by
      have : kd = 1 := hkd
      subst this
      rcases hi with ⟨-, h⟩ | ⟨h, -⟩ | ⟨-, h⟩
      · cases h
      · exact h
      · cases h
    subst hi0
    have hcd := x_cd_cons w6
    rw [hcd] at hN g1
    have hg3 : (parseMethodDescriptor (x_my N).desc).map (fun d => d.parameters.length) = some na := g3.2.2.2
    refine ⟨_, vx_runSX (As := as.map (x_tv ad)) (n := na) (nL := x_ml M) (hh := x_mh N) (bytes := x_mb N) (maxL := x_ml N) (ret := x_mr N) ⟨hx, hb, hml, hown, hts⟩ hN ⟨⟨rfl, rfl, hroom.1, hroom.2, pay_in hts (x_goodIn g1), List.mem_cons_self⟩, hts _ g1, hts _ g2, ⟨g3.2.1, g3.2.2.1⟩, fun sig h => ?_, hts _ w1, hts _ w2⟩ ⟨x_Wd_calling, hpre⟩ rfl (by rw [List.length_map]; exact hlen) hsz hst (x_room hcat) hd hfit⟩
    rw [h] at hg3
    exact (Option.some.inj hg3).symm
end

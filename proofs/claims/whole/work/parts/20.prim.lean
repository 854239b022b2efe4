/-! ===== the words of the primitive calls (laid by wip/whole/gen_sound3.py) ===== -/
theorem x_obiT_ok : ∀ e ∈ x_obiT, Cond.methodLink (x_own (e.1 / 1000)) (e.1 % 1000) Lib.objectInit ∈ x_tb :=
  List.forall_mem_cons.mpr ⟨x_tbm 80 (by decide +kernel) rfl, List.forall_mem_cons.mpr ⟨x_tbm 88 (by decide +kernel) rfl, List.forall_mem_cons.mpr ⟨x_tbm 119 (by decide +kernel) rfl, List.forall_mem_cons.mpr ⟨x_tbm 126 (by decide +kernel) rfl, List.forall_mem_cons.mpr ⟨x_tbm 132 (by decide +kernel) rfl, List.forall_mem_cons.mpr ⟨x_tbm 177 (by decide +kernel) rfl, List.forall_mem_cons.mpr ⟨x_tbm 193 (by decide +kernel) rfl, List.forall_mem_cons.mpr ⟨x_tbm 223 (by decide +kernel) rfl, List.forall_mem_cons.mpr ⟨x_tbm 265 (by decide +kernel) rfl, List.forall_mem_cons.mpr ⟨x_tbm 1314 (by decide +kernel) rfl, fun _ h => absurd h List.not_mem_nil⟩⟩⟩⟩⟩⟩⟩⟩⟩⟩
theorem x_obi1 : Cond.instanceMethod Lib.objectInit ∈ x_tb := x_tbm 81 (by decide +kernel) rfl
theorem x_obi2 : Cond.code Lib.objectInit ⟨#[0xb1]⟩ 1 none ∈ x_tb := x_tbm 82 rfl rfl
theorem x_cpyT_ok : ∀ e ∈ x_cpyT, Cond.methodLink (x_own (e.1 / 1000)) (e.1 % 1000) arraycopyName ∈ x_tb :=
  List.forall_mem_cons.mpr ⟨x_tbm 141 (by decide +kernel) rfl, List.forall_mem_cons.mpr ⟨x_tbm 708 (by decide +kernel) rfl, List.forall_mem_cons.mpr ⟨x_tbm 765 (by decide +kernel) rfl, List.forall_mem_cons.mpr ⟨x_tbm 1169 (by decide +kernel) rfl, fun _ h => absurd h List.not_mem_nil⟩⟩⟩⟩
theorem x_cpy1 : Cond.native arraycopyName ∈ x_tb := x_tbm 143 (by decide +kernel) rfl
theorem x_cpy2 : Cond.static arraycopyName ∈ x_tb := x_tbm 142 (by decide +kernel) rfl
theorem x_cpy3 : Cond.initialized "java/lang/System" ∈ x_tb := x_tbm 57 (by decide +kernel) rfl
theorem x_aw_byte : Cond.arrayClass .byte ∈ x_tb := x_tbm 113 (by decide +kernel) rfl
theorem x_aw_int : Cond.arrayClass .int ∈ x_tb := x_tbm 171 (by decide +kernel) rfl
theorem x_aw_long : Cond.arrayClass .long ∈ x_tb := x_tbm 259 (by decide +kernel) rfl
theorem x_clOwn {ci : Nat} {r : vw_C} (h : vwCl[ci]? = some r) : r.1 = x_own ci := by
  have hl := x_cl_lt h
  match ci, h, hl with
  | 0, h, _ => cases h; rfl
  | 1, h, _ => cases h; rfl
  | 2, h, _ => cases h; rfl
  | 3, h, _ => cases h; rfl
  | 4, h, _ => cases h; rfl
  | 5, h, _ => cases h; rfl
  | 6, h, _ => cases h; rfl
  | 7, h, _ => cases h; rfl
  | 8, h, _ => cases h; rfl
  | 9, h, _ => cases h; rfl

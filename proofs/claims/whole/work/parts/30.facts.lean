/-! ===== what the Statement gives at the law's entry (laid by wip/whole/gen_start.py) ===== -/
theorem x_ArrOf {s : State} {args : Array Value} {ty : FieldType} (h : (Cond.arrayClass ty).before args s = true) : ∃ cB : ClassId, ArrOfT s cB ty ∧ s.vm.findClass ("[" ++ ty.toString) = some cB := by
  obtain ⟨cB, k, comp, h1, h2, h3⟩ := Cond.arrayClass_spec h
  exact ⟨cB, fun n z => ⟨fun k h => (by cases h), k, h2, comp, h3⟩, h1⟩
section
variable {s : State} {b : Nat}
/-- the classes -/
theorem x_K0 (hts : ∀ w ∈ lw_tbl, w.before #[Value.ref b] s = true) : ∃ (D : va_G) (cA : Nat → ClassId), va_K D vwCl (x_tys cA) s := by
  have htb : ∀ w ∈ x_tb, w.before #[Value.ref b] s = true := fun w hw => hts w (List.mem_filter.mp hw).1
  have h0 : ∀ c : Nat, ∃ q : ClassId × (Nat → Nat), ∀ r : vw_C, vwCl[c]? = some r → u_Kn s r.1 r.2.1 r.2.2 q.1 q.2 := by
    intro c
    cases hc : vwCl[c]? with
    | none => exact ⟨(0, fun _ => 0), fun r hr => by cases hr⟩
    | some r =>
      have hin : (Cond.instantiable r.1 r.2.2).before #[Value.ref b] s = true := by
        have hl := x_cl_lt hc
        match c, hc, hl with
        | 0, hc, _ => cases hc; exact (hts _ (List.mem_of_getElem? (i := 189) (by decide +kernel)))
        | 1, hc, _ => cases hc; exact (hts _ (List.mem_of_getElem? (i := 219) (by decide +kernel)))
        | 2, hc, _ => cases hc; exact (hts _ (List.mem_of_getElem? (i := 173) (by decide +kernel)))
        | 3, hc, _ => cases hc; exact (hts _ (List.mem_of_getElem? (i := 115) (by decide +kernel)))
        | 4, hc, _ => cases hc; exact (hts _ (List.mem_of_getElem? (i := 261) (by decide +kernel)))
        | 5, hc, _ => cases hc; exact (hts _ (List.mem_of_getElem? (i := 84) (by decide +kernel)))
        | 6, hc, _ => cases hc; exact (hts _ (List.mem_of_getElem? (i := 122) (by decide +kernel)))
        | 7, hc, _ => cases hc; exact (hts _ (List.mem_of_getElem? (i := 128) (by decide +kernel)))
        | 8, hc, _ => cases hc; exact (hts _ (List.mem_of_getElem? (i := 76) (by decide +kernel)))
        | 9, hc, _ => cases hc; exact (hts _ (List.mem_of_getElem? (i := 1310) (by decide +kernel)))
      obtain ⟨cC, iS, h⟩ := u_known htb (x_wAll hc) hin
      exact ⟨(cC, iS), fun r' hr => by cases hr; exact h⟩
  obtain ⟨dd, hd⟩ := Classical.axiomOfChoice h0
  obtain ⟨c0, a0, b0⟩ := x_ArrOf (htb _ x_aw_byte)
  obtain ⟨c1, a1, b1⟩ := x_ArrOf (htb _ x_aw_int)
  obtain ⟨c2, a2, b2⟩ := x_ArrOf (htb _ x_aw_long)
  obtain ⟨comp, c3, k3, f1, -, f3, f4, f5⟩ := Cond.arrayOver_spec (n := "TimberSale$Sale") (hts _ (List.mem_of_getElem? (i := 121) (by decide +kernel)))
  refine ⟨(fun c => (dd c).1, fun c => (dd c).2), fun k => match k with | 0 => c0 | 1 => c1 | 2 => c2 | _ => c3, fun c r hr => hd c r hr, fun k q hk => ?_⟩
  have hk4 : k < 4 := (List.getElem?_eq_some_iff.mp hk).1
  match k, hk, hk4 with
  | 0, hk, _ => cases hk; exact ⟨a0, b0⟩
  | 1, hk, _ => cases hk; exact ⟨a1, b1⟩
  | 2, hk, _ => cases hk; exact ⟨a2, b2⟩
  | 3, hk, _ => cases hk; exact ⟨fun n z => ⟨fun k h => (by cases h), k3, f3, comp, f4⟩, k3, comp, f3, f4, f1, f5⟩
/-- a static array of seven ints -/
theorem x_T_x_least {A : Nat → Prop} (hs : ∀ c ∈ flatC (Jvm.Cond.and given_1 narrow_1), c.before #[Value.ref b] s = true) (hA : ∀ a : Nat, a < s.heap.size → ¬ A a) : ∃ t : Nat, (Term.static "TimberSale" "LEAST_NUMBERS" "[I").eval #[Value.ref b] s none [] s = some (.ref t) ∧ va_T .int t 7 (fun j => .int (x_least j)) A s s.heap :=
  va_Tof (by decide) (hs _ (List.mem_of_getElem? (i := 5) (by decide +kernel))) (va_eqt (hs _ (List.mem_of_getElem? (i := 6) (by decide +kernel)))) (fun j hj => match j, hj with
    | 0, _ => va_eqt (hs _ (List.mem_of_getElem? (i := 7) (by decide +kernel)))
    | 1, _ => va_eqt (hs _ (List.mem_of_getElem? (i := 8) (by decide +kernel)))
    | 2, _ => va_eqt (hs _ (List.mem_of_getElem? (i := 9) (by decide +kernel)))
    | 3, _ => va_eqt (hs _ (List.mem_of_getElem? (i := 10) (by decide +kernel)))
    | 4, _ => va_eqt (hs _ (List.mem_of_getElem? (i := 11) (by decide +kernel)))
    | 5, _ => va_eqt (hs _ (List.mem_of_getElem? (i := 12) (by decide +kernel)))
    | 6, _ => va_eqt (hs _ (List.mem_of_getElem? (i := 13) (by decide +kernel)))
    | j + 7, hj => absurd hj (by omega)) hA
theorem x_T_x_great {A : Nat → Prop} (hs : ∀ c ∈ flatC (Jvm.Cond.and given_1 narrow_1), c.before #[Value.ref b] s = true) (hA : ∀ a : Nat, a < s.heap.size → ¬ A a) : ∃ t : Nat, (Term.static "TimberSale" "GREATEST_NUMBERS" "[I").eval #[Value.ref b] s none [] s = some (.ref t) ∧ va_T .int t 7 (fun j => .int (x_great j)) A s s.heap :=
  va_Tof (by decide) (hs _ (List.mem_of_getElem? (i := 22) (by decide +kernel))) (va_eqt (hs _ (List.mem_of_getElem? (i := 23) (by decide +kernel)))) (fun j hj => match j, hj with
    | 0, _ => va_eqt (hs _ (List.mem_of_getElem? (i := 24) (by decide +kernel)))
    | 1, _ => va_eqt (hs _ (List.mem_of_getElem? (i := 25) (by decide +kernel)))
    | 2, _ => va_eqt (hs _ (List.mem_of_getElem? (i := 26) (by decide +kernel)))
    | 3, _ => va_eqt (hs _ (List.mem_of_getElem? (i := 27) (by decide +kernel)))
    | 4, _ => va_eqt (hs _ (List.mem_of_getElem? (i := 28) (by decide +kernel)))
    | 5, _ => va_eqt (hs _ (List.mem_of_getElem? (i := 29) (by decide +kernel)))
    | 6, _ => va_eqt (hs _ (List.mem_of_getElem? (i := 30) (by decide +kernel)))
    | j + 7, hj => absurd hj (by omega)) hA
/-- the texts -/
def x_tm (i : Nat) : Term := match i with
  | 0 => .string "TimberSale$Reader" 64
  | 1 => .string "TimberSale$Reader" 99
  | 2 => .string "TimberSale$Reader" 117
  | _ => .string "TimberSaleModel" 45
def x_tl : List Nat := [4, 7, 4, 19]
def x_tby : List (List Int32) := [x_txt 1010, x_txt 1011, x_txt 1012, x_txt 1013]
theorem x_S0 {A : Nat → Prop} (hs : ∀ c ∈ flatC (Jvm.Cond.and given_1 narrow_1), c.before #[Value.ref b] s = true) (hA : ∀ a : Nat, a < s.heap.size → ¬ A a) : ∃ adK adV : Nat → Nat, vk_S 4 x_tl x_tby adK adV A s s.heap ∧ ∀ i : Nat, i < 4 → (x_tm i).eval #[Value.ref b] s none [] s = some (.ref (adK i)) := by
  refine vk_Sof (tm := x_tm) (by decide) (fun i hi => match i, hi with | 0, _ => (hs _ (List.mem_of_getElem? (i := 152) (by decide +kernel))) | 1, _ => (hs _ (List.mem_of_getElem? (i := 162) (by decide +kernel))) | 2, _ => (hs _ (List.mem_of_getElem? (i := 176) (by decide +kernel))) | 3, _ => (hs _ (List.mem_of_getElem? (i := 259) (by decide +kernel))) | i + 4, hi => absurd hi (by omega)) (fun i hi => match i, hi with | 0, _ => (hs _ (List.mem_of_getElem? (i := 153) (by decide +kernel))) | 1, _ => (hs _ (List.mem_of_getElem? (i := 163) (by decide +kernel))) | 2, _ => (hs _ (List.mem_of_getElem? (i := 177) (by decide +kernel))) | 3, _ => (hs _ (List.mem_of_getElem? (i := 260) (by decide +kernel))) | i + 4, hi => absurd hi (by omega)) (fun i hi => match i, hi with | 0, _ => (hs _ (List.mem_of_getElem? (i := 154) (by decide +kernel))) | 1, _ => (hs _ (List.mem_of_getElem? (i := 164) (by decide +kernel))) | 2, _ => (hs _ (List.mem_of_getElem? (i := 178) (by decide +kernel))) | 3, _ => (hs _ (List.mem_of_getElem? (i := 261) (by decide +kernel))) | i + 4, hi => absurd hi (by omega)) (fun i hi => match i, hi with | 0, _ => (hs _ (List.mem_of_getElem? (i := 155) (by decide +kernel))) | 1, _ => (hs _ (List.mem_of_getElem? (i := 165) (by decide +kernel))) | 2, _ => (hs _ (List.mem_of_getElem? (i := 179) (by decide +kernel))) | 3, _ => (hs _ (List.mem_of_getElem? (i := 262) (by decide +kernel))) | i + 4, hi => absurd hi (by omega)) ?_ ?_ hA
  · intro i hi j hj
    match i, hi, j, hj with
    | 0, _, 0, _ => exact (hs _ (List.mem_of_getElem? (i := 156) (by decide +kernel)))
    | 0, _, 1, _ => exact (hs _ (List.mem_of_getElem? (i := 157) (by decide +kernel)))
    | 0, _, 2, _ => exact (hs _ (List.mem_of_getElem? (i := 158) (by decide +kernel)))
    | 0, _, 3, _ => exact (hs _ (List.mem_of_getElem? (i := 159) (by decide +kernel)))
    | 0, _, j + 4, hj => exact absurd hj (by show ¬ j + 4 < 4; omega)
    | 1, _, 0, _ => exact (hs _ (List.mem_of_getElem? (i := 166) (by decide +kernel)))
    | 1, _, 1, _ => exact (hs _ (List.mem_of_getElem? (i := 167) (by decide +kernel)))
    | 1, _, 2, _ => exact (hs _ (List.mem_of_getElem? (i := 168) (by decide +kernel)))
    | 1, _, 3, _ => exact (hs _ (List.mem_of_getElem? (i := 169) (by decide +kernel)))
    | 1, _, 4, _ => exact (hs _ (List.mem_of_getElem? (i := 170) (by decide +kernel)))
    | 1, _, 5, _ => exact (hs _ (List.mem_of_getElem? (i := 171) (by decide +kernel)))
    | 1, _, 6, _ => exact (hs _ (List.mem_of_getElem? (i := 172) (by decide +kernel)))
    | 1, _, j + 7, hj => exact absurd hj (by show ¬ j + 7 < 7; omega)
    | 2, _, 0, _ => exact (hs _ (List.mem_of_getElem? (i := 180) (by decide +kernel)))
    | 2, _, 1, _ => exact (hs _ (List.mem_of_getElem? (i := 181) (by decide +kernel)))
    | 2, _, 2, _ => exact (hs _ (List.mem_of_getElem? (i := 182) (by decide +kernel)))
    | 2, _, 3, _ => exact (hs _ (List.mem_of_getElem? (i := 183) (by decide +kernel)))
    | 2, _, j + 4, hj => exact absurd hj (by show ¬ j + 4 < 4; omega)
    | 3, _, 0, _ => exact (hs _ (List.mem_of_getElem? (i := 263) (by decide +kernel)))
    | 3, _, 1, _ => exact (hs _ (List.mem_of_getElem? (i := 264) (by decide +kernel)))
    | 3, _, 2, _ => exact (hs _ (List.mem_of_getElem? (i := 265) (by decide +kernel)))
    | 3, _, 3, _ => exact (hs _ (List.mem_of_getElem? (i := 266) (by decide +kernel)))
    | 3, _, 4, _ => exact (hs _ (List.mem_of_getElem? (i := 267) (by decide +kernel)))
    | 3, _, 5, _ => exact (hs _ (List.mem_of_getElem? (i := 268) (by decide +kernel)))
    | 3, _, 6, _ => exact (hs _ (List.mem_of_getElem? (i := 269) (by decide +kernel)))
    | 3, _, 7, _ => exact (hs _ (List.mem_of_getElem? (i := 270) (by decide +kernel)))
    | 3, _, 8, _ => exact (hs _ (List.mem_of_getElem? (i := 271) (by decide +kernel)))
    | 3, _, 9, _ => exact (hs _ (List.mem_of_getElem? (i := 272) (by decide +kernel)))
    | 3, _, 10, _ => exact (hs _ (List.mem_of_getElem? (i := 273) (by decide +kernel)))
    | 3, _, 11, _ => exact (hs _ (List.mem_of_getElem? (i := 274) (by decide +kernel)))
    | 3, _, 12, _ => exact (hs _ (List.mem_of_getElem? (i := 275) (by decide +kernel)))
    | 3, _, 13, _ => exact (hs _ (List.mem_of_getElem? (i := 276) (by decide +kernel)))
    | 3, _, 14, _ => exact (hs _ (List.mem_of_getElem? (i := 277) (by decide +kernel)))
    | 3, _, 15, _ => exact (hs _ (List.mem_of_getElem? (i := 278) (by decide +kernel)))
    | 3, _, 16, _ => exact (hs _ (List.mem_of_getElem? (i := 279) (by decide +kernel)))
    | 3, _, 17, _ => exact (hs _ (List.mem_of_getElem? (i := 280) (by decide +kernel)))
    | 3, _, 18, _ => exact (hs _ (List.mem_of_getElem? (i := 281) (by decide +kernel)))
    | 3, _, j + 19, hj => exact absurd hj (by show ¬ j + 19 < 19; omega)
    | i + 4, hi, _, _ => exact absurd hi (by omega)
  · intro i j hi hj hne
    match i, hi, j, hj with
    | 0, _, 0, _ => exact absurd rfl hne
    | 0, _, 1, _ => exact Or.inl (hs _ (List.mem_of_getElem? (i := 175) (by decide +kernel)))
    | 0, _, 2, _ => exact Or.inl (hs _ (List.mem_of_getElem? (i := 186) (by decide +kernel)))
    | 0, _, 3, _ => exact Or.inl (hs _ (List.mem_of_getElem? (i := 284) (by decide +kernel)))
    | 1, _, 0, _ => exact Or.inr (hs _ (List.mem_of_getElem? (i := 175) (by decide +kernel)))
    | 1, _, 1, _ => exact absurd rfl hne
    | 1, _, 2, _ => exact Or.inl (hs _ (List.mem_of_getElem? (i := 187) (by decide +kernel)))
    | 1, _, 3, _ => exact Or.inl (hs _ (List.mem_of_getElem? (i := 285) (by decide +kernel)))
    | 2, _, 0, _ => exact Or.inr (hs _ (List.mem_of_getElem? (i := 186) (by decide +kernel)))
    | 2, _, 1, _ => exact Or.inr (hs _ (List.mem_of_getElem? (i := 187) (by decide +kernel)))
    | 2, _, 2, _ => exact absurd rfl hne
    | 2, _, 3, _ => exact Or.inl (hs _ (List.mem_of_getElem? (i := 286) (by decide +kernel)))
    | 3, _, 0, _ => exact Or.inr (hs _ (List.mem_of_getElem? (i := 284) (by decide +kernel)))
    | 3, _, 1, _ => exact Or.inr (hs _ (List.mem_of_getElem? (i := 285) (by decide +kernel)))
    | 3, _, 2, _ => exact Or.inr (hs _ (List.mem_of_getElem? (i := 286) (by decide +kernel)))
    | 3, _, 3, _ => exact absurd rfl hne
    | i + 4, hi, _, _ => exact absurd hi (by omega)
    | _, _, j + 4, hj => exact absurd hj (by omega)
/-- the texts of the exceptions -/
theorem x_E0 (hts : ∀ w ∈ lw_tbl, w.before #[Value.ref b] s = true) (hs : ∀ c ∈ flatC (Jvm.Cond.and given_1 narrow_1), c.before #[Value.ref b] s = true) : ∀ E, E < 4 → ∃ sa, vk_R "TimberSale" (x_ek E).2.1 (x_et E) sa s := by
  have key : ∀ (k : Nat) (tx : String), (Cond.stringRef "TimberSale" k tx).before #[Value.ref b] s = true → (Cond.exactly (.string "TimberSale" k) "java/lang/String").before #[Value.ref b] s = true → ∃ sa, vk_R "TimberSale" k tx sa s := by
    intro k tx h1 h2
    obtain ⟨a, c, cA, kA, q1, -⟩ := Cond.exactly_spec (args := #[Value.ref b]) (first := s) (o := none) (s := s) (idx := []) (t := .string "TimberSale" k) (cls := "java/lang/String") h2
    exact ⟨a, vk_R.of h1 q1⟩
  intro E hE
  match E, hE with
  | 0, _ => exact key _ _ (hts _ (List.mem_of_getElem? (i := 479) (by decide +kernel))) (hs _ (List.mem_of_getElem? (i := 83) (by decide +kernel)))
  | 1, _ => exact key _ _ (hts _ (List.mem_of_getElem? (i := 532) (by decide +kernel))) (hs _ (List.mem_of_getElem? (i := 119) (by decide +kernel)))
  | 2, _ => exact key _ _ (hts _ (List.mem_of_getElem? (i := 754) (by decide +kernel))) (hs _ (List.mem_of_getElem? (i := 188) (by decide +kernel)))
  | 3, _ => exact key _ _ (hts _ (List.mem_of_getElem? (i := 1029) (by decide +kernel))) (hs _ (List.mem_of_getElem? (i := 236) (by decide +kernel)))
/-- exceptions of one kind are none of another -/
theorem x_N0 (hs : ∀ c ∈ flatC (Jvm.Cond.and given_1 narrow_1), c.before #[Value.ref b] s = true) : ∀ E, E < 4 → ∀ E', E' < 4 → E ≠ E' → va_Nc (x_en E) (x_en E') s := by
  intro E hE E' hE' hne
  match E, hE, E', hE' with
  | 0, _, 0, _ => exact absurd rfl hne
  | 0, _, 1, _ => exact va_Nc.of (hs _ (List.mem_of_getElem? (i := 54) (by decide +kernel)))
  | 0, _, 2, _ => exact va_Nc.of (hs _ (List.mem_of_getElem? (i := 67) (by decide +kernel)))
  | 0, _, 3, _ => exact va_Nc.of (hs _ (List.mem_of_getElem? (i := 80) (by decide +kernel)))
  | 1, _, 0, _ => exact va_Nc.of (hs _ (List.mem_of_getElem? (i := 41) (by decide +kernel)))
  | 1, _, 1, _ => exact absurd rfl hne
  | 1, _, 2, _ => exact va_Nc.of (hs _ (List.mem_of_getElem? (i := 68) (by decide +kernel)))
  | 1, _, 3, _ => exact va_Nc.of (hs _ (List.mem_of_getElem? (i := 81) (by decide +kernel)))
  | 2, _, 0, _ => exact va_Nc.of (hs _ (List.mem_of_getElem? (i := 42) (by decide +kernel)))
  | 2, _, 1, _ => exact va_Nc.of (hs _ (List.mem_of_getElem? (i := 55) (by decide +kernel)))
  | 2, _, 2, _ => exact absurd rfl hne
  | 2, _, 3, _ => exact va_Nc.of (hs _ (List.mem_of_getElem? (i := 82) (by decide +kernel)))
  | 3, _, 0, _ => exact va_Nc.of (hs _ (List.mem_of_getElem? (i := 43) (by decide +kernel)))
  | 3, _, 1, _ => exact va_Nc.of (hs _ (List.mem_of_getElem? (i := 56) (by decide +kernel)))
  | 3, _, 2, _ => exact va_Nc.of (hs _ (List.mem_of_getElem? (i := 69) (by decide +kernel)))
  | 3, _, 3, _ => exact absurd rfl hne
end
theorem x_thw_in : ∀ E, E < 4 → ∀ w ∈ x_thw E, w ∈ lw_tbl := by decide +kernel

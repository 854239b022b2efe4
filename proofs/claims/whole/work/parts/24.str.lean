/-! ===== String.length and String.charAt of the texts (the words laid by wip/whole/gen_str.py) ===== -/
theorem xj_f38 : Cond.fieldLink RJ0 38 "java/lang/String" "COMPACT_STRINGS" "Z" ∈ x_tb := x_tbm 601 (by decide +kernel) rfl
theorem xj_f15 : Cond.fieldLink RJ0 15 "java/lang/String" "coder" "B" ∈ x_tb := x_tbm 1809 (by decide +kernel) rfl
theorem xj_f9 : Cond.fieldLink RJ0 9 "java/lang/String" "value" "[B" ∈ x_tb := x_tbm 1808 (by decide +kernel) rfl
theorem xj_f1053 : Cond.fieldLink RJ0 1053 "jdk/internal/util/Preconditions" "SIOOBE_FORMATTER" "Ljava/util/function/BiFunction;" ∈ x_tb := x_tbm 617 (by decide +kernel) rfl
theorem xj_m335_coder : Cond.methodLink RJ0 335 yJ0_coder_7d493 ∈ x_tb := x_tbm 597 (by decide +kernel) rfl
theorem xj_m492_isLatin1 : Cond.methodLink RJ0 492 yJ0_isLatin1_aae02 ∈ x_tb := x_tbm 607 (by decide +kernel) rfl
theorem xj_m495_lcharAt : Cond.methodLink RJ0 495 yJ1_charAt_3b067 ∈ x_tb := x_tbm 611 (by decide +kernel) rfl
theorem xj_m9_checkIndex : Cond.methodLink RJ1 9 yJ0_checkIndex_df160 ∈ x_tb := x_tbm 614 (by decide +kernel) rfl
theorem xj_m1059_pcheck : Cond.methodLink RJ0 1059 yJ3_checkIndex_8e157 ∈ x_tb := x_tbm 619 (by decide +kernel) rfl
theorem xj_m122_length : Cond.methodLink RX5 122 yJ0_length_8abf5 ∈ x_tb := x_tbm 593 (by decide +kernel) rfl
theorem xj_m47_length : Cond.methodLink RX9 47 yJ0_length_8abf5 ∈ x_tb := x_tbm 1407 (by decide +kernel) rfl
theorem xj_m131_charAt : Cond.methodLink RX5 131 yJ0_charAt_5068e ∈ x_tb := x_tbm 603 (by decide +kernel) rfl
theorem xj_m53_charAt : Cond.methodLink RX9 53 yJ0_charAt_5068e ∈ x_tb := x_tbm 1408 (by decide +kernel) rfl
theorem xj_i_length : Cond.instanceMethod yJ0_length_8abf5 ∈ x_tb := x_tbm 594 (by decide +kernel) rfl
theorem xj_s_length : Cond.selects RJ0 yJ0_length_8abf5 yJ0_length_8abf5 ∈ x_tb := x_tbm 595 (by decide +kernel) rfl
theorem xj_i_coder : Cond.instanceMethod yJ0_coder_7d493 ∈ x_tb := x_tbm 598 (by decide +kernel) rfl
theorem xj_s_coder : Cond.selects RJ0 yJ0_coder_7d493 yJ0_coder_7d493 ∈ x_tb := x_tbm 599 (by decide +kernel) rfl
theorem xj_i_isLatin1 : Cond.instanceMethod yJ0_isLatin1_aae02 ∈ x_tb := x_tbm 608 (by decide +kernel) rfl
theorem xj_s_isLatin1 : Cond.selects RJ0 yJ0_isLatin1_aae02 yJ0_isLatin1_aae02 ∈ x_tb := x_tbm 609 (by decide +kernel) rfl
theorem xj_i_charAt : Cond.instanceMethod yJ0_charAt_5068e ∈ x_tb := x_tbm 604 (by decide +kernel) rfl
theorem xj_s_charAt : Cond.selects RJ0 yJ0_charAt_5068e yJ0_charAt_5068e ∈ x_tb := x_tbm 605 (by decide +kernel) rfl
theorem xj_t_checkIndex : Cond.static yJ0_checkIndex_df160 ∈ x_tb := x_tbm 615 (by decide +kernel) rfl
theorem xj_t_lcharAt : Cond.static yJ1_charAt_3b067 ∈ x_tb := x_tbm 612 (by decide +kernel) rfl
theorem xj_t_pcheck : Cond.static yJ3_checkIndex_8e157 ∈ x_tb := x_tbm 620 (by decide +kernel) rfl
theorem xj_n_RJ0 : Cond.initialized RJ0 ∈ x_tb := x_tbm 69 (by decide +kernel) rfl
theorem xj_n_RJ1 : Cond.initialized RJ1 ∈ x_tb := x_tbm 70 (by decide +kernel) rfl
theorem xj_n_RJ3 : Cond.initialized RJ3 ∈ x_tb := x_tbm 71 (by decide +kernel) rfl
set_option maxRecDepth 100000 in
theorem xj_c_length : Cond.code yJ0_length_8abf5 cJ0_length_8abf5 1 (some .int) ∈ x_tb := x_tbm 596 rfl rfl
set_option maxRecDepth 100000 in
theorem xj_c_coder : Cond.code yJ0_coder_7d493 cJ0_coder_7d493 1 (some .byte) ∈ x_tb := x_tbm 600 rfl rfl
set_option maxRecDepth 100000 in
theorem xj_c_isLatin1 : Cond.code yJ0_isLatin1_aae02 cJ0_isLatin1_aae02 1 (some .boolean) ∈ x_tb := x_tbm 610 rfl rfl
set_option maxRecDepth 100000 in
theorem xj_c_checkIndex : Cond.code yJ0_checkIndex_df160 cJ0_checkIndex_df160 2 none ∈ x_tb := x_tbm 616 rfl rfl
set_option maxRecDepth 100000 in
theorem xj_c_charAt : Cond.code yJ0_charAt_5068e cJ0_charAt_5068e 2 (some .char) ∈ x_tb := x_tbm 606 rfl rfl
set_option maxRecDepth 100000 in
theorem xj_c_lcharAt : Cond.code yJ1_charAt_3b067 cJ1_charAt_3b067 2 (some .char) ∈ x_tb := x_tbm 613 rfl rfl
set_option maxRecDepth 100000 in
theorem xj_c_pcheck : Cond.code yJ3_checkIndex_8e157 cJ3_checkIndex_8e157 3 (some .int) ∈ x_tb := x_tbm 621 rfl rfl
theorem x_tb_good {w : Cond} (h : w ∈ x_tb) : (w.onTables && w.keeps) = true ∨ ∃ ty, w = .arrayClass ty := good_of_word (List.mem_filter.mp h).2
theorem x_goodIn {w : Cond} (h : w ∈ x_tb) : GoodIn x_tb (w :: x_tb) := fun v hv => by
  rcases List.mem_cons.mp hv with rfl | hv
  · exact ⟨h, x_tb_good h⟩
  · exact ⟨hv, x_tb_good hv⟩
set_option maxRecDepth 100000 in
theorem xj_coder (l : Launch) (ad : Nat → Nat) (b0 : Nat) {r : Nat} (h1 : 1010 ≤ r) (h2 : r ≤ 1013) : Met l yJ0_coder_7d493 (Cond.code yJ0_coder_7d493 cJ0_coder_7d493 1 (some .byte) :: x_tb) ({ frames := 0, cells := 0, slots := 0, locals := 0 }) (va_Pc [.ref (ad r)] (fun U => x_Str ad b0 U)) (vp_Si (fun v => v = 0)) 0 0 (fun _ => False) := by
  refine Met.ofW (cc := cJ0_coder_7d493) (maxL := 1) (ret := (some .byte)) (by decide +kernel) rfl ?_
  intro p e s m args below meth c s₁ B hml hv
  obtain ⟨rfl, hF⟩ := hv
  have hx := B.exec
  have hb := B.bytes
  have hr := B.returns
  have hts0 := atoms_spec B.pre
  have hts : ∀ w ∈ x_tb, w.before _ s = true := fun w h => hts0 w (List.mem_cons_of_mem _ h)
  have hown := findClass_of_methodNamed B.named
  have hlocks := B.notSynchronized
  have hS : va_S (fun q => b0 ≤ q) s.heap s.heap [] := va_S.rf
  have hl := lv_entry ([.ref (ad r)]) (n := 1) (Nat.le_of_ble_eq_true rfl)
  rw [lg_entry_eq]
  generalize (lg_sl ([.ref (ad r)]) ++ List.replicate (1 - (lg_sl ([.ref (ad r)])).length) Slot.unset).toArray = ls at hl ⊢
  have hl : lv_has ls 1 [(0, .ref (ad r))] := hl
  refine va_gets hx hb hF.2.1 hS hown (hts _ xj_f38) (fun _ h => h) dJ0_coder_7d493_0 ?_
  refine lv_if_eq (tgt := 13) hx hb dJ0_coder_7d493_3 rfl (fun h => absurd h (by decide)) (fun _ => ?_)
  refine lv_aload_n hx hb dJ0_coder_7d493_6 rfl (lv_at hl 0 rfl) ?_
  refine vk_getf hx hb (hF.1 r h1 h2).2.1 hS hown (hts _ xj_f15) (fun _ h => h) dJ0_coder_7d493_7 ?_
  refine lv_goto (tgt := 14) hx hb dJ0_coder_7d493_10 rfl ?_
  exact W.zret (ty := .byte) hx hb hr rfl (fun t ht _ => ⟨0, rfl, rfl, ht⟩) (fun _ h => by cases h) dJ0_coder_7d493_14
set_option maxRecDepth 100000 in
theorem xj_isLatin1 (l : Launch) (ad : Nat → Nat) (b0 : Nat) {r : Nat} (h1 : 1010 ≤ r) (h2 : r ≤ 1013) : Met l yJ0_isLatin1_aae02 (Cond.code yJ0_isLatin1_aae02 cJ0_isLatin1_aae02 1 (some .boolean) :: x_tb) ({ frames := 0, cells := 0, slots := 0, locals := 0 }) (va_Pc [.ref (ad r)] (fun U => x_Str ad b0 U)) (vp_Si (fun v => v = 1)) 0 0 (fun _ => False) := by
  refine Met.ofW (cc := cJ0_isLatin1_aae02) (maxL := 1) (ret := (some .boolean)) (by decide +kernel) rfl ?_
  intro p e s m args below meth c s₁ B hml hv
  obtain ⟨rfl, hF⟩ := hv
  have hx := B.exec
  have hb := B.bytes
  have hr := B.returns
  have hts0 := atoms_spec B.pre
  have hts : ∀ w ∈ x_tb, w.before _ s = true := fun w h => hts0 w (List.mem_cons_of_mem _ h)
  have hown := findClass_of_methodNamed B.named
  have hlocks := B.notSynchronized
  have hS : va_S (fun q => b0 ≤ q) s.heap s.heap [] := va_S.rf
  have hl := lv_entry ([.ref (ad r)]) (n := 1) (Nat.le_of_ble_eq_true rfl)
  rw [lg_entry_eq]
  generalize (lg_sl ([.ref (ad r)]) ++ List.replicate (1 - (lg_sl ([.ref (ad r)])).length) Slot.unset).toArray = ls at hl ⊢
  have hl : lv_has ls 1 [(0, .ref (ad r))] := hl
  refine va_gets hx hb hF.2.1 hS hown (hts _ xj_f38) (fun _ h => h) dJ0_isLatin1_aae02_0 ?_
  refine lv_if_eq (tgt := 17) hx hb dJ0_isLatin1_aae02_3 rfl (fun h => absurd h (by decide)) (fun _ => ?_)
  refine lv_aload_n hx hb dJ0_isLatin1_aae02_6 rfl (lv_at hl 0 rfl) ?_
  refine vk_getf hx hb (hF.1 r h1 h2).2.1 hS hown (hts _ xj_f15) (fun _ h => h) dJ0_isLatin1_aae02_7 ?_
  refine lv_if_ne (tgt := 17) hx hb dJ0_isLatin1_aae02_10 rfl (fun h => absurd rfl h) (fun _ => ?_)
  refine lv_iconst (v := 1) hx hb dJ0_isLatin1_aae02_13 (by decide) ?_
  refine lv_goto (tgt := 18) hx hb dJ0_isLatin1_aae02_14 rfl ?_
  exact W.zret (ty := .boolean) hx hb hr rfl (fun t ht _ => ⟨1, rfl, rfl, ht⟩) (fun _ h => by cases h) dJ0_isLatin1_aae02_18
theorem x_Str.to {ad : Nat → Nat} {b0 : Nat} {s U : State} (hv : s.vm.Alike U.vm) (hk : ∀ a : Nat, a < s.heap.size → ¬ b0 ≤ a → U.heap[a]? = s.heap[a]?) (h : x_Str ad b0 s) : x_Str ad b0 U := by
  obtain ⟨h9, h10, h11⟩ := h
  refine ⟨fun r r1 r2 => ?_, va_Z.moved hv (h10.kept hk), va_Zq.moved hv (h11.kept hk)⟩
  obtain ⟨g1, g2, av, g3, g4⟩ := h9 r r1 r2
  exact ⟨va_O.moved hv (g1.kept hk), va_OF.moved hv (g2.kept hk), av, va_OF.moved hv (g3.kept hk), va_T.moved hv (g4.kept hk)⟩
theorem x_Str.blind {ad : Nat → Nat} {b0 : Nat} {as : List Value} : FrameBlind (va_Pc as (fun U => x_Str ad b0 U)) := fun a U g mk q => ⟨q.1, x_Str.to (s := U) (U := U.calling g mk a) (Vm.Alike.refl U.vm) (fun _ _ _ => rfl) q.2⟩
theorem x_Str.pre {ad : Nat → Nat} {b0 : Nat} {as : List Value} {s : State} {H : Heap} {locs : List Loc} (hS : va_S (fun q => b0 ≤ q) s.heap H locs) (h : x_Str ad b0 s) : ∀ U : State, U.heap = H → s.WarmedH U.vm → va_Pc as (fun U => x_Str ad b0 U) as.toArray U := fun U hU hW => ⟨rfl, h.to hW.alike (fun a h1 h2 => by rw [hU]; exact hS.2.1 a h1 h2)⟩
set_option maxRecDepth 100000 in
theorem xj_pcheck (l : Launch) (ad : Nat → Nat) (b0 : Nat) {i n : Int32} {f : Value} (hi : ¬ i < 0) (hn : i < n) (hf : f = .null ∨ ∃ t, f = .ref t) : Met l yJ3_checkIndex_8e157 (Cond.code yJ3_checkIndex_8e157 cJ3_checkIndex_8e157 3 (some .int) :: x_tb) ({ frames := 0, cells := 0, slots := 0, locals := 0 }) (va_Pc [.int i, .int n, f] (fun U => x_Str ad b0 U)) (vp_Si (fun v => v = i)) 0 0 (fun _ => False) := by
  rcases hf with rfl | ⟨t, rfl⟩
  · refine Met.ofW (cc := cJ3_checkIndex_8e157) (maxL := 3) (ret := (some .int)) (by decide +kernel) rfl ?_
    intro p e s m args below meth c s₁ B hml hv
    obtain ⟨rfl, hF⟩ := hv
    have hx := B.exec
    have hb := B.bytes
    have hr := B.returns
    have hlocks := B.notSynchronized
    have hl := lv_entry ([.int i, .int n, .null]) (n := 3) (Nat.le_of_ble_eq_true rfl)
    rw [lg_entry_eq]
    generalize (lg_sl ([.int i, .int n, .null]) ++ List.replicate (3 - (lg_sl ([.int i, .int n, .null])).length) Slot.unset).toArray = ls at hl ⊢
    have hl : lv_has ls 3 [(0, .int i), (1, .int n), (2, .null)] := hl
    refine lv_iload_n hx hb dJ3_checkIndex_8e157_0 rfl (lv_at hl 0 rfl) ?_
    refine lv_if_lt (tgt := 9) hx hb dJ3_checkIndex_8e157_1 rfl (fun h => absurd h hi) (fun _ => ?_)
    refine lv_iload_n hx hb dJ3_checkIndex_8e157_4 rfl (lv_at hl 0 rfl) ?_
    refine lv_iload_n hx hb dJ3_checkIndex_8e157_5 rfl (lv_at hl 1 rfl) ?_
    refine lv_icmp_lt (tgt := 16) hx hb dJ3_checkIndex_8e157_6 rfl (fun _ => ?_) (fun h => absurd hn h)
    refine lv_iload_n hx hb dJ3_checkIndex_8e157_16 rfl (lv_at hl 0 rfl) ?_
    exact W.iret hx hb hr (fun t ht _ => ⟨i, rfl, rfl, ht⟩) (fun _ h => by cases h) dJ3_checkIndex_8e157_17
  · refine Met.ofW (cc := cJ3_checkIndex_8e157) (maxL := 3) (ret := (some .int)) (by decide +kernel) rfl ?_
    intro p e s m args below meth c s₁ B hml hv
    obtain ⟨rfl, hF⟩ := hv
    have hx := B.exec
    have hb := B.bytes
    have hr := B.returns
    have hlocks := B.notSynchronized
    have hl := lv_entry ([.int i, .int n, .ref t]) (n := 3) (Nat.le_of_ble_eq_true rfl)
    rw [lg_entry_eq]
    generalize (lg_sl ([.int i, .int n, .ref t]) ++ List.replicate (3 - (lg_sl ([.int i, .int n, .ref t])).length) Slot.unset).toArray = ls at hl ⊢
    have hl : lv_has ls 3 [(0, .int i), (1, .int n), (2, .ref t)] := hl
    refine lv_iload_n hx hb dJ3_checkIndex_8e157_0 rfl (lv_at hl 0 rfl) ?_
    refine lv_if_lt (tgt := 9) hx hb dJ3_checkIndex_8e157_1 rfl (fun h => absurd h hi) (fun _ => ?_)
    refine lv_iload_n hx hb dJ3_checkIndex_8e157_4 rfl (lv_at hl 0 rfl) ?_
    refine lv_iload_n hx hb dJ3_checkIndex_8e157_5 rfl (lv_at hl 1 rfl) ?_
    refine lv_icmp_lt (tgt := 16) hx hb dJ3_checkIndex_8e157_6 rfl (fun _ => ?_) (fun h => absurd hn h)
    refine lv_iload_n hx hb dJ3_checkIndex_8e157_16 rfl (lv_at hl 0 rfl) ?_
    exact W.iret hx hb hr (fun t ht _ => ⟨i, rfl, rfl, ht⟩) (fun _ h => by cases h) dJ3_checkIndex_8e157_17
set_option maxRecDepth 100000 in
theorem xj_check (l : Launch) (ad : Nat → Nat) (b0 : Nat) {i n : Int32} (hi : ¬ i < 0) (hn : i < n) : Met l yJ0_checkIndex_df160 (Cond.code yJ0_checkIndex_df160 cJ0_checkIndex_df160 2 none :: x_tb) ({ frames := 1, cells := 0, slots := 0, locals := 22 }) (va_Pc [.int i, .int n] (fun U => x_Str ad b0 U)) (va_Sv (fun _ => True)) 0 0 (fun _ => False) := by
  refine Met.ofW (cc := cJ0_checkIndex_df160) (maxL := 2) (ret := none) (by decide +kernel) rfl ?_
  intro p e s m args below meth c s₁ B hml hv
  obtain ⟨rfl, hF⟩ := hv
  have hx := B.exec
  have hb := B.bytes
  have hr := B.returns
  have hts0 := atoms_spec B.pre
  have hts : ∀ w ∈ x_tb, w.before _ s = true := fun w h => hts0 w (List.mem_cons_of_mem _ h)
  have hown := findClass_of_methodNamed B.named
  have hlocks := B.notSynchronized
  have hS : va_S (fun q => b0 ≤ q) s.heap s.heap [] := va_S.rf
  have hl := lv_entry ([.int i, .int n]) (n := 2) (Nat.le_of_ble_eq_true rfl)
  rw [lg_entry_eq]
  generalize (lg_sl ([.int i, .int n]) ++ List.replicate (2 - (lg_sl ([.int i, .int n])).length) Slot.unset).toArray = ls at hl ⊢
  have hl : lv_has ls 2 [(0, .int i), (1, .int n)] := hl
  refine lv_iload_n hx hb dJ0_checkIndex_df160_0 rfl (lv_at hl 0 rfl) ?_
  refine lv_iload_n hx hb dJ0_checkIndex_df160_1 rfl (lv_at hl 1 rfl) ?_
  have key : ∀ f : Value, (f = .null ∨ ∃ t, f = .ref t) → W p l e (headSpec (Cond.code yJ0_checkIndex_df160 cJ0_checkIndex_df160 2 none :: x_tb) ({ frames := 1, cells := 0, slots := 0, locals := 22 })).room s m [Value.int i, Value.int n].toArray below meth c s.heap [] 0 0 (MQ below (va_Sv (fun _ => True)) [Value.int i, Value.int n].toArray s 0 0 (fun _ => False)) (F0 m 5 ls (f :: .int n :: .int i :: [])) := by
    intro f hf
    refine vp_callSi (W.runS (As := [.int i, .int n, f]) (rest := []) ⟨hx, hb, hml, hown, hts⟩ (xj_pcheck l ad b0 hi hn hf) ⟨callB_of 3 hts (x_goodIn xj_c_pcheck) rfl rfl rfl (hts _ xj_n_RJ3) (hts _ xj_m1059_pcheck) ⟨by decide +kernel, by decide +kernel, by decide +kernel⟩ ⟨Nat.le_of_ble_eq_true rfl, Nat.le_of_ble_eq_true rfl⟩, hts _ xj_t_pcheck⟩ ⟨x_Str.blind, x_Str.pre hS hF⟩ rfl rfl hl.1 rfl (lv_room (Nat.le_of_ble_eq_true rfl)) dJ0_checkIndex_df160_5 ⟨Nat.zero_le _, Nat.zero_le _⟩) (fun r _ => ?_)
    refine lv_pop hx hb dJ0_checkIndex_df160_8 rfl ?_
    exact W.vret hx hb hr (fun t ht _ => ⟨rfl, trivial, ht⟩) (fun _ h => by cases h) dJ0_checkIndex_df160_9
  rcases hF.2.2 with hz | ⟨t, hz⟩
  · exact va_gets hx hb hz hS hown (hts _ xj_f1053) (fun _ h => h) dJ0_checkIndex_df160_2 (key _ (Or.inl rfl))
  · exact va_gets hx hb hz hS hown (hts _ xj_f1053) (fun _ h => h) dJ0_checkIndex_df160_2 (key _ (Or.inr ⟨t, rfl⟩))
theorem x_txt_ch : ∀ r, 1010 ≤ r → r ≤ 1013 → ∀ y ∈ x_txt r, ((y &&& (Int16.ofInt 255).toInt32).toUInt32 % 65536).toInt32 = y ∧ narrow .char (.int y) = .int y := by
  intro r h1 h2
  have hr : r = 1010 ∨ r = 1011 ∨ r = 1012 ∨ r = 1013 := by omega
  rcases hr with rfl | rfl | rfl | rfl <;> decide +kernel
theorem x_txt_len : ∀ r, 1010 ≤ r → r ≤ 1013 → (x_txt r).length < 20 := by
  intro r h1 h2
  have hr : r = 1010 ∨ r = 1011 ∨ r = 1012 ∨ r = 1013 := by omega
  rcases hr with rfl | rfl | rfl | rfl <;> decide
theorem x_in_lt {i : Int32} {n : Nat} (h : ¬ (i < 0 ∨ n ≤ i.toNatClampNeg)) (hn : n < 20) : ¬ i < 0 ∧ i < Int32.ofNat n := by
  have h0 : ¬ i < 0 := fun q => h (Or.inl q)
  refine ⟨h0, ?_⟩
  have h1 : i.toNatClampNeg < n := Nat.not_le.mp fun q => h (Or.inr q)
  have e1 := x_nn i h0
  rw [Int32.lt_iff_toInt_lt, e1, Int32.toInt_ofNat_of_lt (by omega)]
  omega
theorem x_getD_mem {l : List Int32} {j : Nat} (h : j < l.length) : l.getD j 0 ∈ l := by
  rw [List.getD_eq_getElem?_getD, List.getElem?_eq_getElem h]
  exact List.getElem_mem h
set_option maxRecDepth 100000 in
theorem xj_lcharAt (l : Launch) (ad : Nat → Nat) (b0 : Nat) {r av : Nat} (h1 : 1010 ≤ r) (h2 : r ≤ 1013) {i : Int32} (hi : ¬ (i < 0 ∨ (x_txt r).length ≤ i.toNatClampNeg)) : Met l yJ1_charAt_3b067 (Cond.code yJ1_charAt_3b067 cJ1_charAt_3b067 2 (some .char) :: x_tb) ({ frames := 2, cells := 0, slots := 0, locals := 43 }) (va_Pc [.ref av, .int i] (fun U => x_Str ad b0 U ∧ va_T .byte av (x_txt r).length (fun j => .int ((x_txt r).getD j 0)) (fun q => b0 ≤ q) U U.heap)) (vp_Si (fun v => v = (x_txt r).getD i.toNatClampNeg 0)) 0 0 (fun _ => False) := by
  refine Met.ofW (cc := cJ1_charAt_3b067) (maxL := 2) (ret := (some .char)) (by decide +kernel) rfl ?_
  intro p e s m args below meth c s₁ B hml hv
  obtain ⟨rfl, hF, hT⟩ := hv
  have hx := B.exec
  have hb := B.bytes
  have hr := B.returns
  have hts0 := atoms_spec B.pre
  have hts : ∀ w ∈ x_tb, w.before _ s = true := fun w h => hts0 w (List.mem_cons_of_mem _ h)
  have hown := findClass_of_methodNamed B.named
  have hlocks := B.notSynchronized
  have hS : va_S (fun q => b0 ≤ q) s.heap s.heap [] := va_S.rf
  have hl := lv_entry ([.ref av, .int i]) (n := 2) (Nat.le_of_ble_eq_true rfl)
  rw [lg_entry_eq]
  generalize (lg_sl ([.ref av, .int i]) ++ List.replicate (2 - (lg_sl ([.ref av, .int i])).length) Slot.unset).toArray = ls at hl ⊢
  have hl : lv_has ls 2 [(0, .ref av), (1, .int i)] := hl
  obtain ⟨hi0, hin⟩ := x_in_lt hi (x_txt_len r h1 h2)
  obtain ⟨hc1, hc2⟩ := x_txt_ch r h1 h2 _ (x_getD_mem (j := i.toNatClampNeg) (Nat.not_le.mp fun q => hi (Or.inr q)))
  refine lv_iload_n hx hb dJ1_charAt_3b067_0 rfl (lv_at hl 1 rfl) ?_
  refine lv_aload_n hx hb dJ1_charAt_3b067_1 rfl (lv_at hl 0 rfl) ?_
  refine va_tlen hx hb hT hS rfl dJ1_charAt_3b067_2 ?_
  refine va_csv (W.runS (As := [.int i, .int (Int32.ofNat (x_txt r).length)]) (rest := []) ⟨hx, hb, hml, hown, hts⟩ (xj_check l ad b0 hi0 hin) ⟨callB_of 2 hts (x_goodIn xj_c_checkIndex) rfl rfl rfl (hts _ xj_n_RJ0) (hts _ xj_m9_checkIndex) ⟨by decide +kernel, by decide +kernel, by decide +kernel⟩ ⟨Nat.le_of_ble_eq_true rfl, Nat.le_of_ble_eq_true rfl⟩, hts _ xj_t_checkIndex⟩ ⟨x_Str.blind, x_Str.pre hS hF⟩ rfl rfl hl.1 rfl (lv_room (Nat.le_of_ble_eq_true rfl)) dJ1_charAt_3b067_3 ⟨Nat.zero_le _, Nat.zero_le _⟩) (fun _ => ?_)
  refine lv_aload_n hx hb dJ1_charAt_3b067_6 rfl (lv_at hl 0 rfl) ?_
  refine lv_iload_n hx hb dJ1_charAt_3b067_7 rfl (lv_at hl 1 rfl) ?_
  refine va_tb hx hb hT hS hi rfl dJ1_charAt_3b067_8 ?_
  refine lv_sipush hx hb dJ1_charAt_3b067_9 rfl ?_
  refine lv_iand hx hb dJ1_charAt_3b067_12 ?_
  refine lv_i2c hx hb dJ1_charAt_3b067_13 hc1 ?_
  exact W.zret (ty := .char) hx hb hr hc2 (fun t ht _ => ⟨_, rfl, rfl, ht⟩) (fun _ h => by cases h) dJ1_charAt_3b067_14
set_option maxRecDepth 100000 in
theorem xj_charAt (l : Launch) (ad : Nat → Nat) (b0 : Nat) {r : Nat} (h1 : 1010 ≤ r) (h2 : r ≤ 1013) {i : Int32} (hi : ¬ (i < 0 ∨ (x_txt r).length ≤ i.toNatClampNeg)) : Met l yJ0_charAt_5068e (Cond.code yJ0_charAt_5068e cJ0_charAt_5068e 2 (some .char) :: x_tb) ({ frames := 3, cells := 0, slots := 0, locals := 64 }) (va_Pc [.ref (ad r), .int i] (fun U => x_Str ad b0 U)) (vp_Si (fun v => v = (x_txt r).getD i.toNatClampNeg 0)) 0 0 (fun _ => False) := by
  refine Met.ofW (cc := cJ0_charAt_5068e) (maxL := 2) (ret := (some .char)) (by decide +kernel) rfl ?_
  intro p e s m args below meth c s₁ B hml hv
  obtain ⟨rfl, hF⟩ := hv
  have hx := B.exec
  have hb := B.bytes
  have hr := B.returns
  have hts0 := atoms_spec B.pre
  have hts : ∀ w ∈ x_tb, w.before _ s = true := fun w h => hts0 w (List.mem_cons_of_mem _ h)
  have hown := findClass_of_methodNamed B.named
  have hlocks := B.notSynchronized
  have hS : va_S (fun q => b0 ≤ q) s.heap s.heap [] := va_S.rf
  have hl := lv_entry ([.ref (ad r), .int i]) (n := 2) (Nat.le_of_ble_eq_true rfl)
  rw [lg_entry_eq]
  generalize (lg_sl ([.ref (ad r), .int i]) ++ List.replicate (2 - (lg_sl ([.ref (ad r), .int i])).length) Slot.unset).toArray = ls at hl ⊢
  have hl : lv_has ls 2 [(0, .ref (ad r)), (1, .int i)] := hl
  obtain ⟨g1, g2, av, g3, g4⟩ := hF.1 r h1 h2
  obtain ⟨hc1, hc2⟩ := x_txt_ch r h1 h2 _ (x_getD_mem (j := i.toNatClampNeg) (Nat.not_le.mp fun q => hi (Or.inr q)))
  have hrcv : ∃ cellB : Cell, s.heap[ad r]? = some cellB ∧ cellB.vm.isStatics = false ∧ s.vm.findClass "java/lang/String" = some cellB.cls := by
    obtain ⟨cell, q1, q2, q3, -⟩ := g1
    exact ⟨cell, q1, q2, q3⟩
  refine lv_aload_n hx hb dJ0_charAt_5068e_0 rfl (lv_at hl 0 rfl) ?_
  refine vp_callSi (W.runV (As := []) (rest := []) (C := RJ0) ⟨hx, hb, hml, hown, hts⟩ (xj_isLatin1 l ad b0 h1 h2) ⟨callB_of 0 hts (x_goodIn xj_c_isLatin1) rfl rfl rfl (hts _ xj_n_RJ0) (hts _ xj_m492_isLatin1) ⟨by decide +kernel, by decide +kernel, by decide +kernel⟩ ⟨Nat.le_of_ble_eq_true rfl, Nat.le_of_ble_eq_true rfl⟩, hts _ xj_i_isLatin1, hts _ xj_s_isLatin1⟩ ⟨x_Str.blind, hrcv, x_Str.pre hS hF⟩ rfl rfl hl.1 rfl (lv_room (Nat.le_of_ble_eq_true rfl)) dJ0_charAt_5068e_1 ⟨Nat.zero_le _, Nat.zero_le _⟩) (fun v hv => ?_)
  subst hv
  refine lv_if_eq (tgt := 16) hx hb dJ0_charAt_5068e_4 rfl (fun h => absurd h (by decide)) (fun _ => ?_)
  refine lv_aload_n hx hb dJ0_charAt_5068e_7 rfl (lv_at hl 0 rfl) ?_
  refine vk_getf hx hb g3 hS hown (hts _ xj_f9) (fun _ h => h) dJ0_charAt_5068e_8 ?_
  refine lv_iload_n hx hb dJ0_charAt_5068e_11 rfl (lv_at hl 1 rfl) ?_
  refine vp_callSi (W.runS (As := [.ref av, .int i]) (rest := []) ⟨hx, hb, hml, hown, hts⟩ (xj_lcharAt l ad b0 h1 h2 hi) ⟨callB_of 2 hts (x_goodIn xj_c_lcharAt) rfl rfl rfl (hts _ xj_n_RJ1) (hts _ xj_m495_lcharAt) ⟨by decide +kernel, by decide +kernel, by decide +kernel⟩ ⟨Nat.le_of_ble_eq_true rfl, Nat.le_of_ble_eq_true rfl⟩, hts _ xj_t_lcharAt⟩ ⟨fun a U g mk q => ⟨q.1, x_Str.to (s := U) (U := U.calling g mk a) (Vm.Alike.refl U.vm) (fun _ _ _ => rfl) q.2.1, va_T.moved (u := U) (U := U.calling g mk a) (Vm.Alike.refl U.vm) q.2.2⟩, fun U hU hW => ⟨rfl, hF.to hW.alike (fun a h1 h2 => by rw [hU]), va_T.moved hW.alike (by rw [hU]; exact g4)⟩⟩ rfl rfl hl.1 rfl (lv_room (Nat.le_of_ble_eq_true rfl)) dJ0_charAt_5068e_12 ⟨Nat.zero_le _, Nat.zero_le _⟩) (fun v hv => ?_)
  subst hv
  exact W.zret (ty := .char) hx hb hr hc2 (fun t ht _ => ⟨_, rfl, rfl, ht⟩) (fun _ h => by cases h) dJ0_charAt_5068e_15
set_option maxRecDepth 100000 in
theorem xj_length (l : Launch) (ad : Nat → Nat) (b0 : Nat) {r : Nat} (h1 : 1010 ≤ r) (h2 : r ≤ 1013) : Met l yJ0_length_8abf5 (Cond.code yJ0_length_8abf5 cJ0_length_8abf5 1 (some .int) :: x_tb) ({ frames := 1, cells := 0, slots := 0, locals := 20 }) (va_Pc [.ref (ad r)] (fun U => x_Str ad b0 U)) (vp_Si (fun v => v = Int32.ofNat (x_txt r).length)) 0 0 (fun _ => False) := by
  refine Met.ofW (cc := cJ0_length_8abf5) (maxL := 1) (ret := (some .int)) (by decide +kernel) rfl ?_
  intro p e s m args below meth c s₁ B hml hv
  obtain ⟨rfl, hF⟩ := hv
  have hx := B.exec
  have hb := B.bytes
  have hr := B.returns
  have hts0 := atoms_spec B.pre
  have hts : ∀ w ∈ x_tb, w.before _ s = true := fun w h => hts0 w (List.mem_cons_of_mem _ h)
  have hown := findClass_of_methodNamed B.named
  have hlocks := B.notSynchronized
  have hS : va_S (fun q => b0 ≤ q) s.heap s.heap [] := va_S.rf
  have hl := lv_entry ([.ref (ad r)]) (n := 1) (Nat.le_of_ble_eq_true rfl)
  rw [lg_entry_eq]
  generalize (lg_sl ([.ref (ad r)]) ++ List.replicate (1 - (lg_sl ([.ref (ad r)])).length) Slot.unset).toArray = ls at hl ⊢
  have hl : lv_has ls 1 [(0, .ref (ad r))] := hl
  obtain ⟨g1, g2, av, g3, g4⟩ := hF.1 r h1 h2
  have hrcv : ∃ cellB : Cell, s.heap[ad r]? = some cellB ∧ cellB.vm.isStatics = false ∧ s.vm.findClass "java/lang/String" = some cellB.cls := by
    obtain ⟨cell, q1, q2, q3, -⟩ := g1
    exact ⟨cell, q1, q2, q3⟩
  refine lv_aload_n hx hb dJ0_length_8abf5_0 rfl (lv_at hl 0 rfl) ?_
  refine vk_getf hx hb g3 hS hown (hts _ xj_f9) (fun _ h => h) dJ0_length_8abf5_1 ?_
  refine va_tlen hx hb g4 hS rfl dJ0_length_8abf5_4 ?_
  refine lv_aload_n hx hb dJ0_length_8abf5_5 rfl (lv_at hl 0 rfl) ?_
  refine vp_callSi (W.runV (As := []) (rest := [.int (Int32.ofNat (x_txt r).length)]) (C := RJ0) ⟨hx, hb, hml, hown, hts⟩ (xj_coder l ad b0 h1 h2) ⟨callB_of 0 hts (x_goodIn xj_c_coder) rfl rfl rfl (hts _ xj_n_RJ0) (hts _ xj_m335_coder) ⟨by decide +kernel, by decide +kernel, by decide +kernel⟩ ⟨Nat.le_of_ble_eq_true rfl, Nat.le_of_ble_eq_true rfl⟩, hts _ xj_i_coder, hts _ xj_s_coder⟩ ⟨x_Str.blind, hrcv, x_Str.pre hS hF⟩ rfl rfl hl.1 rfl (lv_room (Nat.le_of_ble_eq_true rfl)) dJ0_length_8abf5_6 ⟨Nat.zero_le _, Nat.zero_le _⟩) (fun v hv => ?_)
  subst hv
  refine lv_ishr hx hb dJ0_length_8abf5_9 ?_
  have he : Int32.ofNat (x_txt r).length >>> ((0 : Int32) &&& 31) = Int32.ofNat (x_txt r).length := by
    have hr4 : r = 1010 ∨ r = 1011 ∨ r = 1012 ∨ r = 1013 := by omega
    rcases hr4 with rfl | rfl | rfl | rfl <;> decide +kernel
  rw [he]
  exact W.iret hx hb hr (fun t ht _ => ⟨_, rfl, rfl, ht⟩) (fun _ h => by cases h) dJ0_length_8abf5_10

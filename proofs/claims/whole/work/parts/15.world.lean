/-! ===== the world of a memory: cells at ad k; locals ===== -/
def x_tv (ad : Nat → Nat) (v : Value) : Value := match v with
  | .ref a => .ref (ad a)
  | v => v
theorem x_tv_cat (ad : Nat → Nat) (v : Value) : (x_tv ad v).category = v.category := by cases v <;> rfl
def x_fval (ad : Nat → Nat) (μ : x_Mem) (r j k : Nat) : Value := match k with
  | 0 => .int (μ.1 r j)
  | 1 => .long (μ.2.1 r j)
  | _ => va_rf ((μ.2.2 r j).map ad)
def x_fs (ad : Nat → Nat) (μ : x_Mem) (r c : Nat) : List Value := (x_fks c).mapIdx (fun j k => x_fval ad μ r j k)
theorem x_fs_get {ad : Nat → Nat} {μ : x_Mem} {r c j k : Nat} (h : (x_fks c)[j]? = some k) : (x_fs ad μ r c)[j]? = some (x_fval ad μ r j k) := by
  unfold x_fs
  rw [List.getElem?_mapIdx, h]
  rfl
theorem x_fs_len (ad : Nat → Nat) (μ : x_Mem) (r c : Nat) : (x_fs ad μ r c).length = (x_fks c).length := by
  unfold x_fs
  exact List.length_mapIdx
/-- one field changes -/
theorem x_fs_set {ad : Nat → Nat} {μ μ' : x_Mem} {r c j k : Nat} {v : Value} (h : (x_fks c)[j]? = some k) (hv : x_fval ad μ' r j k = v) (ho : ∀ i t, i ≠ j → x_fval ad μ' r i t = x_fval ad μ r i t) : (x_fs ad μ r c).set j v = x_fs ad μ' r c := by
  have hj : j < (x_fks c).length := (List.getElem?_eq_some_iff.mp h).1
  apply List.ext_getElem?
  intro i
  by_cases hij : j = i
  · subst hij
    rw [List.getElem?_set_self (by rw [x_fs_len]; exact hj), x_fs_get h, hv]
  · rw [List.getElem?_set_ne hij]
    cases hi : (x_fks c)[i]? with
    | none =>
      unfold x_fs
      rw [List.getElem?_mapIdx, List.getElem?_mapIdx, hi]
      rfl
    | some t => rw [x_fs_get hi, x_fs_get hi, ho i t (Ne.symm hij)]
def x_cell (ad : Nat → Nat) (cA : Nat → ClassId) (μ : x_Mem) (r : Nat) : va_E := match (x_shp r).1 with
  | 0 => .inl (cA 0, (x_shp r).2, .inl (μ.1 r))
  | 1 => .inl (cA 1, (x_shp r).2, .inl (μ.1 r))
  | 2 => .inl (cA 2, (x_shp r).2, .inr (.inl (μ.2.1 r)))
  | 3 => .inl (cA 3, (x_shp r).2, .inr (.inr (.inr (.inr (fun i => (μ.2.2 r i).map ad)))))
  | c => .inr (c - 10, x_fs ad μ r (c - 10))
theorem x_cell_same {ad : Nat → Nat} {cA : Nat → ClassId} {μ μ' : x_Mem} {r : Nat} (h1 : μ'.1 r = μ.1 r) (h2 : μ'.2.1 r = μ.2.1 r) (h3 : μ'.2.2 r = μ.2.2 r) : x_cell ad cA μ' r = x_cell ad cA μ r := by
  have hf : ∀ j k, x_fval ad μ' r j k = x_fval ad μ r j k := by
    intro j k
    unfold x_fval
    rw [h1, h2, h3]
  have hs : ∀ c, x_fs ad μ' r c = x_fs ad μ r c := by
    intro c
    unfold x_fs
    simp only [hf]
  unfold x_cell
  simp only [h1, h2, h3, hs]
theorem x_cell_0 {ad : Nat → Nat} {cA : Nat → ClassId} {μ : x_Mem} {r : Nat} (h : (x_shp r).1 = 0) : x_cell ad cA μ r = .inl (cA 0, (x_shp r).2, .inl (μ.1 r)) := by simp only [x_cell, h]
theorem x_cell_1 {ad : Nat → Nat} {cA : Nat → ClassId} {μ : x_Mem} {r : Nat} (h : (x_shp r).1 = 1) : x_cell ad cA μ r = .inl (cA 1, (x_shp r).2, .inl (μ.1 r)) := by simp only [x_cell, h]
theorem x_cell_2 {ad : Nat → Nat} {cA : Nat → ClassId} {μ : x_Mem} {r : Nat} (h : (x_shp r).1 = 2) : x_cell ad cA μ r = .inl (cA 2, (x_shp r).2, .inr (.inl (μ.2.1 r))) := by simp only [x_cell, h]
theorem x_cell_3 {ad : Nat → Nat} {cA : Nat → ClassId} {μ : x_Mem} {r : Nat} (h : (x_shp r).1 = 3) : x_cell ad cA μ r = .inl (cA 3, (x_shp r).2, .inr (.inr (.inr (.inr (fun i => (μ.2.2 r i).map ad))))) := by simp only [x_cell, h]
theorem x_cell_o {ad : Nat → Nat} {cA : Nat → ClassId} {μ : x_Mem} {r c : Nat} (h : (x_shp r).1 = 10 + c) : x_cell ad cA μ r = .inr (c, x_fs ad μ r c) := by
  unfold x_cell
  rw [h, Nat.add_comm 10 c]
  show Sum.inr (c + 10 - 10, x_fs ad μ r (c + 10 - 10)) = _
  rw [Nat.add_sub_cancel]
def x_wl (ad : Nat → Nat) (cA : Nat → ClassId) (μ : x_Mem) (n : Nat) : va_W := (List.range n).map (fun k => (ad k, x_cell ad cA μ k))
theorem x_wl_get {ad : Nat → Nat} {cA : Nat → ClassId} {μ : x_Mem} {n k : Nat} (hk : k < n) : (x_wl ad cA μ n)[k]? = some (ad k, x_cell ad cA μ k) := by
  unfold x_wl
  rw [List.getElem?_map, List.getElem?_range hk]
  rfl
theorem x_wl_len (ad : Nat → Nat) (cA : Nat → ClassId) (μ : x_Mem) (n : Nat) : (x_wl ad cA μ n).length = n := by
  unfold x_wl
  rw [List.length_map, List.length_range]
theorem x_wl_inv {ad : Nat → Nat} {cA : Nat → ClassId} {μ : x_Mem} {n k : Nat} {q : Nat × va_E} (h : (x_wl ad cA μ n)[k]? = some q) : k < n ∧ q = (ad k, x_cell ad cA μ k) := by
  have hk : k < n := by
    have := (List.getElem?_eq_some_iff.mp h).1
    rwa [x_wl_len] at this
  rw [x_wl_get hk] at h
  cases h
  exact ⟨hk, rfl⟩
theorem x_wl_none {ad : Nat → Nat} {cA : Nat → ClassId} {μ : x_Mem} {n k : Nat} (h : ¬ k < n) : (x_wl ad cA μ n)[k]? = none := by
  rw [List.getElem?_eq_none_iff, x_wl_len]
  omega
theorem x_wl_set {ad : Nat → Nat} {cA : Nat → ClassId} {μ μ' : x_Mem} {n k : Nat} {e : va_E} (hk : k < n) (he : x_cell ad cA μ' k = e) (ho : ∀ j, j ≠ k → x_cell ad cA μ' j = x_cell ad cA μ j) : (x_wl ad cA μ n).set k (ad k, e) = x_wl ad cA μ' n := by
  apply List.ext_getElem?
  intro i
  by_cases hik : k = i
  · subst hik
    rw [List.getElem?_set_self (by rw [x_wl_len]; exact hk), x_wl_get hk, he]
  · rw [List.getElem?_set_ne hik]
    by_cases hi : i < n
    · rw [x_wl_get hi, x_wl_get hi, ho i (Ne.symm hik)]
    · rw [x_wl_none hi, x_wl_none hi]
theorem x_wl_D {ad : Nat → Nat} {cA : Nat → ClassId} {μ : x_Mem} {n b0 N : Nat} (had : ∀ k, k < N → ad k = b0 + k) (hn : n ≤ N) : va_D (fun q => b0 ≤ q) (x_wl ad cA μ n) := by
  refine ⟨fun i j p q hi hj hpq => ?_, fun k q hk => ?_⟩
  · obtain ⟨h1, rfl⟩ := x_wl_inv hi
    obtain ⟨h2, rfl⟩ := x_wl_inv hj
    have h3 : ad i = ad j := hpq
    rw [had i (by omega), had j (by omega)] at h3
    omega
  · obtain ⟨h1, rfl⟩ := x_wl_inv hk
    show b0 ≤ ad k
    rw [had k (by omega)]
    omega
/-- a new cell -/
theorem x_wl_P {ad : Nat → Nat} {cA : Nat → ClassId} {D : va_G} {cl : List vw_C} {μ μ' : x_Mem} {n : Nat} {H H1 : Heap} (hP : va_P D cl (x_wl ad cA μ n) H) (ho : ∀ j, j ≠ n → x_cell ad cA μ' j = x_cell ad cA μ j) (hk : ∀ q, q < H.size → H1[q]? = H[q]?) (hn : va_at D cl (ad n, x_cell ad cA μ' n) H1) : va_P D cl (x_wl ad cA μ' (n + 1)) H1 := by
  intro k q hq
  obtain ⟨h1, rfl⟩ := x_wl_inv hq
  by_cases hkn : k = n
  · subst hkn
    exact hn
  · have h2 : k < n := by omega
    have h3 := hP k _ (x_wl_get h2)
    rw [ho k hkn]
    exact h3.kept (hk _ h3.lt)
/-! locals -/
def x_lr (ad : Nat → Nat) (als : x_Ls) (ls : Array Slot) : Prop := ls.size = als.length ∧ lv_wf ls ∧ ∀ i v, x_lg als i = some v → ls[i]? = some (.val (x_tv ad v))
def x_ll (ad : Nat → Nat) (als : x_Ls) : List (Nat × Value) := (List.range als.length).filterMap (fun i => (x_lg als i).map (fun v => (i, x_tv ad v)))
theorem x_lg_lt {als : x_Ls} {i : Nat} {v : Value} (h : x_lg als i = some v) : i < als.length := by
  unfold x_lg at h
  cases h2 : als[i]? with
  | none => rw [h2] at h; cases h
  | some x => exact (List.getElem?_eq_some_iff.mp h2).1
theorem x_ll_mem {ad : Nat → Nat} {als : x_Ls} {q : Nat × Value} : q ∈ x_ll ad als ↔ ∃ v, x_lg als q.1 = some v ∧ q.2 = x_tv ad v := by
  unfold x_ll
  rw [List.mem_filterMap]
  constructor
  · rintro ⟨i, -, h⟩
    cases hv : x_lg als i with
    | none => rw [hv] at h; cases h
    | some v => rw [hv] at h; cases h; exact ⟨v, hv, rfl⟩
  · rintro ⟨v, h1, h2⟩
    refine ⟨q.1, List.mem_range.mpr (x_lg_lt h1), ?_⟩
    rw [h1]
    show some (q.1, x_tv ad v) = some q
    rw [← h2]
theorem x_lr.has {ad : Nat → Nat} {als : x_Ls} {ls : Array Slot} (h : x_lr ad als ls) : lv_has ls als.length (x_ll ad als) := by
  refine ⟨h.1, h.2.1, fun q hq => ?_⟩
  obtain ⟨v, h1, h2⟩ := x_ll_mem.mp hq
  rw [h2]
  exact h.2.2 _ _ h1
theorem x_lr.of {ad : Nat → Nat} {als : x_Ls} {ls : Array Slot} {n : Nat} {l : List (Nat × Value)} (h : lv_has ls n l) (hn : als.length = n) (hl : ∀ i v, x_lg als i = some v → (i, x_tv ad v) ∈ l) : x_lr ad als ls :=
  ⟨h.1.trans hn.symm, h.2.1, fun i v hv => h.2.2 _ (hl i v hv)⟩
theorem x_lg_set {als : x_Ls} {i j : Nat} {x : Option Value} (h : i ≠ j) : x_lg (als.set i x) j = x_lg als j := by
  unfold x_lg
  rw [List.getElem?_set_ne h]
theorem x_lg_self {als : x_Ls} {i : Nat} {x : Option Value} {v : Value} (h : x_lg (als.set i x) i = some v) : x = some v := by
  have hl := x_lg_lt h
  rw [List.length_set] at hl
  unfold x_lg at h
  rw [List.getElem?_set_self hl] at h
  exact h
theorem x_un_len (als : x_Ls) (i : Nat) : (x_un als i).length = als.length := by
  unfold x_un
  split
  · rfl
  · split
    · split
      · rw [List.length_set]
      · rfl
    · rfl
theorem x_un_get {als : x_Ls} {i j : Nat} {v : Value} (h : x_lg (x_un als i) j = some v) : x_lg als j = some v ∧ ¬ (j + 1 = i ∧ v.category = 2) := by
  unfold x_un at h
  split at h
  · exact ⟨h, fun q => by omega⟩
  · rename_i k
    split at h
    · rename_i w hw
      split at h
      · rename_i hc
        by_cases hj : k = j
        · subst hj
          have := x_lg_self h
          cases this
        · rw [x_lg_set hj] at h
          exact ⟨h, fun q => by omega⟩
      · rename_i hc
        refine ⟨h, fun q => ?_⟩
        have hj : j = k := by omega
        subst hj
        rw [h] at hw
        cases hw
        exact hc q.2
    · rename_i hw
      refine ⟨h, fun q => ?_⟩
      have hj : j = k := by omega
      subst hj
      rw [h] at hw
      cases hw
theorem x_lr.st1 {ad : Nat → Nat} {als : x_Ls} {ls : Array Slot} {i : Nat} {v : Value} (h : lv_has ls als.length ((i, x_tv ad v) :: (x_ll ad als).filter (fun q => !(q.1 == i) && !(q.1 + 1 == i && q.2.category == 2)))) : x_lr ad (x_st1 als i v) ls := by
  refine x_lr.of h ?_ fun j w hw => ?_
  · unfold x_st1
    rw [List.length_set, x_un_len]
  · unfold x_st1 at hw
    by_cases hj : i = j
    · subst hj
      cases x_lg_self hw
      exact List.mem_cons_self
    · rw [x_lg_set hj] at hw
      obtain ⟨h1, h2⟩ := x_un_get hw
      refine List.mem_cons_of_mem _ (List.mem_filter.mpr ⟨x_ll_mem.mpr ⟨w, h1, rfl⟩, ?_⟩)
      simp only [Bool.and_eq_true, Bool.not_eq_true', beq_eq_false_iff_ne, ne_eq, Bool.and_eq_false_iff, x_tv_cat]
      refine ⟨fun e => hj e.symm, ?_⟩
      by_cases h3 : j + 1 = i
      · exact Or.inr (fun e => h2 ⟨h3, e⟩)
      · exact Or.inl h3
theorem x_lr.st2 {ad : Nat → Nat} {als : x_Ls} {ls : Array Slot} {i : Nat} {v : Value} (h : lv_has ls als.length ((i, x_tv ad v) :: (x_ll ad als).filter (fun q => !(q.1 == i) && (!(q.1 == i + 1) && !(q.1 + 1 == i && q.2.category == 2))))) : x_lr ad (x_st2 als i v) ls := by
  refine x_lr.of h ?_ fun j w hw => ?_
  · unfold x_st2
    rw [List.length_set, List.length_set, x_un_len]
  · unfold x_st2 at hw
    by_cases hj1 : i + 1 = j
    · subst hj1
      cases x_lg_self hw
    · rw [x_lg_set hj1] at hw
      by_cases hj : i = j
      · subst hj
        cases x_lg_self hw
        exact List.mem_cons_self
      · rw [x_lg_set hj] at hw
        obtain ⟨h1, h2⟩ := x_un_get hw
        refine List.mem_cons_of_mem _ (List.mem_filter.mpr ⟨x_ll_mem.mpr ⟨w, h1, rfl⟩, ?_⟩)
        simp only [Bool.and_eq_true, Bool.not_eq_true', beq_eq_false_iff_ne, ne_eq, Bool.and_eq_false_iff, x_tv_cat]
        refine ⟨fun e => hj e.symm, fun e => hj1 e.symm, ?_⟩
        by_cases h3 : j + 1 = i
        · exact Or.inr (fun e => h2 ⟨h3, e⟩)
        · exact Or.inl h3
theorem x_av_len (ad : Nat → Nat) : ∀ (l : List Value), (lg_sl (l.map (x_tv ad))).length = (x_av l).length
  | [] => rfl
  | v :: l => by
    have ih := x_av_len ad l
    unfold lg_sl at ih ⊢
    rw [List.map_cons, List.flatMap_cons, List.length_append, ih, x_tv_cat, x_av]
    by_cases hc : v.category = 2
    · rw [if_pos hc, if_pos hc]
      simp only [List.length_cons, List.length_nil]
      omega
    · rw [if_neg hc, if_neg hc]
      simp only [List.length_cons, List.length_nil]
      omega
theorem x_av_mem (ad : Nat → Nat) : ∀ (l : List Value) (o i : Nat) (v : Value), x_lg (x_av l) i = some v → (o + i, x_tv ad v) ∈ lv_args o (l.map (x_tv ad))
  | [], o, i, v, h => by cases h
  | w :: l, o, i, v, h => by
    rw [x_av] at h
    rw [List.map_cons, lv_args, x_tv_cat]
    by_cases hc : w.category = 2
    · rw [if_pos hc] at h ⊢
      match i, h with
      | 0, h => cases h; exact List.mem_cons_self
      | 1, h => cases h
      | i + 2, h =>
        have := x_av_mem ad l (o + 2) i v h
        rw [show o + 2 + i = o + (i + 2) by omega] at this
        exact List.mem_cons_of_mem _ this
    · rw [if_neg hc] at h ⊢
      match i, h with
      | 0, h => cases h; exact List.mem_cons_self
      | i + 1, h =>
        have := x_av_mem ad l (o + 1) i v h
        rw [show o + 1 + i = o + (i + 1) by omega] at this
        exact List.mem_cons_of_mem _ this
theorem x_ent_lr {ad : Nat → Nat} {l : List Value} {n : Nat} (h : (x_av l).length ≤ n) : x_lr ad (x_ent n l) ((lg_sl (l.map (x_tv ad)) ++ List.replicate (n - (lg_sl (l.map (x_tv ad))).length) Slot.unset).toArray) := by
  refine x_lr.of (lv_entry (l.map (x_tv ad)) (n := n) (by rw [x_av_len]; exact h)) ?_ fun i v hv => ?_
  · unfold x_ent
    rw [List.length_append, List.length_replicate]
    omega
  · have : x_lg (x_av l) i = some v := by
      unfold x_ent x_lg at hv
      unfold x_lg
      by_cases hi : i < (x_av l).length
      · rw [List.getElem?_append_left hi] at hv
        exact hv
      · rw [List.getElem?_append_right (by omega)] at hv
        exfalso
        cases h2 : (List.replicate (n - (x_av l).length) (none : Option Value))[i - (x_av l).length]? with
        | none => rw [h2] at hv; cases hv
        | some y =>
          have := List.eq_of_mem_replicate (List.mem_of_getElem? h2)
          subst this
          rw [h2] at hv
          cases hv
    have h2 := x_av_mem ad l 0 i v this
    rwa [Nat.zero_add] at h2

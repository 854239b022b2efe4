/-! ===== what a method's walk stands on: the tables' words, the cells that aren't ours, the world ===== -/
def x_en (E : Nat) : String := match E with
  | 0 => "java/lang/IllegalStateException"
  | 1 => "java/lang/IllegalArgumentException"
  | 2 => "java/lang/IndexOutOfBoundsException"
  | _ => "java/util/NoSuchElementException"
def x_et (E : Nat) : String := match E with
  | 0 => "the sale does not allow this now"
  | 1 => "a number is out of its range"
  | 2 => "a thing with this number does not exist"
  | _ => "there is none"
/-- the constructors' bytes: all call by index 7 but NoSuchElementException's -/
def x_ex (E : Nat) : Nat × ByteArray := match E with
  | 3 => (13, ⟨#[0x2a, 0x2b, 0xb7, 0x00, 0x0d, 0xb1]⟩)
  | _ => (7, Bundle.six)
theorem x_ex_ok : ∀ E, x_rxOK (x_ex E).1 (x_ex E).2 := by
  intro E
  match E with
  | 0 => exact ⟨by decide +kernel, by decide +kernel, by decide +kernel, by decide +kernel⟩
  | 1 => exact ⟨by decide +kernel, by decide +kernel, by decide +kernel, by decide +kernel⟩
  | 2 => exact ⟨by decide +kernel, by decide +kernel, by decide +kernel, by decide +kernel⟩
  | 3 => exact ⟨by decide +kernel, by decide +kernel, by decide +kernel, by decide +kernel⟩
  | _ + 4 => exact ⟨Bundle.six_0, Bundle.six_1, Bundle.six_2, Bundle.six_5⟩
def x_thw (E : Nat) : List Cond := Cond.classLink "TimberSale" (x_ek E).1 (x_en E) :: Cond.initialized (x_en E) :: (x_oat "TimberSale" (x_ek E).2.2 (x_en E) (x_ex E).1 (x_ex E).2).filter vx_no
/-- words that go along with a state -/
def x_ng (w : Cond) : Bool := match w with
  | .declares _ => true
  | .castable _ _ => true
  | .fieldLinkNest _ _ _ _ _ _ => true
  | .methodLinkNest _ _ _ _ => true
  | w => w.onTables && w.keeps
theorem x_ng_warm {w : Cond} (hw : x_ng w = true) {s U : State} (hW : s.WarmedH U.vm) (h : va_Nw w s) : va_Nw w U := by
  cases w
  case declares x => exact va_Nw.warmD hW h
  case castable a b => exact va_Nw.warmC hW h
  case fieldLinkNest a b c d e f => exact va_Nw.warmF hW h
  case methodLinkNest a b c d => exact va_Nw.warmM hW h
  all_goals exact word_at hW (Or.inl hw) h
theorem x_thw_ng : ∀ E, E < 4 → ∀ w ∈ x_thw E, (x_ng w && (w.onTables && vx_ot w)) = true := by decide +kernel
def x_stn (r : Nat) : String := match r with
  | 1001 => "LEAST_NUMBERS"
  | _ => "GREATEST_NUMBERS"
def x_tx (r : Nat) : String := match r with
  | 1010 => "sale"
  | 1011 => "species"
  | 1012 => "plot"
  | _ => " sale species plot "
/-- the texts' cells -/
def x_Str (ad : Nat → Nat) (b0 : Nat) (U : State) : Prop :=
  (∀ r, 1010 ≤ r → r ≤ 1013 → va_O "java/lang/String" (ad r) (fun q => b0 ≤ q) U U.heap ∧ va_OF "java/lang/String" "coder" "B" (.int 0) (ad r) (fun q => b0 ≤ q) U U.heap ∧ ∃ av, va_OF "java/lang/String" "value" "[B" (.ref av) (ad r) (fun q => b0 ≤ q) U U.heap ∧ va_T .byte av (x_txt r).length (fun j => .int ((x_txt r).getD j 0)) (fun q => b0 ≤ q) U U.heap) ∧
  va_Z "java/lang/String" "COMPACT_STRINGS" "Z" (.int 1) (fun q => b0 ≤ q) U U.heap ∧ va_Zq "jdk/internal/util/Preconditions" "SIOOBE_FORMATTER" "Ljava/util/function/BiFunction;" (fun q => b0 ≤ q) U U.heap
/-- what isn't ours -/
def x_Fr (ad : Nat → Nat) (b0 : Nat) (X : x_X) (U : State) : Prop :=
  (∀ r q, x_for X r = some q → va_T .int (ad r) q.1 (fun j => .int (q.2 j)) (fun q => b0 ≤ q) U U.heap) ∧
  (∀ e ∈ x_staT, va_Z "TimberSale" (x_stn e.2) "[I" (.ref (ad e.2)) (fun q => b0 ≤ q) U U.heap ∧ va_Nw (.fieldLinkNest (x_own (e.1 / 1000)) (e.1 % 1000) "TimberSale" (x_stn e.2) "[I" "TimberSale") U) ∧
  (∀ e ∈ x_calT, e.2.1 = 3 → va_Nw (.methodLinkNest (x_own (e.1 / 1000)) (e.1 % 1000) (x_my e.2.2.1) "TimberSale") U) ∧
  (vx_Zq Bundle.tN "UNASSIGNED_STACK" Bundle.steD (fun q => b0 ≤ q) U U.heap ∧ vx_Zq Bundle.tN "SUPPRESSED_SENTINEL" Bundle.listD (fun q => b0 ≤ q) U U.heap) ∧
  (∀ E, E < 4 → (∀ w ∈ x_thw E, va_Nw w U) ∧ (∃ sa, vk_R "TimberSale" (x_ek E).2.1 (x_et E) sa U) ∧ va_Nw (.castable (x_en E) (x_en E)) U ∧ ∀ E', E' < 4 → E ≠ E' → va_Nc (x_en E) (x_en E') U) ∧
  va_AO "TimberSale$Sale" U ∧
  (∀ e ∈ x_strT, vk_R (x_own (e.1 / 1000)) (e.1 % 1000) (x_tx e.2) (ad e.2) U) ∧
  x_Str ad b0 U
theorem x_Fr.to {ad : Nat → Nat} {b0 : Nat} {X : x_X} {s U : State} (hW : s.WarmedH U.vm) (hH : ∀ q, q < b0 → U.heap[q]? = s.heap[q]?) (h : x_Fr ad b0 X s) : x_Fr ad b0 X U := by
  have hk : ∀ a : Nat, a < s.heap.size → ¬ b0 ≤ a → U.heap[a]? = s.heap[a]? := fun a _ h2 => hH a (by omega)
  have hv := hW.alike
  obtain ⟨h1, h2, h3, ⟨h4, h5⟩, h6, h7, h8, h9, h10, h11⟩ := h
  refine ⟨fun r q hq => va_T.moved hv ((h1 r q hq).kept hk), fun e he => ⟨va_Z.moved hv ((h2 e he).1.kept hk), x_ng_warm rfl hW (h2 e he).2⟩, fun e he h0 => x_ng_warm rfl hW (h3 e he h0), ⟨vx_Zq.moved hv (h4.kept hk), vx_Zq.moved hv (h5.kept hk)⟩, fun E hE => ?_, va_AO.moved hv h7, fun e he => vk_R.warm hW (h8 e he), fun r r1 r2 => ?_, va_Z.moved hv (h10.kept hk), va_Zq.moved hv (h11.kept hk)⟩
  · obtain ⟨g1, ⟨sa, g2⟩, g3, g4⟩ := h6 E hE
    refine ⟨fun w hw => x_ng_warm ?_ hW (g1 w hw), ⟨sa, vk_R.warm hW g2⟩, x_ng_warm rfl hW g3, fun E' h0 hne => va_Nc.moved hv (g4 E' h0 hne)⟩
    have := x_thw_ng E hE w hw
    rw [Bool.and_eq_true] at this
    exact this.1
  · obtain ⟨g1, g2, av, g3, g4⟩ := h9 r r1 r2
    exact ⟨va_O.moved hv (g1.kept hk), va_OF.moved hv (g2.kept hk), av, va_OF.moved hv (g3.kept hk), va_T.moved hv (g4.kept hk)⟩
def x_tys (cA : Nat → ClassId) : List (ClassId × FieldType) := [(cA 0, .byte), (cA 1, .int), (cA 2, .long), (cA 3, .object "TimberSale$Sale")]
/-- the world in a heap -/
def x_Wd (ad : Nat → Nat) (b0 : Nat) (D : va_G) (cA : Nat → ClassId) (μ : x_Mem) (n : Nat) (H : Heap) : Prop := va_P D vwCl (x_wl ad cA μ n) H ∧ b0 + n ≤ H.size ∧ (n < x_N → H.size = b0 + n) ∧ n ≤ x_N
/-- .. while a method runs that began in s -/
def x_St (ad : Nat → Nat) (b0 : Nat) (D : va_G) (cA : Nat → ClassId) (s : State) (S : x_S) (H : Heap) (locs : List Loc) : Prop := x_Wd ad b0 D cA S.1 S.2.1 H ∧ va_S (fun q => b0 ≤ q) s.heap H locs
/-- what a method's walk has at hand -/
def x_Cx (ad : Nat → Nat) (b0 : Nat) (D : va_G) (cA : Nat → ClassId) (X : x_X) (p : Program) (l : Launch) (R : Room) (s : State) (m : MethodId) (args : Array Value) (meth : Method) (c : Code) (M : x_MI) : Prop :=
  (∀ k, k < x_N → ad k = b0 + k) ∧ p.tables.exec = Jvm.exec ∧ c.code = x_mb M ∧ c.maxLocals = x_ml M ∧ meth.sig.returnType = x_mr M ∧ s.vm.findClass (x_own (x_mo M)) = some m.cls ∧ (∀ w ∈ x_tb, w.before args s = true) ∧ meth.locks = false ∧ l.stackTraces = false ∧
  c.exceptionTable.toList = tableOf (x_mh M) ∧ x_Fr ad b0 X s ∧ va_K D vwCl (x_tys cA) s ∧ (10 + x_lv M ≤ R.frames ∧ 200 + 80 * x_lv M ≤ R.locals ∧ x_mc M ≤ R.cells ∧ x_ms M ≤ R.slots) ∧ (x_isIni M = true → meth.name = "<init>") ∧ b0 ≤ s.heap.size

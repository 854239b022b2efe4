/-! ===== the interpreter: a memory of ints, longs and references by cell and place; one step; runs ===== -/
abbrev x_Mem : Type := (Nat → Nat → Int32) × (Nat → Nat → Int64) × (Nat → Nat → Option Nat)
/-- memory; cells followed; cells and slots made since the method's entry -/
abbrev x_S : Type := x_Mem × Nat × Nat × Nat
abbrev x_Ls : Type := List (Option Value)
/-- how a method ends: a value or none, or an exception by its number -/
abbrev x_O : Type := Option Value ⊕ Nat
abbrev x_R : Type := Option (x_O × x_Mem × Nat)
/-- the script: its length, its ints -/
abbrev x_X : Type := Nat × (Nat → Int32)
/-- the shape of each cell: 0 to 3 an array (bytes, ints, longs, sales) and its length; 10 + c an object of class c -/
def x_sh0 : List (Nat × Nat) := [(18, 0), (15, 0), (0, 800), (13, 0), (3, 8)]
def x_shS : List (Nat × Nat) := [(16, 0), (17, 0), (1, 7), (1, 6), (1, 6), (12, 0), (1, 180), (10, 0), (1, 6), (1, 48), (1, 8), (1, 8), (11, 0), (1, 6), (1, 6), (1, 72), (2, 36), (14, 0), (1, 60), (1, 60), (1, 60), (1, 60)]
def x_shT : List (Nat × Nat) := [(19, 0), (1, 606), (1, 606), (1, 4848), (2, 37), (2, 296), (1, 800), (2, 1)]
def x_shp (k : Nat) : Nat × Nat := if k < 5 then x_sh0.getD k (99, 0) else if k < 225 then x_shS.getD ((k - 5) % 22) (99, 0) else x_shT.getD (k - 225) (99, 0)
/-- how many cells are followed at most -/
def x_N : Nat := 233
/-- the kinds of a class's fields: 0 int, 1 long, 2 reference -/
def x_fks (c : Nat) : List Nat := match c with
  | 0 => [2, 2, 2, 2, 0, 0]
  | 1 => [2, 2, 2, 2, 0, 0, 0, 1]
  | 2 => [0, 2]
  | 3 => [2, 0, 0]
  | 4 => [0, 0, 0, 2, 2, 2, 2]
  | 5 => [2, 0, 0, 0, 0, 0, 0]
  | 6 => [0, 2, 2, 2, 2, 2]
  | 7 => [0, 2, 2, 2]
  | 8 => [2, 2, 2, 2]
  | 9 => [2, 2, 2, 2, 2, 0, 0, 2, 0, 0, 0, 0, 0, 0, 0, 0, 1, 1, 1]
  | _ => []
def x_least (i : Nat) : Int32 := ([2, 1, 0, 0, 0, 0, 0] : List Int32).getD i 0
def x_great (i : Nat) : Int32 := ([200, 35, 50, 100, 20, 50, 1000000] : List Int32).getD i 0
/-- int arrays that aren't ours: the script, the two static ones -/
def x_for (X : x_X) (r : Nat) : Option (Nat × (Nat → Int32)) := match r with
  | 1000 => some X
  | 1001 => some (7, x_least)
  | 1002 => some (7, x_great)
  | _ => none
/-- the texts -/
def x_txt (r : Nat) : List Int32 := match r with
  | 1010 => [115, 97, 108, 101]
  | 1011 => [115, 112, 101, 99, 105, 101, 115]
  | 1012 => [112, 108, 111, 116]
  | 1013 => [32, 115, 97, 108, 101, 32, 115, 112, 101, 99, 105, 101, 115, 32, 112, 108, 111, 116, 32]
  | _ => []
/-- an int array that can be read -/
def x_arr (X : x_X) (s : x_S) (r : Nat) : Option (Nat × (Nat → Int32)) := if r < s.2.1 then (match (x_shp r).1 with | 1 => some ((x_shp r).2, s.1.1 r) | _ => none) else x_for X r
/-- the length of an array -/
def x_len (X : x_X) (s : x_S) (r : Nat) : Option Nat := if r < s.2.1 then (if (x_shp r).1 < 4 then some (x_shp r).2 else none) else (x_for X r).map (fun q => q.1)
/-- an own array of a kind -/
def x_own_arr (s : x_S) (k r : Nat) : Bool := decide (r < s.2.1) && Nat.beq (x_shp r).1 k
def x_ok (j : Int32) (n : Nat) : Prop := ¬ (j < 0 ∨ n ≤ j.toNatClampNeg)
def x_setI (s : x_S) (r j : Nat) (v : Int32) : x_S := ((va_up s.1.1 r (va_up (s.1.1 r) j v), s.1.2.1, s.1.2.2), s.2)
def x_setL (s : x_S) (r j : Nat) (v : Int64) : x_S := ((s.1.1, va_up s.1.2.1 r (va_up (s.1.2.1 r) j v), s.1.2.2), s.2)
def x_setR (s : x_S) (r j : Nat) (v : Option Nat) : x_S := ((s.1.1, s.1.2.1, va_up s.1.2.2 r (va_up (s.1.2.2 r) j v)), s.2)
def x_rowI (s : x_S) (r : Nat) (f : Nat → Int32) : x_S := ((va_up s.1.1 r f, s.1.2.1, s.1.2.2), s.2)
def x_rowL (s : x_S) (r : Nat) (f : Nat → Int64) : x_S := ((s.1.1, va_up s.1.2.1 r f, s.1.2.2), s.2)
/-- a new followed cell of k slots: its places are 0 -/
def x_mk (s : x_S) (k : Nat) : x_S := ((va_up s.1.1 s.2.1 (fun _ => 0), va_up s.1.2.1 s.2.1 (fun _ => 0), va_up s.1.2.2 s.2.1 (fun _ => none)), s.2.1 + 1, s.2.2.1 + 1, s.2.2.2 + k)
/-! locals -/
def x_lg (ls : x_Ls) (i : Nat) : Option Value := (ls[i]?).join
def x_un (ls : x_Ls) (i : Nat) : x_Ls := match i with
  | 0 => ls
  | j + 1 => match x_lg ls j with
    | some v => if v.category = 2 then ls.set j none else ls
    | none => ls
def x_st1 (ls : x_Ls) (i : Nat) (v : Value) : x_Ls := (x_un ls i).set i (some v)
def x_st2 (ls : x_Ls) (i : Nat) (v : Value) : x_Ls := ((x_un ls i).set i (some v)).set (i + 1) none
/-- the locals at a method's entry -/
def x_av : List Value → x_Ls
  | [] => []
  | v :: l => if v.category = 2 then some v :: none :: x_av l else some v :: x_av l
def x_ent (n : Nat) (l : List Value) : x_Ls := x_av l ++ List.replicate (n - (x_av l).length) none
def x_jm (pc : Nat) (off : Int) : Option Nat := if 0 ≤ (pc : Int) + off then some ((pc : Int) + off).toNat else none
/-- what a step comes to: a state, a return, a call (method, arguments, rest), a throw -/
abbrev x_A : Type := (Nat × x_Ls × List Value × x_S) ⊕ (Option Value ⊕ ((x_MI × List Value × List Value) ⊕ Nat))
def x_go (pc : Nat) (ls : x_Ls) (st : List Value) (s : x_S) : Option x_A := some (.inl (pc, ls, st, s))
def x_cond (c : Jvm.ClassFile.Cond) (x y : Int32) : Bool := match c with
  | .eq => decide (x = y)
  | .ne => decide (¬ x = y)
  | .lt => decide (x < y)
  | .ge => decide (y ≤ x)
  | .gt => decide (y < x)
  | .le => decide (x ≤ y)
def x_cats (st : List Value) : Nat := (st.map fun v => v.category).sum
/-- a field's value -/
def x_fv (s : x_S) (r j k : Nat) : Option Value := match k with
  | 0 => some (.int (s.1.1 r j))
  | 1 => some (.long (s.1.2.1 r j))
  | _ => (s.1.2.2 r j).map .ref
/-- a field takes a value of its kind -/
def x_fp (s : x_S) (r j k : Nat) (v : Value) : Option x_S := match k, v with
  | 0, .int x => some (x_setI s r j x)
  | 1, .long x => some (x_setL s r j x)
  | 2, .ref x => some (x_setR s r j (some x))
  | _, _ => none
def x_isIni (M : x_MI) : Bool := decide ((x_my M).name = "<init>")
def x_key (M : x_MI) (k : Nat) : Nat := x_mo M * 1000 + k
/-- the receiver: a followed object of the method's class; of a constructor any reference -/
def x_rcv (q : Nat) (N : x_MI) (s : x_S) (as : List Value) : Bool := match q with
  | 0 => (match as with | .ref r :: _ => decide (r < s.2.1) && Nat.beq (x_shp r).1 (10 + x_mo N) | _ => false)
  | 2 => (match as with | .ref _ :: _ => true | _ => false)
  | _ => true
def x_qk (q : Nat) : Nat := match q with
  | 0 => 0
  | 2 => 2
  | _ => 1
/-- a call of a kind: 0 virtual, 2 constructor, else static -/
def x_inv (M : x_MI) (k kd : Nat) (st : List Value) (s : x_S) : Option x_A := match x_cal M (x_key M k) with
  | some (q, N, na) => if kd = x_qk q ∧ na ≤ st.length ∧ x_cats (st.drop na) ≤ 8 ∧ x_lv N < x_lv M ∧ s.2.2.1 + x_mc N ≤ x_mc M ∧ s.2.2.2 + x_ms N ≤ x_ms M ∧ k < 1000 ∧ (x_av (st.take na).reverse).length ≤ x_ml N ∧ x_rcv q N s (st.take na).reverse = true then some (.inr (.inr (.inl (N, (st.take na).reverse, st.drop na)))) else none
  | none => none
/-- of an exception: the indices of its class, its text, its constructor -/
def x_ek (E : Nat) : Nat × Nat × Nat := match E with
  | 0 => (347, 349, 351)
  | 1 => (342, 344, 346)
  | 2 => (335, 337, 339)
  | _ => (352, 354, 356)
/-- exceptions that are thrown, that are caught -/
def x_thrT : List (Nat × Nat) := [(8347, 0), (8342, 1), (8335, 2), (8352, 3)]
def x_hanT : List (Nat × Nat) := [(10013, 0), (10019, 1), (10028, 2), (10085, 3)]
/-- 'throw new E(text)' from here on -/
def x_thr (M : x_MI) (pc E : Nat) : Bool := match decode (x_mb M) (pc + 3), decode (x_mb M) (pc + 4), decode (x_mb M) (pc + 7), decode (x_mb M) (pc + 10) with
  | .ok (.dup, 1), .ok (.ldc_w a, 3), .ok (.invokespecial b, 3), .ok (.athrow, 1) => Nat.beq a (x_ek E).2.1 && Nat.beq b (x_ek E).2.2
  | _, _, _, _ => false
def x_atk (t : ArrayType) : Nat := match t with
  | .byte => 0
  | .int => 1
  | .long => 2
  | _ => 99
/-- one instruction of length len -/
def x_step (X : x_X) (M : x_MI) (i : Instr) (len pc : Nat) (ls : x_Ls) (st : List Value) (s : x_S) : Option x_A :=
  match i with
  | .iconst k => x_go (pc + len) ls (.int (Int32.ofInt k) :: st) s
  | .bipush k => x_go (pc + len) ls (.int (Int8.ofInt k).toInt32 :: st) s
  | .sipush k => x_go (pc + len) ls (.int (Int16.ofInt k).toInt32 :: st) s
  | .lconst k => x_go (pc + len) ls (.long (Int64.ofNat k.val) :: st) s
  | .ldc k => if k < 1000 then (match x_look (x_key M k) x_cstT, x_look (x_key M k) x_strT with | some v, _ => x_go (pc + len) ls (.int v :: st) s | none, some r => x_go (pc + len) ls (.ref r :: st) s | none, none => none) else none
  | .ldc2_w k => if k < 1000 then (match x_look (x_key M k) x_cslT with | some v => x_go (pc + len) ls (.long v :: st) s | none => none) else none
  | .iload k => match x_lg ls k with | some (.int v) => x_go (pc + len) ls (.int v :: st) s | _ => none
  | .iload_n k => match x_lg ls k.val with | some (.int v) => x_go (pc + len) ls (.int v :: st) s | _ => none
  | .lload k => match x_lg ls k with | some (.long v) => x_go (pc + len) ls (.long v :: st) s | _ => none
  | .lload_n k => match x_lg ls k.val with | some (.long v) => x_go (pc + len) ls (.long v :: st) s | _ => none
  | .aload k => match x_lg ls k with | some (.ref v) => x_go (pc + len) ls (.ref v :: st) s | _ => none
  | .aload_n k => match x_lg ls k.val with | some (.ref v) => x_go (pc + len) ls (.ref v :: st) s | _ => none
  | .istore k => match st with | .int v :: st => (if k < ls.length then x_go (pc + len) (x_st1 ls k (.int v)) st s else none) | _ => none
  | .istore_n k => match st with | .int v :: st => (if k.val < ls.length then x_go (pc + len) (x_st1 ls k.val (.int v)) st s else none) | _ => none
  | .lstore k => match st with | .long v :: st => (if k + 1 < ls.length then x_go (pc + len) (x_st2 ls k (.long v)) st s else none) | _ => none
  | .lstore_n k => match st with | .long v :: st => (if k.val + 1 < ls.length then x_go (pc + len) (x_st2 ls k.val (.long v)) st s else none) | _ => none
  | .astore k => match st with | .ref v :: st => (if k < ls.length then x_go (pc + len) (x_st1 ls k (.ref v)) st s else none) | _ => none
  | .astore_n k => match st with | .ref v :: st => (if k.val < ls.length then x_go (pc + len) (x_st1 ls k.val (.ref v)) st s else none) | _ => none
  | .iinc k d => match x_lg ls k with | some (.int v) => (if k < ls.length then x_go (pc + len) (x_st1 ls k (.int (v + Int32.ofInt d))) st s else none) | _ => none
  | .iadd => match st with | .int y :: .int x :: st => x_go (pc + len) ls (.int (x + y) :: st) s | _ => none
  | .isub => match st with | .int y :: .int x :: st => x_go (pc + len) ls (.int (x - y) :: st) s | _ => none
  | .imul => match st with | .int y :: .int x :: st => x_go (pc + len) ls (.int (x * y) :: st) s | _ => none
  | .iand => match st with | .int y :: .int x :: st => x_go (pc + len) ls (.int (x &&& y) :: st) s | _ => none
  | .ixor => match st with | .int y :: .int x :: st => x_go (pc + len) ls (.int (x ^^^ y) :: st) s | _ => none
  | .ishr => match st with | .int y :: .int x :: st => x_go (pc + len) ls (.int (x >>> (y &&& 31)) :: st) s | _ => none
  | .idiv => match st with | .int y :: .int x :: st => (if y = 0 then none else x_go (pc + len) ls (.int (x / y) :: st) s) | _ => none
  | .irem => match st with | .int y :: .int x :: st => (if y = 0 then none else x_go (pc + len) ls (.int (x - x / y * y) :: st) s) | _ => none
  | .ineg => match st with | .int x :: st => x_go (pc + len) ls (.int (-x) :: st) s | _ => none
  | .ladd => match st with | .long y :: .long x :: st => x_go (pc + len) ls (.long (x + y) :: st) s | _ => none
  | .lsub => match st with | .long y :: .long x :: st => x_go (pc + len) ls (.long (x - y) :: st) s | _ => none
  | .lmul => match st with | .long y :: .long x :: st => x_go (pc + len) ls (.long (x * y) :: st) s | _ => none
  | .ldiv => match st with | .long y :: .long x :: st => (if y = 0 then none else x_go (pc + len) ls (.long (x / y) :: st) s) | _ => none
  | .lrem => match st with | .long y :: .long x :: st => (if y = 0 then none else x_go (pc + len) ls (.long (x - x / y * y) :: st) s) | _ => none
  | .lneg => match st with | .long x :: st => x_go (pc + len) ls (.long (-x) :: st) s | _ => none
  | .i2l => match st with | .int x :: st => x_go (pc + len) ls (.long x.toInt64 :: st) s | _ => none
  | .l2i => match st with | .long x :: st => x_go (pc + len) ls (.int x.toInt32 :: st) s | _ => none
  | .i2b => match st with | .int x :: st => x_go (pc + len) ls (.int x.toInt8.toInt32 :: st) s | _ => none
  | .lcmp => match st with | .long y :: .long x :: st => x_go (pc + len) ls (.int (lg_cmp x y) :: st) s | _ => none
  | .dup => match st with | v :: st => (if v.category = 1 then x_go (pc + len) ls (v :: v :: st) s else none) | _ => none
  | .dup2 => match st with | v :: w :: st => (if v.category = 1 ∧ w.category = 1 then x_go (pc + len) ls (v :: w :: v :: w :: st) s else none) | _ => none
  | .pop => match st with | v :: st => (if v.category = 1 then x_go (pc + len) ls st s else none) | _ => none
  | .goto off => match x_jm pc off with | some t => x_go t ls st s | none => none
  | .ifCond c off => match st with | .int x :: st => (match x_jm pc off with | some t => (if x_cond c x 0 then x_go t ls st s else x_go (pc + len) ls st s) | none => none) | _ => none
  | .if_icmp c off => match st with | .int y :: .int x :: st => (match x_jm pc off with | some t => (if x_cond c x y then x_go t ls st s else x_go (pc + len) ls st s) | none => none) | _ => none
  | .tableswitch dflt lo hi offs => match st with | .int x :: st => (if x.toInt < lo ∨ hi < x.toInt then (match x_jm pc dflt with | some t => x_go t ls st s | none => none) else (match offs[(x.toInt - lo).toNat]? with | some off => (match x_jm pc off with | some t => x_go t ls st s | none => none) | none => none)) | _ => none
  | .getfield k => match st with | .ref r :: st => (match x_look (x_key M k) x_fldT with | some (ci, j, kd, _) => (if r < s.2.1 ∧ (x_shp r).1 = 10 + ci ∧ k < 1000 then (match x_fv s r j kd with | some v => x_go (pc + len) ls (v :: st) s | none => none) else none) | none => none) | _ => none
  | .putfield k => match st with | v :: .ref r :: st => (match x_look (x_key M k) x_fldT with | some (ci, j, kd, fin) => (if r < s.2.1 ∧ (x_shp r).1 = 10 + ci ∧ k < 1000 ∧ (fin = true → x_isIni M = true ∧ x_mo M = ci) then (match x_fp s r j kd v with | some s' => x_go (pc + len) ls st s' | none => none) else none) | none => none) | _ => none
  | .getstatic k => if k < 1000 then (match x_look (x_key M k) x_staT with | some r => x_go (pc + len) ls (.ref r :: st) s | none => none) else none
  | .arraylength => match st with | .ref r :: st => (match x_len X s r with | some n => x_go (pc + len) ls (.int (Int32.ofNat n) :: st) s | none => none) | _ => none
  | .iaload => match st with | .int j :: .ref r :: st => (match x_arr X s r with | some q => (if j < 0 ∨ q.1 ≤ j.toNatClampNeg then none else x_go (pc + len) ls (.int (q.2 j.toNatClampNeg) :: st) s) | none => none) | _ => none
  | .baload => match st with | .int j :: .ref r :: st => (if x_own_arr s 0 r = true then (if j < 0 ∨ (x_shp r).2 ≤ j.toNatClampNeg then none else x_go (pc + len) ls (.int (s.1.1 r j.toNatClampNeg) :: st) s) else none) | _ => none
  | .laload => match st with | .int j :: .ref r :: st => (if x_own_arr s 2 r = true then (if j < 0 ∨ (x_shp r).2 ≤ j.toNatClampNeg then none else x_go (pc + len) ls (.long (s.1.2.1 r j.toNatClampNeg) :: st) s) else none) | _ => none
  | .aaload => match st with | .int j :: .ref r :: st => (if x_own_arr s 3 r = true then (if j < 0 ∨ (x_shp r).2 ≤ j.toNatClampNeg then none else (match s.1.2.2 r j.toNatClampNeg with | some v => x_go (pc + len) ls (.ref v :: st) s | none => none)) else none) | _ => none
  | .iastore => match st with | .int x :: .int j :: .ref r :: st => (if x_own_arr s 1 r = true then (if j < 0 ∨ (x_shp r).2 ≤ j.toNatClampNeg then none else x_go (pc + len) ls st (x_setI s r j.toNatClampNeg x)) else none) | _ => none
  | .bastore => match st with | .int x :: .int j :: .ref r :: st => (if x_own_arr s 0 r = true then (if j < 0 ∨ (x_shp r).2 ≤ j.toNatClampNeg then none else x_go (pc + len) ls st (x_setI s r j.toNatClampNeg (vp_nar .byte x))) else none) | _ => none
  | .lastore => match st with | .long x :: .int j :: .ref r :: st => (if x_own_arr s 2 r = true then (if j < 0 ∨ (x_shp r).2 ≤ j.toNatClampNeg then none else x_go (pc + len) ls st (x_setL s r j.toNatClampNeg x)) else none) | _ => none
  | .aastore => match st with | .ref v :: .int j :: .ref r :: st => (if x_own_arr s 3 r = true ∧ v < s.2.1 ∧ (x_shp v).1 = 16 then (if j < 0 ∨ (x_shp r).2 ≤ j.toNatClampNeg then none else x_go (pc + len) ls st (x_setR s r j.toNatClampNeg (some v))) else none) | _ => none
  | .newarray t => match st with | .int k :: st => (if k < 0 then none else if s.2.1 < x_N ∧ s.2.2.1 + 1 ≤ x_mc M ∧ s.2.2.2 + k.toNatClampNeg ≤ x_ms M ∧ (x_shp s.2.1).2 = k.toNatClampNeg ∧ (x_shp s.2.1).1 = x_atk t then x_go (pc + len) ls (.ref s.2.1 :: st) (x_mk s k.toNatClampNeg) else none) | _ => none
  | .anewarray k => match st with | .int j :: st => (if j < 0 then none else if x_look (x_key M k) x_newT = some 6 ∧ k < 1000 ∧ s.2.1 < x_N ∧ s.2.2.1 + 1 ≤ x_mc M ∧ s.2.2.2 + j.toNatClampNeg ≤ x_ms M ∧ (x_shp s.2.1).2 = j.toNatClampNeg ∧ (x_shp s.2.1).1 = 3 then x_go (pc + len) ls (.ref s.2.1 :: st) (x_mk s j.toNatClampNeg) else none) | _ => none
  | .new k => if k < 1000 then (match x_look (x_key M k) x_newT, x_look (x_key M k) x_thrT with
    | some ci, _ => if s.2.1 < x_N ∧ s.2.2.1 + 1 ≤ x_mc M ∧ s.2.2.2 + (x_fks ci).length ≤ x_ms M ∧ (x_shp s.2.1).1 = 10 + ci then x_go (pc + len) ls (.ref s.2.1 :: st) (x_mk s (x_fks ci).length) else none
    | none, some E => if x_thr M pc E = true ∧ s.2.1 = x_N ∧ x_cats st ≤ 8 ∧ s.2.2.1 + 1 ≤ x_mc M ∧ s.2.2.2 + 6 ≤ x_ms M then some (.inr (.inr (.inr E))) else none
    | none, none => none) else none
  | .invokespecial k => match x_look (x_key M k) x_obiT with
    | some _ => (match st with | .ref _ :: st => (if x_cats st ≤ 8 ∧ k < 1000 then x_go (pc + len) ls st s else none) | _ => none)
    | none => x_inv M k 2 st s
  | .invokevirtual k => match x_look (x_key M k) x_slnT, x_look (x_key M k) x_schT with
    | some _, _ => (match st with | .ref r :: st => (if x_cats st ≤ 8 ∧ k < 1000 ∧ 1010 ≤ r ∧ r ≤ 1013 ∧ s.2.2.1 ≤ x_mc M ∧ s.2.2.2 ≤ x_ms M then x_go (pc + len) ls (.int (Int32.ofNat (x_txt r).length) :: st) s else none) | _ => none)
    | none, some _ => (match st with | .int j :: .ref r :: st => (if x_cats st ≤ 8 ∧ k < 1000 ∧ 1010 ≤ r ∧ r ≤ 1013 ∧ s.2.2.1 ≤ x_mc M ∧ s.2.2.2 ≤ x_ms M then (if j < 0 ∨ (x_txt r).length ≤ j.toNatClampNeg then none else x_go (pc + len) ls (.int ((x_txt r).getD j.toNatClampNeg 0) :: st) s) else none) | _ => none)
    | none, none => x_inv M k 0 st s
  | .invokestatic k => match x_look (x_key M k) x_cpyT with
    | some _ => (match st with
      | .int n :: .int dp :: .ref b :: .int sp :: .ref a :: st => (if n < 0 ∨ sp < 0 ∨ dp < 0 then none else if x_cats st ≤ 8 ∧ k < 1000 then (match x_arr X s a with
        | some q => (if x_own_arr s 1 b = true ∧ sp.toNatClampNeg + n.toNatClampNeg ≤ q.1 ∧ dp.toNatClampNeg + n.toNatClampNeg ≤ (x_shp b).2 then x_go (pc + len) ls st (x_rowI s b (va_cpy q.2 (s.1.1 b) sp.toNatClampNeg dp.toNatClampNeg n.toNatClampNeg)) else none)
        | none => (if x_own_arr s 2 a = true ∧ x_own_arr s 2 b = true ∧ sp.toNatClampNeg + n.toNatClampNeg ≤ (x_shp a).2 ∧ dp.toNatClampNeg + n.toNatClampNeg ≤ (x_shp b).2 then x_go (pc + len) ls st (x_rowL s b (va_cpy (s.1.2.1 a) (s.1.2.1 b) sp.toNatClampNeg dp.toNatClampNeg n.toNatClampNeg)) else none)) else none)
      | _ => none)
    | none => x_inv M k 1 st s
  | .ireturn => match st, x_mr M with | [.int v], some ty => (if narrow ty (.int v) = .int v then some (.inr (.inl (some (.int v)))) else none) | _, _ => none
  | .lreturn => match st, x_mr M with | [.long v], some .long => some (.inr (.inl (some (.long v)))) | _, _ => none
  | .areturn => match st, x_mr M with | [.ref v], some (.object _) => some (.inr (.inl (some (.ref v)))) | _, _ => none
  | .return_ => match st, x_mr M with | [], none => some (.inr (.inl none)) | _, _ => none
  | _ => none
/-- the end of a method -/
def x_fin (M : x_MI) (o : x_O) (s : x_S) : x_R := if s.2.2.1 ≤ x_mc M ∧ s.2.2.2 ≤ x_ms M then some (o, s.1, s.2.1) else none
/-- a handler's body: the exception is put away, a number is returned -/
def x_hbody (M : x_MI) (t : Nat) : Option Int32 := match decode (x_mb M) t with
  | .ok (.astore_n k, 1) => (match decode (x_mb M) (t + 1), decode (x_mb M) (t + 2) with | .ok (.iconst v, 1), .ok (.ireturn, 1) => (if k.val < x_ml M then some (Int32.ofInt v) else none) | _, _ => none)
  | .ok (.astore k, 2) => (match decode (x_mb M) (t + 2), decode (x_mb M) (t + 3) with | .ok (.iconst v, 1), .ok (.ireturn, 1) => (if k < x_ml M then some (Int32.ofInt v) else none) | _, _ => none)
  | _ => none
/-- the first handler that takes it -/
def x_hfind (E pc : Nat) (c : Nat) : List (Nat × Nat × Nat × Nat) → Option Nat
  | [] => none
  | (a, b, t, x) :: l => if a ≤ pc ∧ pc < b ∧ x < 1000 then (match x_look (c * 1000 + x) x_hanT with | some E' => (if E' = E then some t else x_hfind E pc c l) | none => none) else none
/-- an exception E comes out of the call at pc -/
def x_exc (M : x_MI) (pc E : Nat) (s : x_S) : x_R := match x_mh M with
  | [] => x_fin M (.inr E) s
  | h :: hs => match x_hfind E pc (x_mo M) (h :: hs) with
    | some t => (match x_hbody M t, x_mr M with | some v, some .int => x_fin M (.inl (some (.int v))) s | _, _ => none)
    | none => none
/-- behind a call -/
def x_cont (M N : x_MI) (pc : Nat) (s : x_S) (k : Option Value → x_S → x_R) : x_R → x_R
  | some (.inl v, m, n) => k v (m, n, s.2.2.1 + x_mc N, s.2.2.2 + x_ms N)
  | some (.inr E, m, n) => x_exc M pc E (m, n, s.2.2.1 + x_mc N, s.2.2.2 + x_ms N)
  | none => none
/-- the lengths of the instructions -/
def x_lenOK (i : Instr) (len : Nat) : Bool := match i with
  | .tableswitch _ _ _ _ => true
  | .bipush _ | .ldc _ | .iload _ | .lload _ | .aload _ | .istore _ | .lstore _ | .astore _ | .newarray _ => Nat.beq len 2
  | .sipush _ | .ldc2_w _ | .iinc _ _ | .goto _ | .ifCond _ _ | .if_icmp _ _ | .getfield _ | .putfield _ | .getstatic _ | .anewarray _ | .new _ | .invokespecial _ | .invokevirtual _ | .invokestatic _ => Nat.beq len 3
  | _ => Nat.beq len 1
def x_run (X : x_X) : Nat → x_MI → Nat → x_Ls → List Value → x_S → x_R
  | 0, _, _, _, _, _ => none
  | F + 1, M, pc, ls, st, s => match decode (x_mb M) pc with
    | .ok (i, len) => match x_lenOK i len with
      | false => none
      | true => match x_step X M i len pc ls st s with
      | some (.inl (pc', ls', st', s')) => x_run X F M pc' ls' st' s'
      | some (.inr (.inl v)) => x_fin M (.inl v) s
      | some (.inr (.inr (.inl (N, as, rest)))) => x_cont M N pc s (fun v s' => x_run X F M (pc + len) ls (v.toList ++ rest) s') (x_run X F N 0 (x_ent (x_ml N) as) [] (s.1, s.2.1, 0, 0))
      | some (.inr (.inr (.inr E))) => (match x_mh M with | [] => x_fin M (.inr E) (s.1, s.2.1, s.2.2.1 + 1, s.2.2.2 + 6) | _ :: _ => none)
      | none => none
    | _ => none

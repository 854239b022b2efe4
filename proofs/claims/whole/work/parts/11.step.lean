/-- one instruction; T: the tables of the pool (fields, calls, new, constants) -/
def x_step (fld : Nat → Nat → Option (Nat × Nat)) (cal : x_MI → Nat → Nat → Option (x_MI × Nat)) (nw : Nat → Nat → Option (Nat ⊕ Nat)) (cst : Nat → Nat → Option Value) (sta : Nat → Nat → Option Value) (def0 : Nat → List Value) (fty : Nat → Nat → FieldType) (cps : Nat → Nat → Bool) (obi : Nat → Nat → Bool)
    (M : x_MI) (i : Instr) (len pc : Nat) (ls : x_Ls) (st : List Value) (s : x_H) : Option x_A :=
  match i with
  | .iconst k => x_go (pc + len) ls (.int (Int32.ofInt k) :: st) s
  | .bipush k => x_go (pc + len) ls (.int (Int8.ofInt k).toInt32 :: st) s
  | .sipush k => x_go (pc + len) ls (.int (Int16.ofInt k).toInt32 :: st) s
  | .lconst k => x_go (pc + len) ls (.long (Int64.ofNat k.val) :: st) s
  | .ldc k => match cst (x_mc M) k with | some v => x_go (pc + len) ls (v :: st) s | none => none
  | .ldc_w k => match cst (x_mc M) k with | some v => x_go (pc + len) ls (v :: st) s | none => none
  | .ldc2_w k => match cst (x_mc M) k with | some (.long v) => x_go (pc + len) ls (.long v :: st) s | _ => none
  | .iload k => match x_lg ls k with | some (.int v) => x_go (pc + len) ls (.int v :: st) s | _ => none
  | .iload_n k => match x_lg ls k.val with | some (.int v) => x_go (pc + len) ls (.int v :: st) s | _ => none
  | .lload k => match x_lg ls k with | some (.long v) => x_go (pc + len) ls (.long v :: st) s | _ => none
  | .lload_n k => match x_lg ls k.val with | some (.long v) => x_go (pc + len) ls (.long v :: st) s | _ => none
  | .aload k => match x_lg ls k with | some (.ref v) => x_go (pc + len) ls (.ref v :: st) s | _ => none
  | .aload_n k => match x_lg ls k.val with | some (.ref v) => x_go (pc + len) ls (.ref v :: st) s | _ => none
  | .istore k => match st with | .int v :: st => (match x_st1 ls k (.int v) with | some ls => x_go (pc + len) ls st s | none => none) | _ => none
  | .istore_n k => match st with | .int v :: st => (match x_st1 ls k.val (.int v) with | some ls => x_go (pc + len) ls st s | none => none) | _ => none
  | .lstore k => match st with | .long v :: st => (match x_st2 ls k (.long v) with | some ls => x_go (pc + len) ls st s | none => none) | _ => none
  | .lstore_n k => match st with | .long v :: st => (match x_st2 ls k.val (.long v) with | some ls => x_go (pc + len) ls st s | none => none) | _ => none
  | .astore k => match st with | .ref v :: st => (match x_st1 ls k (.ref v) with | some ls => x_go (pc + len) ls st s | none => none) | _ => none
  | .astore_n k => match st with | .ref v :: st => (match x_st1 ls k.val (.ref v) with | some ls => x_go (pc + len) ls st s | none => none) | _ => none
  | .iinc k d => match x_lg ls k with | some (.int v) => (match x_st1 ls k (.int (v + Int32.ofInt d)) with | some ls => x_go (pc + len) ls st s | none => none) | _ => none
  | .iadd => match st with | .int y :: .int x :: st => x_go (pc + len) ls (.int (x + y) :: st) s | _ => none
  | .isub => match st with | .int y :: .int x :: st => x_go (pc + len) ls (.int (x - y) :: st) s | _ => none
  | .imul => match st with | .int y :: .int x :: st => x_go (pc + len) ls (.int (x * y) :: st) s | _ => none
  | .iand => match st with | .int y :: .int x :: st => x_go (pc + len) ls (.int (x &&& y) :: st) s | _ => none
  | .ishr => match st with | .int y :: .int x :: st => x_go (pc + len) ls (.int (x >>> (y &&& 31)) :: st) s | _ => none
  | .idiv => match st with | .int y :: .int x :: st => if y = 0 then none else x_go (pc + len) ls (.int (x / y) :: st) s | _ => none
  | .irem => match st with | .int y :: .int x :: st => if y = 0 then none else x_go (pc + len) ls (.int (x - x / y * y) :: st) s | _ => none
  | .ineg => match st with | .int x :: st => x_go (pc + len) ls (.int (-x) :: st) s | _ => none
  | .ladd => match st with | .long y :: .long x :: st => x_go (pc + len) ls (.long (x + y) :: st) s | _ => none
  | .lsub => match st with | .long y :: .long x :: st => x_go (pc + len) ls (.long (x - y) :: st) s | _ => none
  | .lmul => match st with | .long y :: .long x :: st => x_go (pc + len) ls (.long (x * y) :: st) s | _ => none
  | .ldiv => match st with | .long y :: .long x :: st => if y = 0 then none else x_go (pc + len) ls (.long (x / y) :: st) s | _ => none
  | .lrem => match st with | .long y :: .long x :: st => if y = 0 then none else x_go (pc + len) ls (.long (x - x / y * y) :: st) s | _ => none
  | .lneg => match st with | .long x :: st => x_go (pc + len) ls (.long (-x) :: st) s | _ => none
  | .i2l => match st with | .int x :: st => x_go (pc + len) ls (.long x.toInt64 :: st) s | _ => none
  | .l2i => match st with | .long x :: st => x_go (pc + len) ls (.int x.toInt32 :: st) s | _ => none
  | .i2b => match st with | .int x :: st => x_go (pc + len) ls (.int x.toInt8.toInt32 :: st) s | _ => none
  | .i2c => match st with | .int x :: st => x_go (pc + len) ls (.int (x.toUInt32 % 65536).toInt32 :: st) s | _ => none
  | .lcmp => match st with | .long y :: .long x :: st => x_go (pc + len) ls (.int (lg_cmp x y) :: st) s | _ => none
  | .dup => match st with | v :: st => if v.category = 1 then x_go (pc + len) ls (v :: v :: st) s else none | _ => none
  | .dup2 => match st with | v :: w :: st => if v.category = 1 ∧ w.category = 1 then x_go (pc + len) ls (v :: w :: v :: w :: st) s else none | _ => none
  | .pop => match st with | v :: st => if v.category = 1 then x_go (pc + len) ls st s else none | _ => none
  | .goto off => match x_jm pc off with | some t => x_go t ls st s | none => none
  | .ifCond c off => match st with | .int x :: st => (match x_jm pc off with | some t => (if x_cond c x 0 then x_go t ls st s else x_go (pc + len) ls st s) | none => none) | _ => none
  | .if_icmp c off => match st with | .int y :: .int x :: st => (match x_jm pc off with | some t => (if x_cond c x y then x_go t ls st s else x_go (pc + len) ls st s) | none => none) | _ => none
  | .tableswitch dflt lo hi offs => match st with | .int x :: st => (if x.toInt < lo ∨ hi < x.toInt then (match x_jm pc dflt with | some t => x_go t ls st s | none => none) else (match offs[(x.toInt - lo).toNat]? with | some off => (match x_jm pc off with | some t => x_go t ls st s | none => none) | none => none)) | _ => none
  | .getfield k => match st with | .ref r :: st => (match fld (x_mc M) k, s.1 r with | some (ci, j), .inr (cj, fs) => (if ci = cj then (match fs[j]? with | some v => x_go (pc + len) ls (v :: st) s | none => none) else none) | _, _ => none) | _ => none
  | .putfield k => match st with | v :: .ref r :: st => (match fld (x_mc M) k, s.1 r with | some (ci, j), .inr (cj, fs) => (if ci = cj ∧ r < s.2.1 ∧ j < fs.length ∧ x_fit (fty ci j) v then x_go (pc + len) ls st (x_put s r (.inr (cj, fs.set j v))) else none) | _, _ => none) | _ => none
  | .getstatic k => match sta (x_mc M) k with | some v => x_go (pc + len) ls (v :: st) s | none => none
  | .arraylength => match st with | .ref r :: st => (match s.1 r with | .inl (_, n, _) => x_go (pc + len) ls (.int (Int32.ofNat n) :: st) s | _ => none) | _ => none
  | .iaload => match st with | .int j :: .ref r :: st => (match s.1 r with | .inl (1, n, .inl f) => (if ¬ (j < 0 ∨ n ≤ j.toNatClampNeg) then x_go (pc + len) ls (.int (f j.toNatClampNeg) :: st) s else none) | _ => none) | _ => none
  | .baload => match st with | .int j :: .ref r :: st => (match s.1 r with | .inl (0, n, .inl f) => (if ¬ (j < 0 ∨ n ≤ j.toNatClampNeg) then x_go (pc + len) ls (.int (f j.toNatClampNeg) :: st) s else none) | _ => none) | _ => none
  | .laload => match st with | .int j :: .ref r :: st => (match s.1 r with | .inl (2, n, .inr (.inl f)) => (if ¬ (j < 0 ∨ n ≤ j.toNatClampNeg) then x_go (pc + len) ls (.long (f j.toNatClampNeg) :: st) s else none) | _ => none) | _ => none
  | .aaload => match st with | .int j :: .ref r :: st => (match s.1 r with | .inl (3, n, .inr (.inr (.inr (.inr f)))) => (if r < s.2.1 ∧ ¬ (j < 0 ∨ n ≤ j.toNatClampNeg) then (match f j.toNatClampNeg with | some v => x_go (pc + len) ls (.ref v :: st) s | none => none) else none) | _ => none) | _ => none
  | .iastore => match st with | .int x :: .int j :: .ref r :: st => (match s.1 r with | .inl (1, n, .inl f) => (if r < s.2.1 ∧ ¬ (j < 0 ∨ n ≤ j.toNatClampNeg) then x_go (pc + len) ls st (x_put s r (.inl (1, n, .inl (upd f j.toNatClampNeg x)))) else none) | _ => none) | _ => none
  | .bastore => match st with | .int x :: .int j :: .ref r :: st => (match s.1 r with | .inl (0, n, .inl f) => (if r < s.2.1 ∧ ¬ (j < 0 ∨ n ≤ j.toNatClampNeg) then x_go (pc + len) ls st (x_put s r (.inl (0, n, .inl (upd f j.toNatClampNeg (vp_nar .byte x))))) else none) | _ => none) | _ => none
  | .lastore => match st with | .long x :: .int j :: .ref r :: st => (match s.1 r with | .inl (2, n, .inr (.inl f)) => (if r < s.2.1 ∧ ¬ (j < 0 ∨ n ≤ j.toNatClampNeg) then x_go (pc + len) ls st (x_put s r (.inl (2, n, .inr (.inl (vp_updL f j.toNatClampNeg x))))) else none) | _ => none) | _ => none
  | .aastore => match st with | .ref v :: .int j :: .ref r :: st => (match s.1 r, s.1 v with | .inl (3, n, .inr (.inr (.inr (.inr f)))), .inr (6, _) => (if r < s.2.1 ∧ v < s.2.1 ∧ ¬ (j < 0 ∨ n ≤ j.toNatClampNeg) then x_go (pc + len) ls st (x_put s r (.inl (3, n, .inr (.inr (.inr (.inr (va_up f j.toNatClampNeg (some v)))))))) else none) | _, _ => none) | _ => none
  | .newarray .byte => match st with | .int k :: st => (if ¬ k < 0 ∧ k.toNatClampNeg ≤ 65536 ∧ s.2.2.1 = s.2.1 ∧ s.2.1 < 1000 then x_go (pc + len) ls (.ref s.2.1 :: st) (x_mk s (.inl (0, k.toNatClampNeg, .inl (fun _ => 0))) k.toNatClampNeg) else none) | _ => none
  | .newarray .int => match st with | .int k :: st => (if ¬ k < 0 ∧ k.toNatClampNeg ≤ 65536 ∧ s.2.2.1 = s.2.1 ∧ s.2.1 < 1000 then x_go (pc + len) ls (.ref s.2.1 :: st) (x_mk s (.inl (1, k.toNatClampNeg, .inl (fun _ => 0))) k.toNatClampNeg) else none) | _ => none
  | .newarray .long => match st with | .int k :: st => (if ¬ k < 0 ∧ k.toNatClampNeg ≤ 65536 ∧ s.2.2.1 = s.2.1 ∧ s.2.1 < 1000 then x_go (pc + len) ls (.ref s.2.1 :: st) (x_mk s (.inl (2, k.toNatClampNeg, .inr (.inl (fun _ => 0)))) k.toNatClampNeg) else none) | _ => none
  | .anewarray k => match st with | .int j :: st => (match nw (x_mc M) k with | some (.inl 6) => (if ¬ j < 0 ∧ j.toNatClampNeg ≤ 65536 ∧ s.2.2.1 = s.2.1 ∧ s.2.1 < 1000 then x_go (pc + len) ls (.ref s.2.1 :: st) (x_mk s (.inl (3, j.toNatClampNeg, .inr (.inr (.inr (.inr (fun _ => none)))))) j.toNatClampNeg) else none) | _ => none) | _ => none
  | .new k => match nw (x_mc M) k with
    | some (.inl ci) => if s.2.2.1 = s.2.1 ∧ s.2.1 < 1000 then x_go (pc + len) ls (.ref s.2.1 :: st) (x_mk s (.inr (ci, def0 ci)) (def0 ci).length) else none
    | some (.inr E) => some (.inr (.inr (.inr E)))
    | none => none
  | .invokespecial k => if obi (x_mc M) k then (match st with | .ref _ :: st => (if st.length ≤ 4 then x_go (pc + len) ls st s else none) | _ => none) else
    (match cal M (x_mc M) k with
    | some (N, na) => if na ≤ st.length ∧ (st.drop na).length ≤ 4 ∧ x_md N < x_md M ∧ x_ml N ≤ 41 then some (.inr (.inr (.inl (2, N, (st.take na).reverse, st.drop na)))) else none
    | none => none)
  | .invokevirtual k => match cal M (x_mc M) k with
    | some (N, na) => if na ≤ st.length ∧ (st.drop na).length ≤ 4 ∧ x_md N < x_md M ∧ x_ml N ≤ 41 then some (.inr (.inr (.inl (0, N, (st.take na).reverse, st.drop na)))) else none
    | none => none
  | .invokestatic k => if cps (x_mc M) k then (match st with
      | .int n :: .int dp :: .ref b :: .int sp :: .ref a :: st => (if a < s.2.1 ∧ b < s.2.1 ∧ ¬ sp < 0 ∧ ¬ dp < 0 ∧ ¬ n < 0 ∧ st.length ≤ 4 then (match s.1 a, s.1 b with
        | .inl (1, n0, .inl f), .inl (1, n1, .inl g) => if sp.toNatClampNeg + n.toNatClampNeg ≤ n0 ∧ dp.toNatClampNeg + n.toNatClampNeg ≤ n1 then x_go (pc + len) ls st (x_put s b (.inl (1, n1, .inl (va_cpy f g sp.toNatClampNeg dp.toNatClampNeg n.toNatClampNeg)))) else none
        | .inl (2, n0, .inr (.inl f)), .inl (2, n1, .inr (.inl g)) => if sp.toNatClampNeg + n.toNatClampNeg ≤ n0 ∧ dp.toNatClampNeg + n.toNatClampNeg ≤ n1 then x_go (pc + len) ls st (x_put s b (.inl (2, n1, .inr (.inl (va_cpy f g sp.toNatClampNeg dp.toNatClampNeg n.toNatClampNeg))))) else none
        | _, _ => none) else none)
      | _ => none) else
    (match cal M (x_mc M) k with
    | some (N, na) => if na ≤ st.length ∧ (st.drop na).length ≤ 4 ∧ x_md N < x_md M ∧ x_ml N ≤ 41 then some (.inr (.inr (.inl (1, N, (st.take na).reverse, st.drop na)))) else none
    | none => none)
  | .ireturn => match st, x_mr M with | [.int v], some ty => (if narrow ty (.int v) = .int v then some (.inr (.inl (some (.int v)))) else none) | _, _ => none
  | .lreturn => match st, x_mr M with | [.long v], some .long => some (.inr (.inl (some (.long v)))) | _, _ => none
  | .areturn => match st, x_mr M with | [.ref v], some (.object _) => some (.inr (.inl (some (.ref v)))) | _, _ => none
  | .return_ => match st, x_mr M with | [], none => some (.inr (.inl none)) | _, _ => none
  | _ => none

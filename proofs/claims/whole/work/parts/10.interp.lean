/-! ===== the interpreter: abstract states, one step, runs ===== -/
/-- a method: name, bytes, places for locals, what it returns, the number of its class (for the pool), its handlers (from, to, target, type's index), its depth -/
abbrev x_MI : Type := MethodName × ByteArray × Nat × Option FieldType × Nat × List (Nat × Nat × Nat × Nat) × Nat
abbrev x_my (M : x_MI) : MethodName := M.1
abbrev x_mb (M : x_MI) : ByteArray := M.2.1
abbrev x_ml (M : x_MI) : Nat := M.2.2.1
abbrev x_mr (M : x_MI) : Option FieldType := M.2.2.2.1
abbrev x_mc (M : x_MI) : Nat := M.2.2.2.2.1
abbrev x_mh (M : x_MI) : List (Nat × Nat × Nat × Nat) := M.2.2.2.2.2.1
abbrev x_md (M : x_MI) : Nat := M.2.2.2.2.2.2
/-- locals -/
abbrev x_Ls : Type := List (Option Value)
/-- the heap by ids, how many cells are followed, cells made, slots made -/
abbrev x_H : Type := (Nat → va_E) × Nat × Nat × Nat
def x_lg (ls : x_Ls) (i : Nat) : Option Value := (ls[i]?).join
/-- a long that would lose its second half -/
def x_un (ls : x_Ls) (i : Nat) : x_Ls := match i with
  | 0 => ls
  | j + 1 => match x_lg ls j with
    | some v => if v.category = 2 then ls.set j none else ls
    | none => ls
def x_st1 (ls : x_Ls) (i : Nat) (v : Value) : Option x_Ls := if i < ls.length then some ((x_un ls i).set i (some v)) else none
def x_st2 (ls : x_Ls) (i : Nat) (v : Value) : Option x_Ls := if i + 1 < ls.length then some (((x_un ls i).set i (some v)).set (i + 1) none) else none
def x_jm (pc : Nat) (off : Int) : Option Nat := if 0 ≤ (pc : Int) + off then some ((pc : Int) + off).toNat else none
/-- what a step comes to: a state, a return, a call (kind, method, arguments, rest), a throw -/
abbrev x_A : Type := (Nat × x_Ls × List Value × x_H) ⊕ (Option Value ⊕ ((Nat × x_MI × List Value × List Value) ⊕ Nat))
def x_go (pc : Nat) (ls : x_Ls) (st : List Value) (s : x_H) : Option x_A := some (.inl (pc, ls, st, s))
def x_cond (c : Jvm.ClassFile.Cond) (x y : Int32) : Bool := match c with
  | .eq => decide (x = y)
  | .ne => decide (¬ x = y)
  | .lt => decide (x < y)
  | .ge => decide (y ≤ x)
  | .gt => decide (y < x)
  | .le => decide (x ≤ y)
/-- a field takes this value -/
def x_fit (ty : FieldType) (v : Value) : Bool := match ty, v with
  | .int, .int _ => true
  | .long, .long _ => true
  | .object _, .ref _ => true
  | .array _, .ref _ => true
  | _, _ => false
/-- a cell's new contents -/
def x_put (s : x_H) (r : Nat) (e : va_E) : x_H := (va_up s.1 r e, s.2)
/-- a new followed cell of k slots -/
def x_mk (s : x_H) (e : va_E) (k : Nat) : x_H := (va_up s.1 s.2.1 e, s.2.1 + 1, s.2.2.1 + 1, s.2.2.2 + k)

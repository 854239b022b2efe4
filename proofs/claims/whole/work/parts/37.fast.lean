/-! ===== a row for each plain instruction (laid by wip/whole/gen_fast.py) ===== -/
theorem x_bl {a b : Nat} (h : Nat.blt a b = true) : a < b := Nat.le_of_ble_eq_true h
section
variable {X : x_X} {M : x_MI} {pc : Nat} {ls : x_Ls} {st : List Value} {S : x_S} {r : x_O × x_Mem × Nat}
theorem f_iconst {k : Int} (q : Nat) (hd : decode (x_mb M) pc = .ok (.iconst k, 1)) (hp : pc + 1 = q) (kk : x_Ev X M q ls (.int (Int32.ofInt k) :: st) S r) : x_Ev X M pc ls (st) S r := by
  subst hp
  refine e_step hd rfl ?_ kk
  unfold x_step
  dsimp only
  rfl
theorem f_bipush {k : Int} (q : Nat) (hd : decode (x_mb M) pc = .ok (.bipush k, 2)) (hp : pc + 2 = q) (kk : x_Ev X M q ls (.int (Int8.ofInt k).toInt32 :: st) S r) : x_Ev X M pc ls (st) S r := by
  subst hp
  refine e_step hd rfl ?_ kk
  unfold x_step
  dsimp only
  rfl
theorem f_sipush {k : Int} (q : Nat) (hd : decode (x_mb M) pc = .ok (.sipush k, 3)) (hp : pc + 3 = q) (kk : x_Ev X M q ls (.int (Int16.ofInt k).toInt32 :: st) S r) : x_Ev X M pc ls (st) S r := by
  subst hp
  refine e_step hd rfl ?_ kk
  unfold x_step
  dsimp only
  rfl
theorem f_lconst {k : Fin 2} (q : Nat) (hd : decode (x_mb M) pc = .ok (.lconst k, 1)) (hp : pc + 1 = q) (kk : x_Ev X M q ls (.long (Int64.ofNat k.val) :: st) S r) : x_Ev X M pc ls (st) S r := by
  subst hp
  refine e_step hd rfl ?_ kk
  unfold x_step
  dsimp only
  rfl
theorem f_iload {k : Nat} {v : Int32} (q : Nat) (hd : decode (x_mb M) pc = .ok (.iload k, 2)) (hg : x_lg ls k = some (.int v)) (hp : pc + 2 = q) (kk : x_Ev X M q ls (.int v :: st) S r) : x_Ev X M pc ls (st) S r := by
  subst hp
  refine e_step hd rfl ?_ kk
  unfold x_step
  dsimp only
  rw [hg]
  rfl
theorem f_iload_n {k : Fin 4} {v : Int32} (q : Nat) (hd : decode (x_mb M) pc = .ok (.iload_n k, 1)) (hg : x_lg ls k.val = some (.int v)) (hp : pc + 1 = q) (kk : x_Ev X M q ls (.int v :: st) S r) : x_Ev X M pc ls (st) S r := by
  subst hp
  refine e_step hd rfl ?_ kk
  unfold x_step
  dsimp only
  rw [hg]
  rfl
theorem f_lload {k : Nat} {v : Int64} (q : Nat) (hd : decode (x_mb M) pc = .ok (.lload k, 2)) (hg : x_lg ls k = some (.long v)) (hp : pc + 2 = q) (kk : x_Ev X M q ls (.long v :: st) S r) : x_Ev X M pc ls (st) S r := by
  subst hp
  refine e_step hd rfl ?_ kk
  unfold x_step
  dsimp only
  rw [hg]
  rfl
theorem f_lload_n {k : Fin 4} {v : Int64} (q : Nat) (hd : decode (x_mb M) pc = .ok (.lload_n k, 1)) (hg : x_lg ls k.val = some (.long v)) (hp : pc + 1 = q) (kk : x_Ev X M q ls (.long v :: st) S r) : x_Ev X M pc ls (st) S r := by
  subst hp
  refine e_step hd rfl ?_ kk
  unfold x_step
  dsimp only
  rw [hg]
  rfl
theorem f_aload {k : Nat} {v : Nat} (q : Nat) (hd : decode (x_mb M) pc = .ok (.aload k, 2)) (hg : x_lg ls k = some (.ref v)) (hp : pc + 2 = q) (kk : x_Ev X M q ls (.ref v :: st) S r) : x_Ev X M pc ls (st) S r := by
  subst hp
  refine e_step hd rfl ?_ kk
  unfold x_step
  dsimp only
  rw [hg]
  rfl
theorem f_aload_n {k : Fin 4} {v : Nat} (q : Nat) (hd : decode (x_mb M) pc = .ok (.aload_n k, 1)) (hg : x_lg ls k.val = some (.ref v)) (hp : pc + 1 = q) (kk : x_Ev X M q ls (.ref v :: st) S r) : x_Ev X M pc ls (st) S r := by
  subst hp
  refine e_step hd rfl ?_ kk
  unfold x_step
  dsimp only
  rw [hg]
  rfl
theorem f_istore {k : Nat} {v : Int32} {ls' : x_Ls} (q : Nat) (hd : decode (x_mb M) pc = .ok (.istore k, 2)) (hk : Nat.blt k ls.length = true) (hg : x_st1 ls k (.int v) = ls') (hp : pc + 2 = q) (kk : x_Ev X M q ls' (st) S r) : x_Ev X M pc ls (.int v :: st) S r := by
  subst hp
  refine e_step hd rfl ?_ kk
  unfold x_step
  dsimp only
  rw [if_pos (x_bl hk), hg]
  rfl
theorem f_istore_n {k : Fin 4} {v : Int32} {ls' : x_Ls} (q : Nat) (hd : decode (x_mb M) pc = .ok (.istore_n k, 1)) (hk : Nat.blt k.val ls.length = true) (hg : x_st1 ls k.val (.int v) = ls') (hp : pc + 1 = q) (kk : x_Ev X M q ls' (st) S r) : x_Ev X M pc ls (.int v :: st) S r := by
  subst hp
  refine e_step hd rfl ?_ kk
  unfold x_step
  dsimp only
  rw [if_pos (x_bl hk), hg]
  rfl
theorem f_astore {k : Nat} {v : Nat} {ls' : x_Ls} (q : Nat) (hd : decode (x_mb M) pc = .ok (.astore k, 2)) (hk : Nat.blt k ls.length = true) (hg : x_st1 ls k (.ref v) = ls') (hp : pc + 2 = q) (kk : x_Ev X M q ls' (st) S r) : x_Ev X M pc ls (.ref v :: st) S r := by
  subst hp
  refine e_step hd rfl ?_ kk
  unfold x_step
  dsimp only
  rw [if_pos (x_bl hk), hg]
  rfl
theorem f_astore_n {k : Fin 4} {v : Nat} {ls' : x_Ls} (q : Nat) (hd : decode (x_mb M) pc = .ok (.astore_n k, 1)) (hk : Nat.blt k.val ls.length = true) (hg : x_st1 ls k.val (.ref v) = ls') (hp : pc + 1 = q) (kk : x_Ev X M q ls' (st) S r) : x_Ev X M pc ls (.ref v :: st) S r := by
  subst hp
  refine e_step hd rfl ?_ kk
  unfold x_step
  dsimp only
  rw [if_pos (x_bl hk), hg]
  rfl
theorem f_lstore {k : Nat} {v : Int64} {ls' : x_Ls} (q : Nat) (hd : decode (x_mb M) pc = .ok (.lstore k, 2)) (hk : Nat.blt (k + 1) ls.length = true) (hg : x_st2 ls k (.long v) = ls') (hp : pc + 2 = q) (kk : x_Ev X M q ls' (st) S r) : x_Ev X M pc ls (.long v :: st) S r := by
  subst hp
  refine e_step hd rfl ?_ kk
  unfold x_step
  dsimp only
  rw [if_pos (x_bl hk), hg]
  rfl
theorem f_lstore_n {k : Fin 4} {v : Int64} {ls' : x_Ls} (q : Nat) (hd : decode (x_mb M) pc = .ok (.lstore_n k, 1)) (hk : Nat.blt (k.val + 1) ls.length = true) (hg : x_st2 ls k.val (.long v) = ls') (hp : pc + 1 = q) (kk : x_Ev X M q ls' (st) S r) : x_Ev X M pc ls (.long v :: st) S r := by
  subst hp
  refine e_step hd rfl ?_ kk
  unfold x_step
  dsimp only
  rw [if_pos (x_bl hk), hg]
  rfl
theorem f_iinc {k : Nat} {d : Int} {v : Int32} {ls' : x_Ls} (q : Nat) (hd : decode (x_mb M) pc = .ok (.iinc k d, 3)) (hv : x_lg ls k = some (.int v)) (hk : Nat.blt k ls.length = true) (hg : x_st1 ls k (.int (v + Int32.ofInt d)) = ls') (hp : pc + 3 = q) (kk : x_Ev X M q ls' (st) S r) : x_Ev X M pc ls (st) S r := by
  subst hp
  refine e_step hd rfl ?_ kk
  unfold x_step
  dsimp only
  rw [hv]
  dsimp only
  rw [if_pos (x_bl hk), hg]
  rfl
theorem f_iadd {x y : Int32} (q : Nat) (hd : decode (x_mb M) pc = .ok (.iadd, 1)) (hp : pc + 1 = q) (kk : x_Ev X M q ls (.int (x + y) :: st) S r) : x_Ev X M pc ls (.int y :: .int x :: st) S r := by
  subst hp
  refine e_step hd rfl ?_ kk
  unfold x_step
  dsimp only
  rfl
theorem f_isub {x y : Int32} (q : Nat) (hd : decode (x_mb M) pc = .ok (.isub, 1)) (hp : pc + 1 = q) (kk : x_Ev X M q ls (.int (x - y) :: st) S r) : x_Ev X M pc ls (.int y :: .int x :: st) S r := by
  subst hp
  refine e_step hd rfl ?_ kk
  unfold x_step
  dsimp only
  rfl
theorem f_imul {x y : Int32} (q : Nat) (hd : decode (x_mb M) pc = .ok (.imul, 1)) (hp : pc + 1 = q) (kk : x_Ev X M q ls (.int (x * y) :: st) S r) : x_Ev X M pc ls (.int y :: .int x :: st) S r := by
  subst hp
  refine e_step hd rfl ?_ kk
  unfold x_step
  dsimp only
  rfl
theorem f_ineg {x : Int32} (q : Nat) (hd : decode (x_mb M) pc = .ok (.ineg, 1)) (hp : pc + 1 = q) (kk : x_Ev X M q ls (.int (-x) :: st) S r) : x_Ev X M pc ls (.int x :: st) S r := by
  subst hp
  refine e_step hd rfl ?_ kk
  unfold x_step
  dsimp only
  rfl
theorem f_ladd {x y : Int64} (q : Nat) (hd : decode (x_mb M) pc = .ok (.ladd, 1)) (hp : pc + 1 = q) (kk : x_Ev X M q ls (.long (x + y) :: st) S r) : x_Ev X M pc ls (.long y :: .long x :: st) S r := by
  subst hp
  refine e_step hd rfl ?_ kk
  unfold x_step
  dsimp only
  rfl
theorem f_lsub {x y : Int64} (q : Nat) (hd : decode (x_mb M) pc = .ok (.lsub, 1)) (hp : pc + 1 = q) (kk : x_Ev X M q ls (.long (x - y) :: st) S r) : x_Ev X M pc ls (.long y :: .long x :: st) S r := by
  subst hp
  refine e_step hd rfl ?_ kk
  unfold x_step
  dsimp only
  rfl
theorem f_lmul {x y : Int64} (q : Nat) (hd : decode (x_mb M) pc = .ok (.lmul, 1)) (hp : pc + 1 = q) (kk : x_Ev X M q ls (.long (x * y) :: st) S r) : x_Ev X M pc ls (.long y :: .long x :: st) S r := by
  subst hp
  refine e_step hd rfl ?_ kk
  unfold x_step
  dsimp only
  rfl
theorem f_lneg {x : Int64} (q : Nat) (hd : decode (x_mb M) pc = .ok (.lneg, 1)) (hp : pc + 1 = q) (kk : x_Ev X M q ls (.long (-x) :: st) S r) : x_Ev X M pc ls (.long x :: st) S r := by
  subst hp
  refine e_step hd rfl ?_ kk
  unfold x_step
  dsimp only
  rfl
theorem f_iand {x y : Int32} (q : Nat) (hd : decode (x_mb M) pc = .ok (.iand, 1)) (hp : pc + 1 = q) (kk : x_Ev X M q ls (.int (x &&& y) :: st) S r) : x_Ev X M pc ls (.int y :: .int x :: st) S r := by
  subst hp
  refine e_step hd rfl ?_ kk
  unfold x_step
  dsimp only
  rfl
theorem f_ixor {x y : Int32} (q : Nat) (hd : decode (x_mb M) pc = .ok (.ixor, 1)) (hp : pc + 1 = q) (kk : x_Ev X M q ls (.int (x ^^^ y) :: st) S r) : x_Ev X M pc ls (.int y :: .int x :: st) S r := by
  subst hp
  refine e_step hd rfl ?_ kk
  unfold x_step
  dsimp only
  rfl
theorem f_ishr {x y : Int32} (q : Nat) (hd : decode (x_mb M) pc = .ok (.ishr, 1)) (hp : pc + 1 = q) (kk : x_Ev X M q ls (.int (x >>> (y &&& 31)) :: st) S r) : x_Ev X M pc ls (.int y :: .int x :: st) S r := by
  subst hp
  refine e_step hd rfl ?_ kk
  unfold x_step
  dsimp only
  rfl
theorem f_i2l {x : Int32} (q : Nat) (hd : decode (x_mb M) pc = .ok (.i2l, 1)) (hp : pc + 1 = q) (kk : x_Ev X M q ls (.long x.toInt64 :: st) S r) : x_Ev X M pc ls (.int x :: st) S r := by
  subst hp
  refine e_step hd rfl ?_ kk
  unfold x_step
  dsimp only
  rfl
theorem f_l2i {x : Int64} (q : Nat) (hd : decode (x_mb M) pc = .ok (.l2i, 1)) (hp : pc + 1 = q) (kk : x_Ev X M q ls (.int x.toInt32 :: st) S r) : x_Ev X M pc ls (.long x :: st) S r := by
  subst hp
  refine e_step hd rfl ?_ kk
  unfold x_step
  dsimp only
  rfl
theorem f_i2b {x : Int32} (q : Nat) (hd : decode (x_mb M) pc = .ok (.i2b, 1)) (hp : pc + 1 = q) (kk : x_Ev X M q ls (.int x.toInt8.toInt32 :: st) S r) : x_Ev X M pc ls (.int x :: st) S r := by
  subst hp
  refine e_step hd rfl ?_ kk
  unfold x_step
  dsimp only
  rfl
theorem f_lcmp {x y : Int64} (q : Nat) (hd : decode (x_mb M) pc = .ok (.lcmp, 1)) (hp : pc + 1 = q) (kk : x_Ev X M q ls (.int (lg_cmp x y) :: st) S r) : x_Ev X M pc ls (.long y :: .long x :: st) S r := by
  subst hp
  refine e_step hd rfl ?_ kk
  unfold x_step
  dsimp only
  rfl
theorem f_dup {v : Value} (q : Nat) (hd : decode (x_mb M) pc = .ok (.dup, 1)) (hv : v.category = 1) (hp : pc + 1 = q) (kk : x_Ev X M q ls (v :: v :: st) S r) : x_Ev X M pc ls (v :: st) S r := by
  subst hp
  refine e_step hd rfl ?_ kk
  unfold x_step
  dsimp only
  rw [if_pos hv]
  rfl
theorem f_dup2 {v w : Value} (q : Nat) (hd : decode (x_mb M) pc = .ok (.dup2, 1)) (hv : v.category = 1) (hw : w.category = 1) (hp : pc + 1 = q) (kk : x_Ev X M q ls (v :: w :: v :: w :: st) S r) : x_Ev X M pc ls (v :: w :: st) S r := by
  subst hp
  refine e_step hd rfl ?_ kk
  unfold x_step
  dsimp only
  rw [if_pos ⟨hv, hw⟩]
  rfl
theorem f_pop {v : Value} (q : Nat) (hd : decode (x_mb M) pc = .ok (.pop, 1)) (hv : v.category = 1) (hp : pc + 1 = q) (kk : x_Ev X M q ls (st) S r) : x_Ev X M pc ls (v :: st) S r := by
  subst hp
  refine e_step hd rfl ?_ kk
  unfold x_step
  dsimp only
  rw [if_pos hv]
  rfl
theorem f_goto {off : Int} (q : Nat) (hd : decode (x_mb M) pc = .ok (.goto off, 3)) (ht : x_jm pc off = some q) (kk : x_Ev X M q ls (st) S r) : x_Ev X M pc ls (st) S r := by
  refine e_step hd rfl ?_ kk
  unfold x_step
  dsimp only
  rw [ht]
  rfl
end

/-! ===== a row for each plain instruction (laid by wip/whole/gen_fast.py) ===== -/
theorem x_bl {a b : Nat} (h : Nat.blt a b = true) : a < b := Nat.le_of_ble_eq_true h
section
variable {X : x_X} {M : x_MI} {pc : Nat} {ls : x_Ls} {st : List Value} {S : x_S} {r : x_O × x_Mem × Nat}
theorem f_iconst {k : Int} {v : Int32} (q : Nat) (hd : decode (x_mb M) pc = .ok (.iconst k, 1)) (hv : Int32.ofInt k = v) (hp : pc + 1 = q) (kk : x_Ev X M q ls (.int v :: st) S r) : x_Ev X M pc ls (st) S r := by
  subst hp
  refine e_step hd rfl ?_ kk
  unfold x_step
  dsimp only
  rw [hv]
  rfl
theorem f_bipush {k : Int} {v : Int32} (q : Nat) (hd : decode (x_mb M) pc = .ok (.bipush k, 2)) (hv : (Int8.ofInt k).toInt32 = v) (hp : pc + 2 = q) (kk : x_Ev X M q ls (.int v :: st) S r) : x_Ev X M pc ls (st) S r := by
  subst hp
  refine e_step hd rfl ?_ kk
  unfold x_step
  dsimp only
  rw [hv]
  rfl
theorem f_sipush {k : Int} {v : Int32} (q : Nat) (hd : decode (x_mb M) pc = .ok (.sipush k, 3)) (hv : (Int16.ofInt k).toInt32 = v) (hp : pc + 3 = q) (kk : x_Ev X M q ls (.int v :: st) S r) : x_Ev X M pc ls (st) S r := by
  subst hp
  refine e_step hd rfl ?_ kk
  unfold x_step
  dsimp only
  rw [hv]
  rfl
theorem f_lconst {k : Fin 2} {v : Int64} (q : Nat) (hd : decode (x_mb M) pc = .ok (.lconst k, 1)) (hv : Int64.ofNat k.val = v) (hp : pc + 1 = q) (kk : x_Ev X M q ls (.long v :: st) S r) : x_Ev X M pc ls (st) S r := by
  subst hp
  refine e_step hd rfl ?_ kk
  unfold x_step
  dsimp only
  rw [hv]
  rfl
theorem f_iload {k : Nat} {v : Int32} (q : Nat) (hd : decode (x_mb M) pc = .ok (.iload k, 2)) (hg : x_lg ls k = some (.int v)) (hp : pc + 2 = q) (kk : x_Ev X M q ls (.int v :: st) S r) : x_Ev X M pc ls (st) S r := by
  subst hp
  refine e_step hd rfl ?_ kk
  unfold x_step
  dsimp only
  rw [hg]
  rfl
theorem f_iload_n {k : Fin 4} {v : Int32} (q : Nat) (hd : decode (x_mb M) pc = .ok (.iload_n k, 1)) (hg : x_lg ls k.val = some (.int v)) (hp : pc + 1 = q) (kk : x_Ev X M q ls (.int v :: st) S r) : x_Ev X M pc ls (st) S r := by
  subst hp
  refine e_step hd rfl ?_ kk
  unfold x_step
  dsimp only
  rw [hg]
  rfl
theorem f_lload {k : Nat} {v : Int64} (q : Nat) (hd : decode (x_mb M) pc = .ok (.lload k, 2)) (hg : x_lg ls k = some (.long v)) (hp : pc + 2 = q) (kk : x_Ev X M q ls (.long v :: st) S r) : x_Ev X M pc ls (st) S r := by
  subst hp
  refine e_step hd rfl ?_ kk
  unfold x_step
  dsimp only
  rw [hg]
  rfl
theorem f_lload_n {k : Fin 4} {v : Int64} (q : Nat) (hd : decode (x_mb M) pc = .ok (.lload_n k, 1)) (hg : x_lg ls k.val = some (.long v)) (hp : pc + 1 = q) (kk : x_Ev X M q ls (.long v :: st) S r) : x_Ev X M pc ls (st) S r := by
  subst hp
  refine e_step hd rfl ?_ kk
  unfold x_step
  dsimp only
  rw [hg]
  rfl
theorem f_aload {k : Nat} {v : Nat} (q : Nat) (hd : decode (x_mb M) pc = .ok (.aload k, 2)) (hg : x_lg ls k = some (.ref v)) (hp : pc + 2 = q) (kk : x_Ev X M q ls (.ref v :: st) S r) : x_Ev X M pc ls (st) S r := by
  subst hp
  refine e_step hd rfl ?_ kk
  unfold x_step
  dsimp only
  rw [hg]
  rfl
theorem f_aload_n {k : Fin 4} {v : Nat} (q : Nat) (hd : decode (x_mb M) pc = .ok (.aload_n k, 1)) (hg : x_lg ls k.val = some (.ref v)) (hp : pc + 1 = q) (kk : x_Ev X M q ls (.ref v :: st) S r) : x_Ev X M pc ls (st) S r := by
  subst hp
  refine e_step hd rfl ?_ kk
  unfold x_step
  dsimp only
  rw [hg]
  rfl
theorem f_istore {k : Nat} {v : Int32} {ls' : x_Ls} (q : Nat) (hd : decode (x_mb M) pc = .ok (.istore k, 2)) (hk : Nat.blt k ls.length = true) (hg : x_st1 ls k (.int v) = ls') (hp : pc + 2 = q) (kk : x_Ev X M q ls' (st) S r) : x_Ev X M pc ls (.int v :: st) S r := by
  subst hp
  refine e_step hd rfl ?_ kk
  unfold x_step
  dsimp only
  rw [if_pos (x_bl hk), hg]
  rfl
theorem f_istore_n {k : Fin 4} {v : Int32} {ls' : x_Ls} (q : Nat) (hd : decode (x_mb M) pc = .ok (.istore_n k, 1)) (hk : Nat.blt k.val ls.length = true) (hg : x_st1 ls k.val (.int v) = ls') (hp : pc + 1 = q) (kk : x_Ev X M q ls' (st) S r) : x_Ev X M pc ls (.int v :: st) S r := by
  subst hp
  refine e_step hd rfl ?_ kk
  unfold x_step
  dsimp only
  rw [if_pos (x_bl hk), hg]
  rfl
theorem f_astore {k : Nat} {v : Nat} {ls' : x_Ls} (q : Nat) (hd : decode (x_mb M) pc = .ok (.astore k, 2)) (hk : Nat.blt k ls.length = true) (hg : x_st1 ls k (.ref v) = ls') (hp : pc + 2 = q) (kk : x_Ev X M q ls' (st) S r) : x_Ev X M pc ls (.ref v :: st) S r := by
  subst hp
  refine e_step hd rfl ?_ kk
  unfold x_step
  dsimp only
  rw [if_pos (x_bl hk), hg]
  rfl
theorem f_astore_n {k : Fin 4} {v : Nat} {ls' : x_Ls} (q : Nat) (hd : decode (x_mb M) pc = .ok (.astore_n k, 1)) (hk : Nat.blt k.val ls.length = true) (hg : x_st1 ls k.val (.ref v) = ls') (hp : pc + 1 = q) (kk : x_Ev X M q ls' (st) S r) : x_Ev X M pc ls (.ref v :: st) S r := by
  subst hp
  refine e_step hd rfl ?_ kk
  unfold x_step
  dsimp only
  rw [if_pos (x_bl hk), hg]
  rfl
theorem f_lstore {k : Nat} {v : Int64} {ls' : x_Ls} (q : Nat) (hd : decode (x_mb M) pc = .ok (.lstore k, 2)) (hk : Nat.blt (k + 1) ls.length = true) (hg : x_st2 ls k (.long v) = ls') (hp : pc + 2 = q) (kk : x_Ev X M q ls' (st) S r) : x_Ev X M pc ls (.long v :: st) S r := by
  subst hp
  refine e_step hd rfl ?_ kk
  unfold x_step
  dsimp only
  rw [if_pos (x_bl hk), hg]
  rfl
theorem f_lstore_n {k : Fin 4} {v : Int64} {ls' : x_Ls} (q : Nat) (hd : decode (x_mb M) pc = .ok (.lstore_n k, 1)) (hk : Nat.blt (k.val + 1) ls.length = true) (hg : x_st2 ls k.val (.long v) = ls') (hp : pc + 1 = q) (kk : x_Ev X M q ls' (st) S r) : x_Ev X M pc ls (.long v :: st) S r := by
  subst hp
  refine e_step hd rfl ?_ kk
  unfold x_step
  dsimp only
  rw [if_pos (x_bl hk), hg]
  rfl
theorem f_iinc {k : Nat} {d : Int} {v w : Int32} {ls' : x_Ls} (q : Nat) (hd : decode (x_mb M) pc = .ok (.iinc k d, 3)) (hw : Int32.ofInt d = w) (hv : x_lg ls k = some (.int v)) (hk : Nat.blt k ls.length = true) (hg : x_st1 ls k (.int (v + w)) = ls') (hp : pc + 3 = q) (kk : x_Ev X M q ls' (st) S r) : x_Ev X M pc ls (st) S r := by
  subst hp
  refine e_step hd rfl ?_ kk
  unfold x_step
  dsimp only
  rw [hv]
  dsimp only
  rw [if_pos (x_bl hk), hw, hg]
  rfl
theorem f_iadd {x y : Int32} (q : Nat) (hd : decode (x_mb M) pc = .ok (.iadd, 1)) (hp : pc + 1 = q) (kk : x_Ev X M q ls (.int (x + y) :: st) S r) : x_Ev X M pc ls (.int y :: .int x :: st) S r := by
  subst hp
  refine e_step hd rfl ?_ kk
  unfold x_step
  dsimp only
  rfl
theorem f_isub {x y : Int32} (q : Nat) (hd : decode (x_mb M) pc = .ok (.isub, 1)) (hp : pc + 1 = q) (kk : x_Ev X M q ls (.int (x - y) :: st) S r) : x_Ev X M pc ls (.int y :: .int x :: st) S r := by
  subst hp
  refine e_step hd rfl ?_ kk
  unfold x_step
  dsimp only
  rfl
theorem f_imul {x y : Int32} (q : Nat) (hd : decode (x_mb M) pc = .ok (.imul, 1)) (hp : pc + 1 = q) (kk : x_Ev X M q ls (.int (x * y) :: st) S r) : x_Ev X M pc ls (.int y :: .int x :: st) S r := by
  subst hp
  refine e_step hd rfl ?_ kk
  unfold x_step
  dsimp only
  rfl
theorem f_ineg {x : Int32} (q : Nat) (hd : decode (x_mb M) pc = .ok (.ineg, 1)) (hp : pc + 1 = q) (kk : x_Ev X M q ls (.int (-x) :: st) S r) : x_Ev X M pc ls (.int x :: st) S r := by
  subst hp
  refine e_step hd rfl ?_ kk
  unfold x_step
  dsimp only
  rfl
theorem f_ladd {x y : Int64} (q : Nat) (hd : decode (x_mb M) pc = .ok (.ladd, 1)) (hp : pc + 1 = q) (kk : x_Ev X M q ls (.long (x + y) :: st) S r) : x_Ev X M pc ls (.long y :: .long x :: st) S r := by
  subst hp
  refine e_step hd rfl ?_ kk
  unfold x_step
  dsimp only
  rfl
theorem f_lsub {x y : Int64} (q : Nat) (hd : decode (x_mb M) pc = .ok (.lsub, 1)) (hp : pc + 1 = q) (kk : x_Ev X M q ls (.long (x - y) :: st) S r) : x_Ev X M pc ls (.long y :: .long x :: st) S r := by
  subst hp
  refine e_step hd rfl ?_ kk
  unfold x_step
  dsimp only
  rfl
theorem f_lmul {x y : Int64} (q : Nat) (hd : decode (x_mb M) pc = .ok (.lmul, 1)) (hp : pc + 1 = q) (kk : x_Ev X M q ls (.long (x * y) :: st) S r) : x_Ev X M pc ls (.long y :: .long x :: st) S r := by
  subst hp
  refine e_step hd rfl ?_ kk
  unfold x_step
  dsimp only
  rfl
theorem f_lneg {x : Int64} (q : Nat) (hd : decode (x_mb M) pc = .ok (.lneg, 1)) (hp : pc + 1 = q) (kk : x_Ev X M q ls (.long (-x) :: st) S r) : x_Ev X M pc ls (.long x :: st) S r := by
  subst hp
  refine e_step hd rfl ?_ kk
  unfold x_step
  dsimp only
  rfl
theorem f_iand {x y : Int32} (q : Nat) (hd : decode (x_mb M) pc = .ok (.iand, 1)) (hp : pc + 1 = q) (kk : x_Ev X M q ls (.int (x &&& y) :: st) S r) : x_Ev X M pc ls (.int y :: .int x :: st) S r := by
  subst hp
  refine e_step hd rfl ?_ kk
  unfold x_step
  dsimp only
  rfl
theorem f_ixor {x y : Int32} (q : Nat) (hd : decode (x_mb M) pc = .ok (.ixor, 1)) (hp : pc + 1 = q) (kk : x_Ev X M q ls (.int (x ^^^ y) :: st) S r) : x_Ev X M pc ls (.int y :: .int x :: st) S r := by
  subst hp
  refine e_step hd rfl ?_ kk
  unfold x_step
  dsimp only
  rfl
theorem f_ishr {x y : Int32} (q : Nat) (hd : decode (x_mb M) pc = .ok (.ishr, 1)) (hp : pc + 1 = q) (kk : x_Ev X M q ls (.int (x >>> (y &&& 31)) :: st) S r) : x_Ev X M pc ls (.int y :: .int x :: st) S r := by
  subst hp
  refine e_step hd rfl ?_ kk
  unfold x_step
  dsimp only
  rfl
theorem f_i2l {x : Int32} (q : Nat) (hd : decode (x_mb M) pc = .ok (.i2l, 1)) (hp : pc + 1 = q) (kk : x_Ev X M q ls (.long x.toInt64 :: st) S r) : x_Ev X M pc ls (.int x :: st) S r := by
  subst hp
  refine e_step hd rfl ?_ kk
  unfold x_step
  dsimp only
  rfl
theorem f_l2i {x : Int64} (q : Nat) (hd : decode (x_mb M) pc = .ok (.l2i, 1)) (hp : pc + 1 = q) (kk : x_Ev X M q ls (.int x.toInt32 :: st) S r) : x_Ev X M pc ls (.long x :: st) S r := by
  subst hp
  refine e_step hd rfl ?_ kk
  unfold x_step
  dsimp only
  rfl
theorem f_i2b {x : Int32} (q : Nat) (hd : decode (x_mb M) pc = .ok (.i2b, 1)) (hp : pc + 1 = q) (kk : x_Ev X M q ls (.int x.toInt8.toInt32 :: st) S r) : x_Ev X M pc ls (.int x :: st) S r := by
  subst hp
  refine e_step hd rfl ?_ kk
  unfold x_step
  dsimp only
  rfl
theorem f_lcmp {x y : Int64} (q : Nat) (hd : decode (x_mb M) pc = .ok (.lcmp, 1)) (hp : pc + 1 = q) (kk : x_Ev X M q ls (.int (lg_cmp x y) :: st) S r) : x_Ev X M pc ls (.long y :: .long x :: st) S r := by
  subst hp
  refine e_step hd rfl ?_ kk
  unfold x_step
  dsimp only
  rfl
theorem f_dup {v : Value} (q : Nat) (hd : decode (x_mb M) pc = .ok (.dup, 1)) (hv : v.category = 1) (hp : pc + 1 = q) (kk : x_Ev X M q ls (v :: v :: st) S r) : x_Ev X M pc ls (v :: st) S r := by
  subst hp
  refine e_step hd rfl ?_ kk
  unfold x_step
  dsimp only
  rw [if_pos hv]
  rfl
theorem f_dup2 {v w : Value} (q : Nat) (hd : decode (x_mb M) pc = .ok (.dup2, 1)) (hv : v.category = 1) (hw : w.category = 1) (hp : pc + 1 = q) (kk : x_Ev X M q ls (v :: w :: v :: w :: st) S r) : x_Ev X M pc ls (v :: w :: st) S r := by
  subst hp
  refine e_step hd rfl ?_ kk
  unfold x_step
  dsimp only
  rw [if_pos ⟨hv, hw⟩]
  rfl
theorem f_pop {v : Value} (q : Nat) (hd : decode (x_mb M) pc = .ok (.pop, 1)) (hv : v.category = 1) (hp : pc + 1 = q) (kk : x_Ev X M q ls (st) S r) : x_Ev X M pc ls (v :: st) S r := by
  subst hp
  refine e_step hd rfl ?_ kk
  unfold x_step
  dsimp only
  rw [if_pos hv]
  rfl
theorem f_goto {off : Int} (q : Nat) (hd : decode (x_mb M) pc = .ok (.goto off, 3)) (ht : x_jm pc off = some q) (kk : x_Ev X M q ls (st) S r) : x_Ev X M pc ls (st) S r := by
  refine e_step hd rfl ?_ kk
  unfold x_step
  dsimp only
  rw [ht]
  rfl
theorem f_ldcI {i : Nat} {v : Int32} (q : Nat) (hd : decode (x_mb M) pc = .ok (.ldc i, 2)) (hk : i < 1000) (hv : x_look (x_key M i) x_cstT = some v) (hp : pc + 2 = q) (kk : x_Ev X M q ls (.int v :: st) S r) : x_Ev X M pc ls (st) S r := by
  subst hp
  refine e_step hd rfl ?_ kk
  unfold x_step
  dsimp only
  rw [if_pos hk, hv]
  rfl
theorem f_ldcR {i : Nat} {v : Nat} (q : Nat) (hd : decode (x_mb M) pc = .ok (.ldc i, 2)) (hk : i < 1000) (hn : x_look (x_key M i) x_cstT = none) (hv : x_look (x_key M i) x_strT = some v) (hp : pc + 2 = q) (kk : x_Ev X M q ls (.ref v :: st) S r) : x_Ev X M pc ls (st) S r := by
  subst hp
  refine e_step hd rfl ?_ kk
  unfold x_step
  dsimp only
  rw [if_pos hk, hn, hv]
  rfl
theorem f_ldc2 {i : Nat} {v : Int64} (q : Nat) (hd : decode (x_mb M) pc = .ok (.ldc2_w i, 3)) (hk : i < 1000) (hv : x_look (x_key M i) x_cslT = some v) (hp : pc + 3 = q) (kk : x_Ev X M q ls (.long v :: st) S r) : x_Ev X M pc ls (st) S r := by
  subst hp
  refine e_step hd rfl ?_ kk
  unfold x_step
  dsimp only
  rw [if_pos hk, hv]
  rfl
end
theorem cst_5142 : x_look 5142 x_cstT = some (10000000) := rfl
theorem cst_5101 : x_look 5101 x_cstT = some (100000) := rfl
theorem cst_8167 : x_look 8167 x_cstT = some (1000000) := rfl
theorem cst_8181 : x_look 8181 x_cstT = some (1000000000) := rfl
theorem cst_9118 : x_look 9118 x_cstT = some (1000000) := rfl
theorem cst_9113 : x_look 9113 x_cstT = some (100000) := rfl
theorem csl_6121 : x_look 6121 x_cslT = some (10) := rfl
theorem csl_2039 : x_look 2039 x_cslT = some (40000) := rfl
theorem csl_2048 : x_look 2048 x_cslT = some (-1) := rfl
theorem csl_73 : x_look 73 x_cslT = some (100) := rfl
theorem csl_114 : x_look 114 x_cslT = some (1000000) := rfl
theorem csl_8286 : x_look 8286 x_cslT = some (10) := rfl
theorem csl_6131 : x_look 6131 x_cslT = some (1000) := rfl
theorem csl_9070 : x_look 9070 x_cslT = some (97) := rfl
theorem csl_9072 : x_look 9072 x_cslT = some (122) := rfl
theorem csl_9081 : x_look 9081 x_cslT = some (48) := rfl
theorem csl_9083 : x_look 9083 x_cslT = some (57) := rfl
theorem csl_9089 : x_look 9089 x_cslT = some (10000000) := rfl
theorem csl_9091 : x_look 9091 x_cslT = some (10) := rfl
theorem csl_9131 : x_look 9131 x_cslT = some (500) := rfl
theorem csl_9161 : x_look 9161 x_cslT = some (20) := rfl
theorem csl_9166 : x_look 9166 x_cslT = some (40000) := rfl
theorem csl_9168 : x_look 9168 x_cslT = some (-1) := rfl
theorem csl_9180 : x_look 9180 x_cslT = some (7) := rfl
theorem csl_9188 : x_look 9188 x_cslT = some (1000000) := rfl
theorem csl_9200 : x_look 9200 x_cslT = some (1000000000) := rfl
theorem csl_9205 : x_look 9205 x_cslT = some (100) := rfl
theorem csl_9229 : x_look 9229 x_cslT = some (9223372036854775807) := rfl
theorem csl_9239 : x_look 9239 x_cslT = some (11) := rfl
theorem csl_9241 : x_look 9241 x_cslT = some (10000) := rfl
theorem csl_9264 : x_look 9264 x_cslT = some (36) := rfl
theorem csl_9278 : x_look 9278 x_cslT = some (1000) := rfl
theorem csl_9286 : x_look 9286 x_cslT = some (12) := rfl
theorem csr_5064 : x_look 5064 x_strT = some (1010) := rfl
theorem csn_5064 : x_look 5064 x_cstT = none := rfl
theorem csr_5099 : x_look 5099 x_strT = some (1011) := rfl
theorem csn_5099 : x_look 5099 x_cstT = none := rfl
theorem csr_5117 : x_look 5117 x_strT = some (1012) := rfl
theorem csn_5117 : x_look 5117 x_cstT = none := rfl
theorem csr_9045 : x_look 9045 x_strT = some (1013) := rfl
theorem csn_9045 : x_look 9045 x_cstT = none := rfl

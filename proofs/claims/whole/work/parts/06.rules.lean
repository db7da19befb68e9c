/-! a row an instruction -/
/-- what a local holds -/
def zLk : List (Nat × Value) → Nat → Option Value
  | [], _ => none
  | (j, v) :: t, i => bif Nat.beq j i then some v else zLk t i
theorem zLk_mem : ∀ {lv : List (Nat × Value)} {i : Nat} {v : Value}, zLk lv i = some v → (i, v) ∈ lv
  | [], _, _, h => by cases h
  | (j, w) :: t, i, v, h => by
    unfold zLk at h
    cases hj : Nat.beq j i with
    | true =>
      rw [hj] at h
      cases h
      rw [Nat.eq_of_beq_eq_true hj]
      exact List.mem_cons_self
    | false =>
      rw [hj] at h
      exact List.mem_cons_of_mem _ (zLk_mem h)
def zS1 (lv : List (Nat × Value)) (i : Nat) (v : Value) : List (Nat × Value) := (i, v) :: lv.filter (fun q => !(q.1 == i) && !(q.1 + 1 == i && q.2.category == 2))
def zS2 (lv : List (Nat × Value)) (i : Nat) (v : Value) : List (Nat × Value) := (i, v) :: lv.filter (fun q => !(q.1 == i) && (!(q.1 == i + 1) && !(q.1 + 1 == i && q.2.category == 2)))
/-- a class of the worlds, its fields' words in the tables -/
def zCl (ci : Nat) (C : String) (T : u_T) (N : Nat) : Prop := vwCl[ci]? = some (C, T, N) ∧ ∀ w ∈ u_ws C T N, w ∈ zTT
section ZI
variable {X : zX} {md : zMD} {B : zBB} {rm : Nat × Nat × Nat} {n : Nat × Nat} {pc : Nat} {lv : List (Nat × Value)} {st : List Value} {h : zHp}
theorem zi_iadd {x y : Int32} (q : Nat) (d : decode md.2.1 pc = .ok (.iadd, 1))  (hq : pc + 1 = q) (kk : zG X md B rm n q lv (.int (x + y) :: st) h) : zG X md B rm n pc lv (.int y :: .int x :: st) h := by
  subst hq
  exact fun g ls H locs hl hw hs => lv_iadd g.1 g.2.1 d (kk g ls H locs hl hw hs)
theorem zi_isub {x y : Int32} (q : Nat) (d : decode md.2.1 pc = .ok (.isub, 1))  (hq : pc + 1 = q) (kk : zG X md B rm n q lv (.int (x - y) :: st) h) : zG X md B rm n pc lv (.int y :: .int x :: st) h := by
  subst hq
  exact fun g ls H locs hl hw hs => lv_isub g.1 g.2.1 d (kk g ls H locs hl hw hs)
theorem zi_imul {x y : Int32} (q : Nat) (d : decode md.2.1 pc = .ok (.imul, 1))  (hq : pc + 1 = q) (kk : zG X md B rm n q lv (.int (x * y) :: st) h) : zG X md B rm n pc lv (.int y :: .int x :: st) h := by
  subst hq
  exact fun g ls H locs hl hw hs => lv_imul g.1 g.2.1 d (kk g ls H locs hl hw hs)
theorem zi_iand {x y : Int32} (q : Nat) (d : decode md.2.1 pc = .ok (.iand, 1))  (hq : pc + 1 = q) (kk : zG X md B rm n q lv (.int (x &&& y) :: st) h) : zG X md B rm n pc lv (.int y :: .int x :: st) h := by
  subst hq
  exact fun g ls H locs hl hw hs => lv_iand g.1 g.2.1 d (kk g ls H locs hl hw hs)
theorem zi_ishl {x y : Int32} (q : Nat) (d : decode md.2.1 pc = .ok (.ishl, 1))  (hq : pc + 1 = q) (kk : zG X md B rm n q lv (.int (x <<< (y &&& 31)) :: st) h) : zG X md B rm n pc lv (.int y :: .int x :: st) h := by
  subst hq
  exact fun g ls H locs hl hw hs => lv_ishl g.1 g.2.1 d (kk g ls H locs hl hw hs)
theorem zi_ishr {x y : Int32} (q : Nat) (d : decode md.2.1 pc = .ok (.ishr, 1))  (hq : pc + 1 = q) (kk : zG X md B rm n q lv (.int (x >>> (y &&& 31)) :: st) h) : zG X md B rm n pc lv (.int y :: .int x :: st) h := by
  subst hq
  exact fun g ls H locs hl hw hs => lv_ishr g.1 g.2.1 d (kk g ls H locs hl hw hs)
theorem zi_idiv {x y : Int32} (q : Nat) (d : decode md.2.1 pc = .ok (.idiv, 1)) (hn : ¬ y = 0) (hq : pc + 1 = q) (kk : zG X md B rm n q lv (.int (x / y) :: st) h) : zG X md B rm n pc lv (.int y :: .int x :: st) h := by
  subst hq
  exact fun g ls H locs hl hw hs => lv_idiv g.1 g.2.1 d hn (kk g ls H locs hl hw hs)
theorem zi_irem {x y : Int32} (q : Nat) (d : decode md.2.1 pc = .ok (.irem, 1)) (hn : ¬ y = 0) (hq : pc + 1 = q) (kk : zG X md B rm n q lv (.int (x - x / y * y) :: st) h) : zG X md B rm n pc lv (.int y :: .int x :: st) h := by
  subst hq
  exact fun g ls H locs hl hw hs => lv_irem g.1 g.2.1 d hn (kk g ls H locs hl hw hs)
theorem zi_ineg {x : Int32} (q : Nat) (d : decode md.2.1 pc = .ok (.ineg, 1))  (hq : pc + 1 = q) (kk : zG X md B rm n q lv (.int (-x) :: st) h) : zG X md B rm n pc lv (.int x :: st) h := by
  subst hq
  exact fun g ls H locs hl hw hs => lv_ineg g.1 g.2.1 d (kk g ls H locs hl hw hs)
theorem zi_ladd {x y : Int64} (q : Nat) (d : decode md.2.1 pc = .ok (.ladd, 1))  (hq : pc + 1 = q) (kk : zG X md B rm n q lv (.long (x + y) :: st) h) : zG X md B rm n pc lv (.long y :: .long x :: st) h := by
  subst hq
  exact fun g ls H locs hl hw hs => lv_ladd g.1 g.2.1 d (kk g ls H locs hl hw hs)
theorem zi_lsub {x y : Int64} (q : Nat) (d : decode md.2.1 pc = .ok (.lsub, 1))  (hq : pc + 1 = q) (kk : zG X md B rm n q lv (.long (x - y) :: st) h) : zG X md B rm n pc lv (.long y :: .long x :: st) h := by
  subst hq
  exact fun g ls H locs hl hw hs => lv_lsub g.1 g.2.1 d (kk g ls H locs hl hw hs)
theorem zi_lmul {x y : Int64} (q : Nat) (d : decode md.2.1 pc = .ok (.lmul, 1))  (hq : pc + 1 = q) (kk : zG X md B rm n q lv (.long (x * y) :: st) h) : zG X md B rm n pc lv (.long y :: .long x :: st) h := by
  subst hq
  exact fun g ls H locs hl hw hs => lv_lmul g.1 g.2.1 d (kk g ls H locs hl hw hs)
theorem zi_land {x y : Int64} (q : Nat) (d : decode md.2.1 pc = .ok (.land, 1))  (hq : pc + 1 = q) (kk : zG X md B rm n q lv (.long (x &&& y) :: st) h) : zG X md B rm n pc lv (.long y :: .long x :: st) h := by
  subst hq
  exact fun g ls H locs hl hw hs => lv_land g.1 g.2.1 d (kk g ls H locs hl hw hs)
theorem zi_lor {x y : Int64} (q : Nat) (d : decode md.2.1 pc = .ok (.lor, 1))  (hq : pc + 1 = q) (kk : zG X md B rm n q lv (.long (x ||| y) :: st) h) : zG X md B rm n pc lv (.long y :: .long x :: st) h := by
  subst hq
  exact fun g ls H locs hl hw hs => lv_lor g.1 g.2.1 d (kk g ls H locs hl hw hs)
theorem zi_lxor {x y : Int64} (q : Nat) (d : decode md.2.1 pc = .ok (.lxor, 1))  (hq : pc + 1 = q) (kk : zG X md B rm n q lv (.long (x ^^^ y) :: st) h) : zG X md B rm n pc lv (.long y :: .long x :: st) h := by
  subst hq
  exact fun g ls H locs hl hw hs => lv_lxor g.1 g.2.1 d (kk g ls H locs hl hw hs)
theorem zi_ldiv {x y : Int64} (q : Nat) (d : decode md.2.1 pc = .ok (.ldiv, 1)) (hn : ¬ y = 0) (hq : pc + 1 = q) (kk : zG X md B rm n q lv (.long (x / y) :: st) h) : zG X md B rm n pc lv (.long y :: .long x :: st) h := by
  subst hq
  exact fun g ls H locs hl hw hs => lv_ldiv g.1 g.2.1 d hn (kk g ls H locs hl hw hs)
theorem zi_lrem {x y : Int64} (q : Nat) (d : decode md.2.1 pc = .ok (.lrem, 1)) (hn : ¬ y = 0) (hq : pc + 1 = q) (kk : zG X md B rm n q lv (.long (x - x / y * y) :: st) h) : zG X md B rm n pc lv (.long y :: .long x :: st) h := by
  subst hq
  exact fun g ls H locs hl hw hs => lv_lrem g.1 g.2.1 d hn (kk g ls H locs hl hw hs)
theorem zi_lneg {x : Int64} (q : Nat) (d : decode md.2.1 pc = .ok (.lneg, 1))  (hq : pc + 1 = q) (kk : zG X md B rm n q lv (.long (-x) :: st) h) : zG X md B rm n pc lv (.long x :: st) h := by
  subst hq
  exact fun g ls H locs hl hw hs => lv_lneg g.1 g.2.1 d (kk g ls H locs hl hw hs)
theorem zi_lcmp {x y : Int64} (q : Nat) (d : decode md.2.1 pc = .ok (.lcmp, 1))  (hq : pc + 1 = q) (kk : zG X md B rm n q lv (.int (lg_cmp x y) :: st) h) : zG X md B rm n pc lv (.long y :: .long x :: st) h := by
  subst hq
  exact fun g ls H locs hl hw hs => W.lcmp g.1 g.2.1 d (kk g ls H locs hl hw hs)
theorem zi_lshl {x : Int64} {y : Int32} (q : Nat) (d : decode md.2.1 pc = .ok (.lshl, 1))  (hq : pc + 1 = q) (kk : zG X md B rm n q lv (.long (x <<< (y.toInt64 &&& 63)) :: st) h) : zG X md B rm n pc lv (.int y :: .long x :: st) h := by
  subst hq
  exact fun g ls H locs hl hw hs => lv_lshl g.1 g.2.1 d rfl (kk g ls H locs hl hw hs)
theorem zi_i2l {x : Int32} (q : Nat) (d : decode md.2.1 pc = .ok (.i2l, 1))  (hq : pc + 1 = q) (kk : zG X md B rm n q lv (.long x.toInt64 :: st) h) : zG X md B rm n pc lv (.int x :: st) h := by
  subst hq
  exact fun g ls H locs hl hw hs => lv_i2l g.1 g.2.1 d rfl (kk g ls H locs hl hw hs)
theorem zi_l2i {x : Int64} (q : Nat) (d : decode md.2.1 pc = .ok (.l2i, 1))  (hq : pc + 1 = q) (kk : zG X md B rm n q lv (.int x.toInt32 :: st) h) : zG X md B rm n pc lv (.long x :: st) h := by
  subst hq
  exact fun g ls H locs hl hw hs => lv_l2i g.1 g.2.1 d rfl (kk g ls H locs hl hw hs)
theorem zi_i2b {x : Int32} (q : Nat) (d : decode md.2.1 pc = .ok (.i2b, 1))  (hq : pc + 1 = q) (kk : zG X md B rm n q lv (.int x.toInt8.toInt32 :: st) h) : zG X md B rm n pc lv (.int x :: st) h := by
  subst hq
  exact fun g ls H locs hl hw hs => lv_i2b g.1 g.2.1 d rfl (kk g ls H locs hl hw hs)
theorem zi_iconst {m : Int} {v : Int32} (q : Nat) (d : decode md.2.1 pc = .ok (.iconst m, 1)) (hv : Int32.ofInt m = v) (hq : pc + 1 = q) (kk : zG X md B rm n q lv (.int v :: st) h) : zG X md B rm n pc lv (st) h := by
  subst hq
  exact fun g ls H locs hl hw hs => lv_iconst g.1 g.2.1 d hv (kk g ls H locs hl hw hs)
theorem zi_bipush {m : Int} {v : Int32} (q : Nat) (d : decode md.2.1 pc = .ok (.bipush m, 2)) (hv : (Int8.ofInt m).toInt32 = v) (hq : pc + 2 = q) (kk : zG X md B rm n q lv (.int v :: st) h) : zG X md B rm n pc lv (st) h := by
  subst hq
  exact fun g ls H locs hl hw hs => lv_bipush g.1 g.2.1 d hv (kk g ls H locs hl hw hs)
theorem zi_sipush {m : Int} {v : Int32} (q : Nat) (d : decode md.2.1 pc = .ok (.sipush m, 3)) (hv : (Int16.ofInt m).toInt32 = v) (hq : pc + 3 = q) (kk : zG X md B rm n q lv (.int v :: st) h) : zG X md B rm n pc lv (st) h := by
  subst hq
  exact fun g ls H locs hl hw hs => lv_sipush g.1 g.2.1 d hv (kk g ls H locs hl hw hs)
theorem zi_lconst {m : Fin 2} {v : Int64} (q : Nat) (d : decode md.2.1 pc = .ok (.lconst m, 1)) (hv : Int64.ofNat (m : Nat) = v) (hq : pc + 1 = q) (kk : zG X md B rm n q lv (.long v :: st) h) : zG X md B rm n pc lv (st) h := by
  subst hq
  exact fun g ls H locs hl hw hs => lv_lconst g.1 g.2.1 d hv (kk g ls H locs hl hw hs)
theorem zi_ldc {i : Nat} {v : Int32} (q : Nat) (d : decode md.2.1 pc = .ok (.ldc i, 2)) (hc : Cond.constant md.1.cls i v ∈ zTT) (hq : pc + 2 = q) (kk : zG X md B rm n q lv (.int v :: st) h) : zG X md B rm n pc lv (st) h := by
  subst hq
  exact fun g ls H locs hl hw hs => lv_ldc g.1 g.2.1 g.2.2.2.1 (g.2.2.2.2.1 _ hc) d (kk g ls H locs hl hw hs)
theorem zi_ldc2 {i : Nat} {v : Int64} (q : Nat) (d : decode md.2.1 pc = .ok (.ldc2_w i, 3)) (hc : Cond.constantLong md.1.cls i v ∈ zTT) (hq : pc + 3 = q) (kk : zG X md B rm n q lv (.long v :: st) h) : zG X md B rm n pc lv (st) h := by
  subst hq
  exact fun g ls H locs hl hw hs => lv_ldc2 g.1 g.2.1 g.2.2.2.1 (g.2.2.2.2.1 _ hc) d (kk g ls H locs hl hw hs)
theorem zi_aconst_null  (q : Nat) (d : decode md.2.1 pc = .ok (.aconst_null, 1))  (hq : pc + 1 = q) (kk : zG X md B rm n q lv (.null :: st) h) : zG X md B rm n pc lv (st) h := by
  subst hq
  exact fun g ls H locs hl hw hs => lv_null g.1 g.2.1 d (kk g ls H locs hl hw hs)
theorem zi_iload_n {k : Fin 4} {x : Int32} (q : Nat) (d : decode md.2.1 pc = .ok (.iload_n k, 1)) (hk : zLk lv (k : Nat) = some (.int x)) (hq : pc + 1 = q) (kk : zG X md B rm n q lv (.int x :: st) h) : zG X md B rm n pc lv (st) h := by
  subst hq
  exact fun g ls H locs hl hw hs => lv_iload_n g.1 g.2.1 d rfl (hl.2.2 (_, _) (zLk_mem hk)) (kk g ls H locs hl hw hs)
theorem zi_iload {k : Nat} {x : Int32} (q : Nat) (d : decode md.2.1 pc = .ok (.iload k, 2)) (hk : zLk lv k = some (.int x)) (hq : pc + 2 = q) (kk : zG X md B rm n q lv (.int x :: st) h) : zG X md B rm n pc lv (st) h := by
  subst hq
  exact fun g ls H locs hl hw hs => lv_iload g.1 g.2.1 d (hl.2.2 (_, _) (zLk_mem hk)) (kk g ls H locs hl hw hs)
theorem zi_lload_n {k : Fin 4} {x : Int64} (q : Nat) (d : decode md.2.1 pc = .ok (.lload_n k, 1)) (hk : zLk lv (k : Nat) = some (.long x)) (hq : pc + 1 = q) (kk : zG X md B rm n q lv (.long x :: st) h) : zG X md B rm n pc lv (st) h := by
  subst hq
  exact fun g ls H locs hl hw hs => lv_lload_n g.1 g.2.1 d rfl (hl.2.2 (_, _) (zLk_mem hk)) (kk g ls H locs hl hw hs)
theorem zi_lload {k : Nat} {x : Int64} (q : Nat) (d : decode md.2.1 pc = .ok (.lload k, 2)) (hk : zLk lv k = some (.long x)) (hq : pc + 2 = q) (kk : zG X md B rm n q lv (.long x :: st) h) : zG X md B rm n pc lv (st) h := by
  subst hq
  exact fun g ls H locs hl hw hs => lv_lload g.1 g.2.1 d (hl.2.2 (_, _) (zLk_mem hk)) (kk g ls H locs hl hw hs)
theorem zi_aload_n {k : Fin 4} {x : Nat} (q : Nat) (d : decode md.2.1 pc = .ok (.aload_n k, 1)) (hk : zLk lv (k : Nat) = some (.ref x)) (hq : pc + 1 = q) (kk : zG X md B rm n q lv (.ref x :: st) h) : zG X md B rm n pc lv (st) h := by
  subst hq
  exact fun g ls H locs hl hw hs => lv_aload_n g.1 g.2.1 d rfl (hl.2.2 (_, _) (zLk_mem hk)) (kk g ls H locs hl hw hs)
theorem zi_aload {k : Nat} {x : Nat} (q : Nat) (d : decode md.2.1 pc = .ok (.aload k, 2)) (hk : zLk lv k = some (.ref x)) (hq : pc + 2 = q) (kk : zG X md B rm n q lv (.ref x :: st) h) : zG X md B rm n pc lv (st) h := by
  subst hq
  exact fun g ls H locs hl hw hs => lv_aload g.1 g.2.1 d (hl.2.2 (_, _) (zLk_mem hk)) (kk g ls H locs hl hw hs)
theorem zi_aload_nN {k : Fin 4} (q : Nat) (d : decode md.2.1 pc = .ok (.aload_n k, 1)) (hk : zLk lv (k : Nat) = some .null) (hq : pc + 1 = q) (kk : zG X md B rm n q lv (.null :: st) h) : zG X md B rm n pc lv (st) h := by
  subst hq
  exact fun g ls H locs hl hw hs => lv_aload_nN g.1 g.2.1 d rfl (hl.2.2 (_, _) (zLk_mem hk)) (kk g ls H locs hl hw hs)
theorem zi_aloadN {k : Nat} (q : Nat) (d : decode md.2.1 pc = .ok (.aload k, 2)) (hk : zLk lv k = some .null) (hq : pc + 2 = q) (kk : zG X md B rm n q lv (.null :: st) h) : zG X md B rm n pc lv (st) h := by
  subst hq
  exact fun g ls H locs hl hw hs => lv_aloadN g.1 g.2.1 d (hl.2.2 (_, _) (zLk_mem hk)) (kk g ls H locs hl hw hs)
theorem zi_dup {v : Value} (q : Nat) (d : decode md.2.1 pc = .ok (.dup, 1)) (hv : v.category = 1) (hq : pc + 1 = q) (kk : zG X md B rm n q lv (v :: v :: st) h) : zG X md B rm n pc lv (v :: st) h := by
  subst hq
  exact fun g ls H locs hl hw hs => lv_dup g.1 g.2.1 d hv (kk g ls H locs hl hw hs)
theorem zi_dup2_11 {v w : Value} (q : Nat) (d : decode md.2.1 pc = .ok (.dup2, 1)) (hv : v.category = 1) (hw1 : w.category = 1) (hq : pc + 1 = q) (kk : zG X md B rm n q lv (v :: w :: v :: w :: st) h) : zG X md B rm n pc lv (v :: w :: st) h := by
  subst hq
  exact fun g ls H locs hl hw hs => lv_dup2_11 g.1 g.2.1 d hv hw1 (kk g ls H locs hl hw hs)
theorem zi_dup2_2 {v : Value} (q : Nat) (d : decode md.2.1 pc = .ok (.dup2, 1)) (hv : v.category = 2) (hq : pc + 1 = q) (kk : zG X md B rm n q lv (v :: v :: st) h) : zG X md B rm n pc lv (v :: st) h := by
  subst hq
  exact fun g ls H locs hl hw hs => lv_dup2_2 g.1 g.2.1 d hv (kk g ls H locs hl hw hs)
theorem zi_pop {v : Value} (q : Nat) (d : decode md.2.1 pc = .ok (.pop, 1)) (hv : v.category = 1) (hq : pc + 1 = q) (kk : zG X md B rm n q lv (st) h) : zG X md B rm n pc lv (v :: st) h := by
  subst hq
  exact fun g ls H locs hl hw hs => lv_pop g.1 g.2.1 d hv (kk g ls H locs hl hw hs)
theorem zi_istore_n {k : Fin 4} {x : Int32} {lv' : List (Nat × Value)} (q : Nat) (d : decode md.2.1 pc = .ok (.istore_n k, 1)) (hn : Nat.ble ((k : Nat) + 1) md.2.2.1 = true) (hs1 : zS1 lv (k : Nat) (.int x) = lv') (hq : pc + 1 = q) (kk : zG X md B rm n q lv' st h) : zG X md B rm n pc lv (.int x :: st) h := by
  subst hq
  exact fun g ls H locs hl hw hs => lv_istore_n g.1 g.2.1 d rfl hl (by have := Nat.le_of_ble_eq_true hn; omega) hs1 (fun ls1 hl1 => kk g ls1 H locs hl1 hw hs)
theorem zi_istore {k : Nat} {x : Int32} {lv' : List (Nat × Value)} (q : Nat) (d : decode md.2.1 pc = .ok (.istore k, 2)) (hn : Nat.ble (k + 1) md.2.2.1 = true) (hs1 : zS1 lv k (.int x) = lv') (hq : pc + 2 = q) (kk : zG X md B rm n q lv' st h) : zG X md B rm n pc lv (.int x :: st) h := by
  subst hq
  exact fun g ls H locs hl hw hs => lv_istore g.1 g.2.1 d hl (by have := Nat.le_of_ble_eq_true hn; omega) hs1 (fun ls1 hl1 => kk g ls1 H locs hl1 hw hs)
theorem zi_lstore_n {k : Fin 4} {x : Int64} {lv' : List (Nat × Value)} (q : Nat) (d : decode md.2.1 pc = .ok (.lstore_n k, 1)) (hn : Nat.ble ((k : Nat) + 2) md.2.2.1 = true) (hs1 : zS2 lv (k : Nat) (.long x) = lv') (hq : pc + 1 = q) (kk : zG X md B rm n q lv' st h) : zG X md B rm n pc lv (.long x :: st) h := by
  subst hq
  exact fun g ls H locs hl hw hs => lv_lstore_n g.1 g.2.1 d rfl hl (by have := Nat.le_of_ble_eq_true hn; omega) hs1 (fun ls1 hl1 => kk g ls1 H locs hl1 hw hs)
theorem zi_lstore {k : Nat} {x : Int64} {lv' : List (Nat × Value)} (q : Nat) (d : decode md.2.1 pc = .ok (.lstore k, 2)) (hn : Nat.ble (k + 2) md.2.2.1 = true) (hs1 : zS2 lv k (.long x) = lv') (hq : pc + 2 = q) (kk : zG X md B rm n q lv' st h) : zG X md B rm n pc lv (.long x :: st) h := by
  subst hq
  exact fun g ls H locs hl hw hs => lv_lstore g.1 g.2.1 d hl (by have := Nat.le_of_ble_eq_true hn; omega) hs1 (fun ls1 hl1 => kk g ls1 H locs hl1 hw hs)
theorem zi_astore_n {k : Fin 4} {x : Nat} {lv' : List (Nat × Value)} (q : Nat) (d : decode md.2.1 pc = .ok (.astore_n k, 1)) (hn : Nat.ble ((k : Nat) + 1) md.2.2.1 = true) (hs1 : zS1 lv (k : Nat) (.ref x) = lv') (hq : pc + 1 = q) (kk : zG X md B rm n q lv' st h) : zG X md B rm n pc lv (.ref x :: st) h := by
  subst hq
  exact fun g ls H locs hl hw hs => lv_astore_n g.1 g.2.1 d rfl hl (by have := Nat.le_of_ble_eq_true hn; omega) hs1 (fun ls1 hl1 => kk g ls1 H locs hl1 hw hs)
theorem zi_astore {k : Nat} {x : Nat} {lv' : List (Nat × Value)} (q : Nat) (d : decode md.2.1 pc = .ok (.astore k, 2)) (hn : Nat.ble (k + 1) md.2.2.1 = true) (hs1 : zS1 lv k (.ref x) = lv') (hq : pc + 2 = q) (kk : zG X md B rm n q lv' st h) : zG X md B rm n pc lv (.ref x :: st) h := by
  subst hq
  exact fun g ls H locs hl hw hs => lv_astore g.1 g.2.1 d hl (by have := Nat.le_of_ble_eq_true hn; omega) hs1 (fun ls1 hl1 => kk g ls1 H locs hl1 hw hs)
theorem zi_astore_nN {k : Fin 4} {lv' : List (Nat × Value)} (q : Nat) (d : decode md.2.1 pc = .ok (.astore_n k, 1)) (hn : Nat.ble ((k : Nat) + 1) md.2.2.1 = true) (hs1 : zS1 lv (k : Nat) (.null) = lv') (hq : pc + 1 = q) (kk : zG X md B rm n q lv' st h) : zG X md B rm n pc lv (.null :: st) h := by
  subst hq
  exact fun g ls H locs hl hw hs => lv_astore_nN g.1 g.2.1 d rfl hl (by have := Nat.le_of_ble_eq_true hn; omega) hs1 (fun ls1 hl1 => kk g ls1 H locs hl1 hw hs)
theorem zi_astoreN {k : Nat} {lv' : List (Nat × Value)} (q : Nat) (d : decode md.2.1 pc = .ok (.astore k, 2)) (hn : Nat.ble (k + 1) md.2.2.1 = true) (hs1 : zS1 lv k (.null) = lv') (hq : pc + 2 = q) (kk : zG X md B rm n q lv' st h) : zG X md B rm n pc lv (.null :: st) h := by
  subst hq
  exact fun g ls H locs hl hw hs => lv_astoreN g.1 g.2.1 d hl (by have := Nat.le_of_ble_eq_true hn; omega) hs1 (fun ls1 hl1 => kk g ls1 H locs hl1 hw hs)
theorem zi_iinc {i : Nat} {m : Int} {x v : Int32} {lv' : List (Nat × Value)} (q : Nat) (d : decode md.2.1 pc = .ok (.iinc i m, 3)) (hk : zLk lv i = some (.int x)) (hv : x + Int32.ofInt m = v) (hn : Nat.ble (i + 1) md.2.2.1 = true) (hs1 : zS1 lv i (.int v) = lv') (hq : pc + 3 = q) (kk : zG X md B rm n q lv' st h) : zG X md B rm n pc lv st h := by
  subst hq
  intro g ls H locs hl hw hs
  obtain ⟨k, hk1⟩ := List.getElem?_of_mem (zLk_mem hk)
  exact lv_iinc g.1 g.2.1 d hl hk1 hv (by have := Nat.le_of_ble_eq_true hn; omega) hs1 (fun ls1 hl1 => kk g ls1 H locs hl1 hw hs)
/-- fewer locals, in another order -/
theorem zi_lv {lv' : List (Nat × Value)} (ks : List Nat) (hp : lv_pick lv ks = lv') (kk : zG X md B rm n pc lv' st h) : zG X md B rm n pc lv st h := fun g ls H locs hl hw hs => kk g ls H locs (lv_sub hl ks hp) hw hs
theorem zi_lvm {lv' : List (Nat × Value)} (hp : ∀ q ∈ lv', q ∈ lv) (kk : zG X md B rm n pc lv' st h) : zG X md B rm n pc lv st h := fun g ls H locs hl hw hs => kk g ls H locs ⟨hl.1, hl.2.1, fun q hq => hl.2.2 q (hp q hq)⟩ hw hs
theorem zi_goto {off : Int} (q : Nat) (d : decode md.2.1 pc = .ok (.goto off, 3)) (ht : (pc : Int) + off = (q : Int)) (kk : zG X md B rm n q lv st h) : zG X md B rm n pc lv st h := fun g ls H locs hl hw hs => lv_goto g.1 g.2.1 d ht (kk g ls H locs hl hw hs)
theorem zi_if_eq {x : Int32} {off : Int} (q t : Nat) (d : decode md.2.1 pc = .ok (.ifCond .eq off, 3)) (ht : (pc : Int) + off = (t : Int)) (hq : pc + 3 = q) (kt : x = 0 → zG X md B rm n t lv st h) (kf : ¬ x = 0 → zG X md B rm n q lv st h) : zG X md B rm n pc lv (.int x :: st) h := by
  subst hq
  exact fun g ls H locs hl hw hs => lv_if_eq g.1 g.2.1 d ht (fun hc => kt hc g ls H locs hl hw hs) (fun hc => kf hc g ls H locs hl hw hs)
theorem zi_icmp_eq {x y : Int32} {off : Int} (q t : Nat) (d : decode md.2.1 pc = .ok (.if_icmp .eq off, 3)) (ht : (pc : Int) + off = (t : Int)) (hq : pc + 3 = q) (kt : x = y → zG X md B rm n t lv st h) (kf : ¬ x = y → zG X md B rm n q lv st h) : zG X md B rm n pc lv (.int y :: .int x :: st) h := by
  subst hq
  exact fun g ls H locs hl hw hs => lv_icmp_eq g.1 g.2.1 d ht (fun hc => kt hc g ls H locs hl hw hs) (fun hc => kf hc g ls H locs hl hw hs)
theorem zi_if_ne {x : Int32} {off : Int} (q t : Nat) (d : decode md.2.1 pc = .ok (.ifCond .ne off, 3)) (ht : (pc : Int) + off = (t : Int)) (hq : pc + 3 = q) (kt : ¬ x = 0 → zG X md B rm n t lv st h) (kf : x = 0 → zG X md B rm n q lv st h) : zG X md B rm n pc lv (.int x :: st) h := by
  subst hq
  exact fun g ls H locs hl hw hs => lv_if_ne g.1 g.2.1 d ht (fun hc => kt hc g ls H locs hl hw hs) (fun hc => kf hc g ls H locs hl hw hs)
theorem zi_icmp_ne {x y : Int32} {off : Int} (q t : Nat) (d : decode md.2.1 pc = .ok (.if_icmp .ne off, 3)) (ht : (pc : Int) + off = (t : Int)) (hq : pc + 3 = q) (kt : ¬ x = y → zG X md B rm n t lv st h) (kf : x = y → zG X md B rm n q lv st h) : zG X md B rm n pc lv (.int y :: .int x :: st) h := by
  subst hq
  exact fun g ls H locs hl hw hs => lv_icmp_ne g.1 g.2.1 d ht (fun hc => kt hc g ls H locs hl hw hs) (fun hc => kf hc g ls H locs hl hw hs)
theorem zi_if_lt {x : Int32} {off : Int} (q t : Nat) (d : decode md.2.1 pc = .ok (.ifCond .lt off, 3)) (ht : (pc : Int) + off = (t : Int)) (hq : pc + 3 = q) (kt : x < 0 → zG X md B rm n t lv st h) (kf : ¬ x < 0 → zG X md B rm n q lv st h) : zG X md B rm n pc lv (.int x :: st) h := by
  subst hq
  exact fun g ls H locs hl hw hs => lv_if_lt g.1 g.2.1 d ht (fun hc => kt hc g ls H locs hl hw hs) (fun hc => kf hc g ls H locs hl hw hs)
theorem zi_icmp_lt {x y : Int32} {off : Int} (q t : Nat) (d : decode md.2.1 pc = .ok (.if_icmp .lt off, 3)) (ht : (pc : Int) + off = (t : Int)) (hq : pc + 3 = q) (kt : x < y → zG X md B rm n t lv st h) (kf : ¬ x < y → zG X md B rm n q lv st h) : zG X md B rm n pc lv (.int y :: .int x :: st) h := by
  subst hq
  exact fun g ls H locs hl hw hs => lv_icmp_lt g.1 g.2.1 d ht (fun hc => kt hc g ls H locs hl hw hs) (fun hc => kf hc g ls H locs hl hw hs)
theorem zi_if_ge {x : Int32} {off : Int} (q t : Nat) (d : decode md.2.1 pc = .ok (.ifCond .ge off, 3)) (ht : (pc : Int) + off = (t : Int)) (hq : pc + 3 = q) (kt : 0 ≤ x → zG X md B rm n t lv st h) (kf : ¬ 0 ≤ x → zG X md B rm n q lv st h) : zG X md B rm n pc lv (.int x :: st) h := by
  subst hq
  exact fun g ls H locs hl hw hs => lv_if_ge g.1 g.2.1 d ht (fun hc => kt hc g ls H locs hl hw hs) (fun hc => kf hc g ls H locs hl hw hs)
theorem zi_icmp_ge {x y : Int32} {off : Int} (q t : Nat) (d : decode md.2.1 pc = .ok (.if_icmp .ge off, 3)) (ht : (pc : Int) + off = (t : Int)) (hq : pc + 3 = q) (kt : y ≤ x → zG X md B rm n t lv st h) (kf : ¬ y ≤ x → zG X md B rm n q lv st h) : zG X md B rm n pc lv (.int y :: .int x :: st) h := by
  subst hq
  exact fun g ls H locs hl hw hs => lv_icmp_ge g.1 g.2.1 d ht (fun hc => kt hc g ls H locs hl hw hs) (fun hc => kf hc g ls H locs hl hw hs)
theorem zi_if_gt {x : Int32} {off : Int} (q t : Nat) (d : decode md.2.1 pc = .ok (.ifCond .gt off, 3)) (ht : (pc : Int) + off = (t : Int)) (hq : pc + 3 = q) (kt : 0 < x → zG X md B rm n t lv st h) (kf : ¬ 0 < x → zG X md B rm n q lv st h) : zG X md B rm n pc lv (.int x :: st) h := by
  subst hq
  exact fun g ls H locs hl hw hs => lv_if_gt g.1 g.2.1 d ht (fun hc => kt hc g ls H locs hl hw hs) (fun hc => kf hc g ls H locs hl hw hs)
theorem zi_icmp_gt {x y : Int32} {off : Int} (q t : Nat) (d : decode md.2.1 pc = .ok (.if_icmp .gt off, 3)) (ht : (pc : Int) + off = (t : Int)) (hq : pc + 3 = q) (kt : y < x → zG X md B rm n t lv st h) (kf : ¬ y < x → zG X md B rm n q lv st h) : zG X md B rm n pc lv (.int y :: .int x :: st) h := by
  subst hq
  exact fun g ls H locs hl hw hs => lv_icmp_gt g.1 g.2.1 d ht (fun hc => kt hc g ls H locs hl hw hs) (fun hc => kf hc g ls H locs hl hw hs)
theorem zi_if_le {x : Int32} {off : Int} (q t : Nat) (d : decode md.2.1 pc = .ok (.ifCond .le off, 3)) (ht : (pc : Int) + off = (t : Int)) (hq : pc + 3 = q) (kt : x ≤ 0 → zG X md B rm n t lv st h) (kf : ¬ x ≤ 0 → zG X md B rm n q lv st h) : zG X md B rm n pc lv (.int x :: st) h := by
  subst hq
  exact fun g ls H locs hl hw hs => lv_if_le g.1 g.2.1 d ht (fun hc => kt hc g ls H locs hl hw hs) (fun hc => kf hc g ls H locs hl hw hs)
theorem zi_icmp_le {x y : Int32} {off : Int} (q t : Nat) (d : decode md.2.1 pc = .ok (.if_icmp .le off, 3)) (ht : (pc : Int) + off = (t : Int)) (hq : pc + 3 = q) (kt : x ≤ y → zG X md B rm n t lv st h) (kf : ¬ x ≤ y → zG X md B rm n q lv st h) : zG X md B rm n pc lv (.int y :: .int x :: st) h := by
  subst hq
  exact fun g ls H locs hl hw hs => lv_icmp_le g.1 g.2.1 d ht (fun hc => kt hc g ls H locs hl hw hs) (fun hc => kf hc g ls H locs hl hw hs)
theorem zi_ifnonnull {a : Nat} {off : Int} (t : Nat) (d : decode md.2.1 pc = .ok (.ifnonnull off, 3)) (ht : (pc : Int) + off = (t : Int)) (kk : zG X md B rm n t lv st h) : zG X md B rm n pc lv (.ref a :: st) h := fun g ls H locs hl hw hs => lv_ifnonnull g.1 g.2.1 d ht (kk g ls H locs hl hw hs)
theorem zi_ifnonnullN {off : Int} (q : Nat) (d : decode md.2.1 pc = .ok (.ifnonnull off, 3)) (hq : pc + 3 = q) (kk : zG X md B rm n q lv st h) : zG X md B rm n pc lv (.null :: st) h := by
  subst hq
  exact fun g ls H locs hl hw hs => lv_ifnonnullN g.1 g.2.1 d (kk g ls H locs hl hw hs)
theorem zi_ifnull {a : Nat} {off : Int} (q : Nat) (d : decode md.2.1 pc = .ok (.ifnull off, 3)) (hq : pc + 3 = q) (kk : zG X md B rm n q lv st h) : zG X md B rm n pc lv (.ref a :: st) h := by
  subst hq
  exact fun g ls H locs hl hw hs => lv_ifnull g.1 g.2.1 d (kk g ls H locs hl hw hs)
theorem zi_ifnullN {off : Int} (t : Nat) (d : decode md.2.1 pc = .ok (.ifnull off, 3)) (ht : (pc : Int) + off = (t : Int)) (kk : zG X md B rm n t lv st h) : zG X md B rm n pc lv (.null :: st) h := fun g ls H locs hl hw hs => lv_ifnullN g.1 g.2.1 d ht (kk g ls H locs hl hw hs)
theorem zi_tableOut {dflt lo hi : Int} {offs : Array Int} {len : Nat} {x : Int32} (t : Nat) (d : decode md.2.1 pc = .ok (.tableswitch dflt lo hi offs, len)) (hc : x.toInt < lo ∨ hi < x.toInt) (ht : (pc : Int) + dflt = (t : Int)) (kk : zG X md B rm n t lv st h) : zG X md B rm n pc lv (.int x :: st) h := fun g ls H locs hl hw hs => lv_tableOut g.1 g.2.1 d hc ht (kk g ls H locs hl hw hs)
theorem zi_tableIn {dflt lo hi : Int} {offs : Array Int} {len : Nat} {x : Int32} {off : Int} (t : Nat) (d : decode md.2.1 pc = .ok (.tableswitch dflt lo hi offs, len)) (h1 : ¬ x.toInt < lo) (h2 : ¬ hi < x.toInt) (ho : offs[(x.toInt - lo).toNat]? = some off) (ht : (pc : Int) + off = (t : Int)) (kk : zG X md B rm n t lv st h) : zG X md B rm n pc lv (.int x :: st) h := fun g ls H locs hl hw hs => lv_tableIn g.1 g.2.1 d h1 h2 ho ht (kk g ls H locs hl hw hs)
/-! fields and arrays -/
theorem zi_getfield {a ci idx N : Nat} {fs : List Value} {C ref : String} {T : u_T} {v : Value} (q k : Nat) (d : decode md.2.1 pc = .ok (.getfield idx, 3)) (hc : zCl ci C T N) (hlink : Cond.fieldLink md.1.cls idx ref (T k).2.1 (T k).2.2.1 ∈ zTT) (hk : Nat.ble (k + 1) N = true) (hsame : (T k).1 = ref) (ha : h a = some (.inr (ci, fs))) (hv : fs[k]? = some v) (hq : pc + 3 = q) (kk : zG X md B rm n q lv (v :: st) h) : zG X md B rm n pc lv (.ref a :: st) h := by
  subst hq
  subst hsame
  intro g ls H locs hl hw hs
  obtain ⟨L, p, -, hP, hD, hkk, -⟩ := zWd_get hw ha
  exact va_get (D := B.1) (Ts := zTT) g.1 g.2.1 g.2.2.2.2.1 hc.2 g.2.2.2.1 g.2.2.2.2.2.1.1 hP p hkk hc.1 k (Nat.le_of_ble_eq_true hk) (g.2.2.2.2.1 _ hlink) (fun _ h9 => h9) hv d (kk g ls H locs hl hw hs)
theorem zi_putfield {a ci idx N : Nat} {fs fs' : List Value} {C ref : String} {T : u_T} {v : Value} {ty : FieldType} (q k : Nat) (d : decode md.2.1 pc = .ok (.putfield idx, 3)) (hc : zCl ci C T N) (ty0 : Nat → FieldType) (hty : ∀ k, k < N → parseFieldDescriptor (T k).2.2.1 = some (ty0 k)) (hnm : ∀ a, a < N → ∀ b, b < N → a ≠ b → (T a).2.1 ≠ (T b).2.1) (hlink : Cond.fieldLink md.1.cls idx ref (T k).2.1 (T k).2.2.1 ∈ zTT) (hk : Nat.ble (k + 1) N = true) (hsame : (T k).1 = ref) (hfin : (T k).2.2.2 = false) (ha : h a = some (.inr (ci, fs))) (htk : ty0 k = ty) (hn : narrow ty v = v) (hfit : fits ty v = true) (hlf : Nat.ble (k + 1) fs.length = true) (hset : fs.set k v = fs') (hq : pc + 3 = q) (kk : zG X md B rm n q lv st (zU h a (.inr (ci, fs')))) : zG X md B rm n pc lv (v :: .ref a :: st) h := by
  subst hq
  subst hsame
  subst hset
  subst htk
  intro g ls H locs hl hw hs
  obtain ⟨L, p, hL, hP, hD, hkk, hm⟩ := zWd_get hw ha
  exact va_put (D := B.1) (Ts := zTT) g.1 g.2.1 g.2.2.2.2.1 hc.2 ty0 hty hnm g.2.2.2.1 g.2.2.2.2.2.1.1 hP hD hs p hkk hc.1 k (Nat.le_of_ble_eq_true hk) (g.2.2.2.2.1 _ hlink) (fun _ h9 => h9) hfin (hty k (Nat.le_of_ble_eq_true hk)) hn hfit (Nat.le_of_ble_eq_true hlf) d (fun H1 locs1 hP1 hD1 hS1 => kk g ls H1 locs1 hl (zWd_set hL hm ha hD hkk hP1 hD1) hS1)
theorem zi_putfieldF {a ci idx N : Nat} {fs fs' : List Value} {C ref : String} {T : u_T} {v : Value} {ty : FieldType} {Post : Option Value → zHp → Prop} {cp : Nat × Nat} (hZ : zIsP X md B cp Post) (q k : Nat) (d : decode md.2.1 pc = .ok (.putfield idx, 3)) (hc : zCl ci C T N) (ty0 : Nat → FieldType) (hty : ∀ k, k < N → parseFieldDescriptor (T k).2.2.1 = some (ty0 k)) (hnm : ∀ a, a < N → ∀ b, b < N → a ≠ b → (T a).2.1 ≠ (T b).2.1) (hlink : Cond.fieldLink md.1.cls idx ref (T k).2.1 (T k).2.2.1 ∈ zTT) (hk : Nat.ble (k + 1) N = true) (hsame : (T k).1 = ref) (hfin : (T k).2.2.2 = true) (hname : md.1.name = "<init>") (hdecl : (T k).1 = md.1.cls) (ha : h a = some (.inr (ci, fs))) (htk : ty0 k = ty) (hn : narrow ty v = v) (hfit : fits ty v = true) (hlf : Nat.ble (k + 1) fs.length = true) (hset : fs.set k v = fs') (hq : pc + 3 = q) (kk : zG X md B rm n q lv st (zU h a (.inr (ci, fs')))) : zG X md B rm n pc lv (v :: .ref a :: st) h := by
  subst hq
  subst hsame
  subst hset
  subst htk
  intro g ls H locs hl hw hs
  obtain ⟨L, p, hL, hP, hD, hkk, hm⟩ := zWd_get hw ha
  exact va_putF (D := B.1) (Ts := zTT) g.1 g.2.1 g.2.2.2.2.1 hc.2 ty0 hty hnm g.2.2.2.1 g.2.2.2.2.2.1.1 hP hD hs p hkk hc.1 k (Nat.le_of_ble_eq_true hk) (g.2.2.2.2.1 _ hlink) (fun _ h9 => h9) hfin (hZ.2.2.2.trans hname) hdecl (hty k (Nat.le_of_ble_eq_true hk)) hn hfit (Nat.le_of_ble_eq_true hlf) d (fun H1 locs1 hP1 hD1 hS1 => kk g ls H1 locs1 hl (zWd_set hL hm ha hD hkk hP1 hD1) hS1)
theorem zi_iaload {a nn : Nat} {f : Nat → Int32} {i : Int32} (q : Nat) (d : decode md.2.1 pc = .ok (.iaload, 1)) (ha : h a = some (zI B nn f)) (hin : vp_in i nn) (hq : pc + 1 = q) (kk : zG X md B rm n q lv (.int (f i.toNatClampNeg) :: st) h) : zG X md B rm n pc lv (.int i :: .ref a :: st) h := by
  subst hq
  intro g ls H locs hl hw hs
  obtain ⟨L, p, -, hP, hD, hkk, -⟩ := zWd_get hw ha
  exact va_iald (D := B.1) g.1 g.2.1 g.2.2.2.2.2.1.1 hP p 0 hkk rfl hin d (kk g ls H locs hl hw hs)
theorem zi_baload {a nn : Nat} {f : Nat → Int32} {i : Int32} (q : Nat) (d : decode md.2.1 pc = .ok (.baload, 1)) (ha : h a = some (zZb B nn f)) (hin : vp_in i nn) (hq : pc + 1 = q) (kk : zG X md B rm n q lv (.int (f i.toNatClampNeg) :: st) h) : zG X md B rm n pc lv (.int i :: .ref a :: st) h := by
  subst hq
  intro g ls H locs hl hw hs
  obtain ⟨L, p, -, hP, hD, hkk, -⟩ := zWd_get hw ha
  exact va_zald (D := B.1) g.1 g.2.1 g.2.2.2.2.2.1.1 hP p 2 hkk rfl hin d (kk g ls H locs hl hw hs)
theorem zi_laload {a nn : Nat} {f : Nat → Int64} {i : Int32} (q : Nat) (d : decode md.2.1 pc = .ok (.laload, 1)) (ha : h a = some (zJ B nn f)) (hin : vp_in i nn) (hq : pc + 1 = q) (kk : zG X md B rm n q lv (.long (f i.toNatClampNeg) :: st) h) : zG X md B rm n pc lv (.int i :: .ref a :: st) h := by
  subst hq
  intro g ls H locs hl hw hs
  obtain ⟨L, p, -, hP, hD, hkk, -⟩ := zWd_get hw ha
  exact va_lald (D := B.1) g.1 g.2.1 g.2.2.2.2.2.1.1 hP p 1 hkk rfl hin d (kk g ls H locs hl hw hs)
theorem zi_aaloadF {a nn b : Nat} {f : Nat → Option Nat} {i : Int32} (q : Nat) (d : decode md.2.1 pc = .ok (.aaload, 1)) (ha : h a = some (zRf B nn f)) (hin : vp_in i nn) (hb : f i.toNatClampNeg = some b) (hq : pc + 1 = q) (kk : zG X md B rm n q lv (.ref b :: st) h) : zG X md B rm n pc lv (.int i :: .ref a :: st) h := by
  subst hq
  intro g ls H locs hl hw hs
  obtain ⟨L, p, -, hP, hD, hkk, -⟩ := zWd_get hw ha
  exact va_aldq (C := RX4) (D := B.1) g.1 g.2.1 g.2.2.2.2.2.1.1 hP p 3 hkk rfl hin d (by rw [hb]; exact kk g ls H locs hl hw hs)
theorem zi_aaloadT {a nn b : Nat} {f : Nat → Option Nat} {i : Int32} (q : Nat) (d : decode md.2.1 pc = .ok (.aaload, 1)) (ha : h a = some (zRt B nn f)) (hin : vp_in i nn) (hb : f i.toNatClampNeg = some b) (hq : pc + 1 = q) (kk : zG X md B rm n q lv (.ref b :: st) h) : zG X md B rm n pc lv (.int i :: .ref a :: st) h := by
  subst hq
  intro g ls H locs hl hw hs
  obtain ⟨L, p, -, hP, hD, hkk, -⟩ := zWd_get hw ha
  exact va_aldq (C := RX9) (D := B.1) g.1 g.2.1 g.2.2.2.2.2.1.1 hP p 4 hkk rfl hin d (by rw [hb]; exact kk g ls H locs hl hw hs)
theorem zi_iastore {a nn : Nat} {f : Nat → Int32} {i : Int32} {x : Int32} (q : Nat) (d : decode md.2.1 pc = .ok (.iastore, 1)) (ha : h a = some (zI B nn f)) (hin : vp_in i nn) (hq : pc + 1 = q) (kk : zG X md B rm n q lv st (zU h a (zI B nn (upd f i.toNatClampNeg x)))) : zG X md B rm n pc lv (.int x :: .int i :: .ref a :: st) h := by
  subst hq
  intro g ls H locs hl hw hs
  obtain ⟨L, p, hL, hP, hD, hkk, hm⟩ := zWd_get hw ha
  exact va_iast (D := B.1) g.1 g.2.1 g.2.2.2.2.2.1.1 hP hD hs p 0 hkk rfl hin d (fun H1 locs1 hP1 hD1 hS1 => kk g ls H1 locs1 hl (zWd_set hL hm ha hD hkk hP1 hD1) hS1)
theorem zi_bastore {a nn : Nat} {f : Nat → Int32} {i : Int32} {x : Int32} (q : Nat) (d : decode md.2.1 pc = .ok (.bastore, 1)) (ha : h a = some (zZb B nn f)) (hin : vp_in i nn) (hq : pc + 1 = q) (kk : zG X md B rm n q lv st (zU h a (zZb B nn (upd f i.toNatClampNeg (vp_nar .boolean x))))) : zG X md B rm n pc lv (.int x :: .int i :: .ref a :: st) h := by
  subst hq
  intro g ls H locs hl hw hs
  obtain ⟨L, p, hL, hP, hD, hkk, hm⟩ := zWd_get hw ha
  exact va_zast (D := B.1) g.1 g.2.1 g.2.2.2.2.2.1.1 hP hD hs p 2 hkk rfl hin d (fun H1 locs1 hP1 hD1 hS1 => kk g ls H1 locs1 hl (zWd_set hL hm ha hD hkk hP1 hD1) hS1)
theorem zi_lastore {a nn : Nat} {f : Nat → Int64} {i : Int32} {x : Int64} (q : Nat) (d : decode md.2.1 pc = .ok (.lastore, 1)) (ha : h a = some (zJ B nn f)) (hin : vp_in i nn) (hq : pc + 1 = q) (kk : zG X md B rm n q lv st (zU h a (zJ B nn (vp_updL f i.toNatClampNeg x)))) : zG X md B rm n pc lv (.long x :: .int i :: .ref a :: st) h := by
  subst hq
  intro g ls H locs hl hw hs
  obtain ⟨L, p, hL, hP, hD, hkk, hm⟩ := zWd_get hw ha
  exact va_last (D := B.1) g.1 g.2.1 g.2.2.2.2.2.1.1 hP hD hs p 1 hkk rfl hin d (fun H1 locs1 hP1 hD1 hS1 => kk g ls H1 locs1 hl (zWd_set hL hm ha hD hkk hP1 hD1) hS1)
end ZI

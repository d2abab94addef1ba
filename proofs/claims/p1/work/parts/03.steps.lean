/-! THE STEPS: a row an instruction -/
section LIS
variable {l : Launch} {Z : li_Z} {Y : li_Y} {d pc : Nat} {lo lo' : List (Nat × Value)} {st : List Value} {M : li_M} {Q : Option Value → li_M → Prop}
theorem li_iload_n {k : Fin 4} {x : Int32} (q : Nat) (hd : decode Y.2.1 pc = .ok (.iload_n k, 1)) (hk : lo[q]? = some ((k : Nat), .int x)) (kk : li_T l Z Y d (pc + 1) lo (.int x :: st) M Q) : li_T l Z Y d pc lo (st) M Q :=
  fun p e s m args below meth c C K H locs ls hH hS hl => lv_iload_n C.1 C.2.1 hd rfl (lv_at hl q hk) (kk p e s m args below meth c C K H locs ls hH hS hl)
theorem li_iload {i : Nat} {x : Int32} (q : Nat) (hd : decode Y.2.1 pc = .ok (.iload i, 2)) (hk : lo[q]? = some (i, .int x)) (kk : li_T l Z Y d (pc + 2) lo (.int x :: st) M Q) : li_T l Z Y d pc lo (st) M Q :=
  fun p e s m args below meth c C K H locs ls hH hS hl => lv_iload C.1 C.2.1 hd (lv_at hl q hk) (kk p e s m args below meth c C K H locs ls hH hS hl)
theorem li_aload_n {k : Fin 4} {x : Nat} (q : Nat) (hd : decode Y.2.1 pc = .ok (.aload_n k, 1)) (hk : lo[q]? = some ((k : Nat), .ref x)) (kk : li_T l Z Y d (pc + 1) lo (.ref x :: st) M Q) : li_T l Z Y d pc lo (st) M Q :=
  fun p e s m args below meth c C K H locs ls hH hS hl => lv_aload_n C.1 C.2.1 hd rfl (lv_at hl q hk) (kk p e s m args below meth c C K H locs ls hH hS hl)
theorem li_aload {i : Nat} {x : Nat} (q : Nat) (hd : decode Y.2.1 pc = .ok (.aload i, 2)) (hk : lo[q]? = some (i, .ref x)) (kk : li_T l Z Y d (pc + 2) lo (.ref x :: st) M Q) : li_T l Z Y d pc lo (st) M Q :=
  fun p e s m args below meth c C K H locs ls hH hS hl => lv_aload C.1 C.2.1 hd (lv_at hl q hk) (kk p e s m args below meth c C K H locs ls hH hS hl)
theorem li_lload_n {k : Fin 4} {x : Int64} (q : Nat) (hd : decode Y.2.1 pc = .ok (.lload_n k, 1)) (hk : lo[q]? = some ((k : Nat), .long x)) (kk : li_T l Z Y d (pc + 1) lo (.long x :: st) M Q) : li_T l Z Y d pc lo (st) M Q :=
  fun p e s m args below meth c C K H locs ls hH hS hl => lv_lload_n C.1 C.2.1 hd rfl (lv_at hl q hk) (kk p e s m args below meth c C K H locs ls hH hS hl)
theorem li_istore_n {k : Fin 4} {x : Int32} (lo' : List (Nat × Value)) (hd : decode Y.2.1 pc = .ok (.istore_n k, 1)) (hn : (k : Nat) < Y.2.2.1) (hl0 : ((k : Nat), Value.int x) :: lo.filter (fun q => !(q.1 == (k : Nat)) && !(q.1 + 1 == (k : Nat) && q.2.category == 2)) = lo') (kk : li_T l Z Y d (pc + 1) lo' (st) M Q) : li_T l Z Y d pc lo (.int x :: st) M Q :=
  fun p e s m args below meth c C K H locs ls hH hS hl => lv_istore_n C.1 C.2.1 hd rfl hl hn hl0 (fun _ hl => (kk p e s m args below meth c C K H locs _ hH hS hl))
theorem li_istore {i : Nat} {x : Int32} (lo' : List (Nat × Value)) (hd : decode Y.2.1 pc = .ok (.istore i, 2)) (hn : i < Y.2.2.1) (hl0 : (i, Value.int x) :: lo.filter (fun q => !(q.1 == i) && !(q.1 + 1 == i && q.2.category == 2)) = lo') (kk : li_T l Z Y d (pc + 2) lo' (st) M Q) : li_T l Z Y d pc lo (.int x :: st) M Q :=
  fun p e s m args below meth c C K H locs ls hH hS hl => lv_istore C.1 C.2.1 hd hl hn hl0 (fun _ hl => (kk p e s m args below meth c C K H locs _ hH hS hl))
theorem li_astore {i : Nat} {x : Nat} (lo' : List (Nat × Value)) (hd : decode Y.2.1 pc = .ok (.astore i, 2)) (hn : i < Y.2.2.1) (hl0 : (i, Value.ref x) :: lo.filter (fun q => !(q.1 == i) && !(q.1 + 1 == i && q.2.category == 2)) = lo') (kk : li_T l Z Y d (pc + 2) lo' (st) M Q) : li_T l Z Y d pc lo (.ref x :: st) M Q :=
  fun p e s m args below meth c C K H locs ls hH hS hl => lv_astore C.1 C.2.1 hd hl hn hl0 (fun _ hl => (kk p e s m args below meth c C K H locs _ hH hS hl))
theorem li_lstore_n {k : Fin 4} {x : Int64} (lo' : List (Nat × Value)) (hd : decode Y.2.1 pc = .ok (.lstore_n k, 1)) (hn : (k : Nat) + 1 < Y.2.2.1) (hl0 : ((k : Nat), Value.long x) :: lo.filter (fun q => !(q.1 == (k : Nat)) && (!(q.1 == (k : Nat) + 1) && !(q.1 + 1 == (k : Nat) && q.2.category == 2))) = lo') (kk : li_T l Z Y d (pc + 1) lo' (st) M Q) : li_T l Z Y d pc lo (.long x :: st) M Q :=
  fun p e s m args below meth c C K H locs ls hH hS hl => lv_lstore_n C.1 C.2.1 hd rfl hl hn hl0 (fun _ hl => (kk p e s m args below meth c C K H locs _ hH hS hl))
theorem li_iinc {i : Nat} {n : Int} {x : Int32} (q : Nat) (lo' : List (Nat × Value)) (v : Int32) (hd : decode Y.2.1 pc = .ok (.iinc i n, 3)) (hk : lo[q]? = some (i, .int x)) (hv : x + Int32.ofInt n = v) (hn : i < Y.2.2.1) (hl0 : (i, Value.int v) :: lo.filter (fun q => !(q.1 == i) && !(q.1 + 1 == i && q.2.category == 2)) = lo') (kk : li_T l Z Y d (pc + 3) lo' st M Q) : li_T l Z Y d pc lo st M Q :=
  fun p e s m args below meth c C K H locs ls hH hS hl => lv_iinc C.1 C.2.1 hd hl hk hv hn hl0 (fun _ hl => (kk p e s m args below meth c C K H locs _ hH hS hl))
theorem li_iconst {n : Int} (v : Int32) (hd : decode Y.2.1 pc = .ok (.iconst n, 1)) (hv : Int32.ofInt n = v) (kk : li_T l Z Y d (pc + 1) lo (.int v :: st) M Q) : li_T l Z Y d pc lo (st) M Q :=
  fun p e s m args below meth c C K H locs ls hH hS hl => lv_iconst C.1 C.2.1 hd hv (kk p e s m args below meth c C K H locs ls hH hS hl)
theorem li_bipush {n : Int} (v : Int32) (hd : decode Y.2.1 pc = .ok (.bipush n, 2)) (hv : (Int8.ofInt n).toInt32 = v) (kk : li_T l Z Y d (pc + 2) lo (.int v :: st) M Q) : li_T l Z Y d pc lo (st) M Q :=
  fun p e s m args below meth c C K H locs ls hH hS hl => lv_bipush C.1 C.2.1 hd hv (kk p e s m args below meth c C K H locs ls hH hS hl)
theorem li_sipush {n : Int} (v : Int32) (hd : decode Y.2.1 pc = .ok (.sipush n, 3)) (hv : (Int16.ofInt n).toInt32 = v) (kk : li_T l Z Y d (pc + 3) lo (.int v :: st) M Q) : li_T l Z Y d pc lo (st) M Q :=
  fun p e s m args below meth c C K H locs ls hH hS hl => lv_sipush C.1 C.2.1 hd hv (kk p e s m args below meth c C K H locs ls hH hS hl)
theorem li_lconst {n : Fin 2} (v : Int64) (hd : decode Y.2.1 pc = .ok (.lconst n, 1)) (hv : Int64.ofNat (n : Nat) = v) (kk : li_T l Z Y d (pc + 1) lo (.long v :: st) M Q) : li_T l Z Y d pc lo (st) M Q :=
  fun p e s m args below meth c C K H locs ls hH hS hl => lv_lconst C.1 C.2.1 hd hv (kk p e s m args below meth c C K H locs ls hH hS hl)
theorem li_ldcw {ix : Nat} (v : Int32) (hd : decode Y.2.1 pc = .ok (.ldc_w ix, 3)) (hw : Cond.constant Y.1.cls ix v ∈ li_ws) (kk : li_T l Z Y d (pc + 3) lo (.int v :: st) M Q) : li_T l Z Y d pc lo (st) M Q :=
  fun p e s m args below meth c C K H locs ls hH hS hl => lv_ldcw C.1 C.2.1 C.2.2.2.1 (C.2.2.2.2.1 _ hw) hd (kk p e s m args below meth c C K H locs ls hH hS hl)
theorem li_iadd {x y : Int32} (hd : decode Y.2.1 pc = .ok (.iadd, 1))  (kk : li_T l Z Y d (pc + 1) lo (.int (x + y) :: st) M Q) : li_T l Z Y d pc lo (.int y :: .int x :: st) M Q :=
  fun p e s m args below meth c C K H locs ls hH hS hl => lv_iadd C.1 C.2.1 hd (kk p e s m args below meth c C K H locs ls hH hS hl)
theorem li_isub {x y : Int32} (hd : decode Y.2.1 pc = .ok (.isub, 1))  (kk : li_T l Z Y d (pc + 1) lo (.int (x - y) :: st) M Q) : li_T l Z Y d pc lo (.int y :: .int x :: st) M Q :=
  fun p e s m args below meth c C K H locs ls hH hS hl => lv_isub C.1 C.2.1 hd (kk p e s m args below meth c C K H locs ls hH hS hl)
theorem li_imul {x y : Int32} (hd : decode Y.2.1 pc = .ok (.imul, 1))  (kk : li_T l Z Y d (pc + 1) lo (.int (x * y) :: st) M Q) : li_T l Z Y d pc lo (.int y :: .int x :: st) M Q :=
  fun p e s m args below meth c C K H locs ls hH hS hl => lv_imul C.1 C.2.1 hd (kk p e s m args below meth c C K H locs ls hH hS hl)
theorem li_iand {x y : Int32} (hd : decode Y.2.1 pc = .ok (.iand, 1))  (kk : li_T l Z Y d (pc + 1) lo (.int (x &&& y) :: st) M Q) : li_T l Z Y d pc lo (.int y :: .int x :: st) M Q :=
  fun p e s m args below meth c C K H locs ls hH hS hl => lv_iand C.1 C.2.1 hd (kk p e s m args below meth c C K H locs ls hH hS hl)
theorem li_ior {x y : Int32} (hd : decode Y.2.1 pc = .ok (.ior, 1))  (kk : li_T l Z Y d (pc + 1) lo (.int (x ||| y) :: st) M Q) : li_T l Z Y d pc lo (.int y :: .int x :: st) M Q :=
  fun p e s m args below meth c C K H locs ls hH hS hl => lv_ior C.1 C.2.1 hd (kk p e s m args below meth c C K H locs ls hH hS hl)
theorem li_ixor {x y : Int32} (hd : decode Y.2.1 pc = .ok (.ixor, 1))  (kk : li_T l Z Y d (pc + 1) lo (.int (x ^^^ y) :: st) M Q) : li_T l Z Y d pc lo (.int y :: .int x :: st) M Q :=
  fun p e s m args below meth c C K H locs ls hH hS hl => lv_ixor C.1 C.2.1 hd (kk p e s m args below meth c C K H locs ls hH hS hl)
theorem li_ladd {x y : Int64} (hd : decode Y.2.1 pc = .ok (.ladd, 1))  (kk : li_T l Z Y d (pc + 1) lo (.long (x + y) :: st) M Q) : li_T l Z Y d pc lo (.long y :: .long x :: st) M Q :=
  fun p e s m args below meth c C K H locs ls hH hS hl => lv_ladd C.1 C.2.1 hd (kk p e s m args below meth c C K H locs ls hH hS hl)
theorem li_lsub {x y : Int64} (hd : decode Y.2.1 pc = .ok (.lsub, 1))  (kk : li_T l Z Y d (pc + 1) lo (.long (x - y) :: st) M Q) : li_T l Z Y d pc lo (.long y :: .long x :: st) M Q :=
  fun p e s m args below meth c C K H locs ls hH hS hl => lv_lsub C.1 C.2.1 hd (kk p e s m args below meth c C K H locs ls hH hS hl)
theorem li_ineg {x : Int32} (hd : decode Y.2.1 pc = .ok (.ineg, 1))  (kk : li_T l Z Y d (pc + 1) lo (.int (-x) :: st) M Q) : li_T l Z Y d pc lo (.int x :: st) M Q :=
  fun p e s m args below meth c C K H locs ls hH hS hl => lv_ineg C.1 C.2.1 hd (kk p e s m args below meth c C K H locs ls hH hS hl)
theorem li_idiv {x y : Int32} (hd : decode Y.2.1 pc = .ok (.idiv, 1)) (hne : ¬ y = 0) (kk : li_T l Z Y d (pc + 1) lo (.int (x / y) :: st) M Q) : li_T l Z Y d pc lo (.int y :: .int x :: st) M Q :=
  fun p e s m args below meth c C K H locs ls hH hS hl => lv_idiv C.1 C.2.1 hd hne (kk p e s m args below meth c C K H locs ls hH hS hl)
theorem li_irem {x y : Int32} (hd : decode Y.2.1 pc = .ok (.irem, 1)) (hne : ¬ y = 0) (kk : li_T l Z Y d (pc + 1) lo (.int (x - x / y * y) :: st) M Q) : li_T l Z Y d pc lo (.int y :: .int x :: st) M Q :=
  fun p e s m args below meth c C K H locs ls hH hS hl => lv_irem C.1 C.2.1 hd hne (kk p e s m args below meth c C K H locs ls hH hS hl)
theorem li_ishl {x y : Int32} (hd : decode Y.2.1 pc = .ok (.ishl, 1))  (kk : li_T l Z Y d (pc + 1) lo (.int (x <<< (y &&& 31)) :: st) M Q) : li_T l Z Y d pc lo (.int y :: .int x :: st) M Q :=
  fun p e s m args below meth c C K H locs ls hH hS hl => lv_ishl C.1 C.2.1 hd (kk p e s m args below meth c C K H locs ls hH hS hl)
theorem li_ishr {x y : Int32} (hd : decode Y.2.1 pc = .ok (.ishr, 1))  (kk : li_T l Z Y d (pc + 1) lo (.int (x >>> (y &&& 31)) :: st) M Q) : li_T l Z Y d pc lo (.int y :: .int x :: st) M Q :=
  fun p e s m args below meth c C K H locs ls hH hS hl => lv_ishr C.1 C.2.1 hd (kk p e s m args below meth c C K H locs ls hH hS hl)
theorem li_iushr {x y : Int32} (hd : decode Y.2.1 pc = .ok (.iushr, 1))  (kk : li_T l Z Y d (pc + 1) lo (.int ((x.toUInt32 >>> (y.toUInt32 &&& Int32.toUInt32 31)).toInt32) :: st) M Q) : li_T l Z Y d pc lo (.int y :: .int x :: st) M Q :=
  fun p e s m args below meth c C K H locs ls hH hS hl => lv_iushr C.1 C.2.1 hd rfl (kk p e s m args below meth c C K H locs ls hH hS hl)
theorem li_l2i {x : Int64} (hd : decode Y.2.1 pc = .ok (.l2i, 1))  (kk : li_T l Z Y d (pc + 1) lo (.int x.toInt32 :: st) M Q) : li_T l Z Y d pc lo (.long x :: st) M Q :=
  fun p e s m args below meth c C K H locs ls hH hS hl => lv_l2i C.1 C.2.1 hd rfl (kk p e s m args below meth c C K H locs ls hH hS hl)
theorem li_i2b {x : Int32} (hd : decode Y.2.1 pc = .ok (.i2b, 1))  (kk : li_T l Z Y d (pc + 1) lo (.int x.toInt8.toInt32 :: st) M Q) : li_T l Z Y d pc lo (.int x :: st) M Q :=
  fun p e s m args below meth c C K H locs ls hH hS hl => lv_i2b C.1 C.2.1 hd rfl (kk p e s m args below meth c C K H locs ls hH hS hl)
theorem li_i2s {x : Int32} (hd : decode Y.2.1 pc = .ok (.i2s, 1))  (kk : li_T l Z Y d (pc + 1) lo (.int x.toInt16.toInt32 :: st) M Q) : li_T l Z Y d pc lo (.int x :: st) M Q :=
  fun p e s m args below meth c C K H locs ls hH hS hl => lv_i2s C.1 C.2.1 hd rfl (kk p e s m args below meth c C K H locs ls hH hS hl)
theorem li_dup {v : Value} (hd : decode Y.2.1 pc = .ok (.dup, 1)) (hv : v.category = 1) (kk : li_T l Z Y d (pc + 1) lo (v :: v :: st) M Q) : li_T l Z Y d pc lo (v :: st) M Q :=
  fun p e s m args below meth c C K H locs ls hH hS hl => lv_dup C.1 C.2.1 hd hv (kk p e s m args below meth c C K H locs ls hH hS hl)
theorem li_pop {v : Value} (hd : decode Y.2.1 pc = .ok (.pop, 1)) (hv : v.category = 1) (kk : li_T l Z Y d (pc + 1) lo (st) M Q) : li_T l Z Y d pc lo (v :: st) M Q :=
  fun p e s m args below meth c C K H locs ls hH hS hl => lv_pop C.1 C.2.1 hd hv (kk p e s m args below meth c C K H locs ls hH hS hl)
theorem li_dup_x1 {v w : Value} (hd : decode Y.2.1 pc = .ok (.dup_x1, 1)) (hv : v.category = 1) (hw : w.category = 1) (kk : li_T l Z Y d (pc + 1) lo (v :: w :: v :: st) M Q) : li_T l Z Y d pc lo (v :: w :: st) M Q :=
  fun p e s m args below meth c C K H locs ls hH hS hl => lv_dup_x1 C.1 C.2.1 hd hv hw (kk p e s m args below meth c C K H locs ls hH hS hl)
theorem li_dup2 {v w : Value} (hd : decode Y.2.1 pc = .ok (.dup2, 1)) (hv : v.category = 1) (hw : w.category = 1) (kk : li_T l Z Y d (pc + 1) lo (v :: w :: v :: w :: st) M Q) : li_T l Z Y d pc lo (v :: w :: st) M Q :=
  fun p e s m args below meth c C K H locs ls hH hS hl => lv_dup2_11 C.1 C.2.1 hd hv hw (kk p e s m args below meth c C K H locs ls hH hS hl)
theorem li_goto {off : Int} (tgt : Nat) (hd : decode Y.2.1 pc = .ok (.goto off, 3)) (ht : (pc : Int) + off = (tgt : Int)) (kk : li_T l Z Y d tgt lo st M Q) : li_T l Z Y d pc lo st M Q :=
  fun p e s m args below meth c C K H locs ls hH hS hl => lv_goto C.1 C.2.1 hd ht (kk p e s m args below meth c C K H locs ls hH hS hl)
theorem li_icmp_eq {x y : Int32} {off : Int} (tgt : Nat) (hd : decode Y.2.1 pc = .ok (.if_icmp .eq off, 3)) (ht : (pc : Int) + off = (tgt : Int)) (kt : x = y → li_T l Z Y d tgt lo st M Q) (kf : ¬ (x = y) → li_T l Z Y d (pc + 3) lo st M Q) : li_T l Z Y d pc lo (.int y :: .int x :: st) M Q :=
  fun p e s m args below meth c C K H locs ls hH hS hl => lv_icmp_eq C.1 C.2.1 hd ht (fun h => kt h p e s m args below meth c C K H locs ls hH hS hl) (fun h => kf h p e s m args below meth c C K H locs ls hH hS hl)
theorem li_if_eq {x : Int32} {off : Int} (tgt : Nat) (hd : decode Y.2.1 pc = .ok (.ifCond .eq off, 3)) (ht : (pc : Int) + off = (tgt : Int)) (kt : x = 0 → li_T l Z Y d tgt lo st M Q) (kf : ¬ (x = 0) → li_T l Z Y d (pc + 3) lo st M Q) : li_T l Z Y d pc lo (.int x :: st) M Q :=
  fun p e s m args below meth c C K H locs ls hH hS hl => lv_if_eq C.1 C.2.1 hd ht (fun h => kt h p e s m args below meth c C K H locs ls hH hS hl) (fun h => kf h p e s m args below meth c C K H locs ls hH hS hl)
theorem li_icmp_ne {x y : Int32} {off : Int} (tgt : Nat) (hd : decode Y.2.1 pc = .ok (.if_icmp .ne off, 3)) (ht : (pc : Int) + off = (tgt : Int)) (kt : x ≠ y → li_T l Z Y d tgt lo st M Q) (kf : x = y → li_T l Z Y d (pc + 3) lo st M Q) : li_T l Z Y d pc lo (.int y :: .int x :: st) M Q :=
  fun p e s m args below meth c C K H locs ls hH hS hl => lv_icmp_ne C.1 C.2.1 hd ht (fun h => kt h p e s m args below meth c C K H locs ls hH hS hl) (fun h => kf h p e s m args below meth c C K H locs ls hH hS hl)
theorem li_if_ne {x : Int32} {off : Int} (tgt : Nat) (hd : decode Y.2.1 pc = .ok (.ifCond .ne off, 3)) (ht : (pc : Int) + off = (tgt : Int)) (kt : x ≠ 0 → li_T l Z Y d tgt lo st M Q) (kf : x = 0 → li_T l Z Y d (pc + 3) lo st M Q) : li_T l Z Y d pc lo (.int x :: st) M Q :=
  fun p e s m args below meth c C K H locs ls hH hS hl => lv_if_ne C.1 C.2.1 hd ht (fun h => kt h p e s m args below meth c C K H locs ls hH hS hl) (fun h => kf h p e s m args below meth c C K H locs ls hH hS hl)
theorem li_icmp_lt {x y : Int32} {off : Int} (tgt : Nat) (hd : decode Y.2.1 pc = .ok (.if_icmp .lt off, 3)) (ht : (pc : Int) + off = (tgt : Int)) (kt : x < y → li_T l Z Y d tgt lo st M Q) (kf : ¬ (x < y) → li_T l Z Y d (pc + 3) lo st M Q) : li_T l Z Y d pc lo (.int y :: .int x :: st) M Q :=
  fun p e s m args below meth c C K H locs ls hH hS hl => lv_icmp_lt C.1 C.2.1 hd ht (fun h => kt h p e s m args below meth c C K H locs ls hH hS hl) (fun h => kf h p e s m args below meth c C K H locs ls hH hS hl)
theorem li_if_lt {x : Int32} {off : Int} (tgt : Nat) (hd : decode Y.2.1 pc = .ok (.ifCond .lt off, 3)) (ht : (pc : Int) + off = (tgt : Int)) (kt : x < 0 → li_T l Z Y d tgt lo st M Q) (kf : ¬ (x < 0) → li_T l Z Y d (pc + 3) lo st M Q) : li_T l Z Y d pc lo (.int x :: st) M Q :=
  fun p e s m args below meth c C K H locs ls hH hS hl => lv_if_lt C.1 C.2.1 hd ht (fun h => kt h p e s m args below meth c C K H locs ls hH hS hl) (fun h => kf h p e s m args below meth c C K H locs ls hH hS hl)
theorem li_icmp_ge {x y : Int32} {off : Int} (tgt : Nat) (hd : decode Y.2.1 pc = .ok (.if_icmp .ge off, 3)) (ht : (pc : Int) + off = (tgt : Int)) (kt : y ≤ x → li_T l Z Y d tgt lo st M Q) (kf : ¬ (y ≤ x) → li_T l Z Y d (pc + 3) lo st M Q) : li_T l Z Y d pc lo (.int y :: .int x :: st) M Q :=
  fun p e s m args below meth c C K H locs ls hH hS hl => lv_icmp_ge C.1 C.2.1 hd ht (fun h => kt h p e s m args below meth c C K H locs ls hH hS hl) (fun h => kf h p e s m args below meth c C K H locs ls hH hS hl)
theorem li_if_ge {x : Int32} {off : Int} (tgt : Nat) (hd : decode Y.2.1 pc = .ok (.ifCond .ge off, 3)) (ht : (pc : Int) + off = (tgt : Int)) (kt : 0 ≤ x → li_T l Z Y d tgt lo st M Q) (kf : ¬ (0 ≤ x) → li_T l Z Y d (pc + 3) lo st M Q) : li_T l Z Y d pc lo (.int x :: st) M Q :=
  fun p e s m args below meth c C K H locs ls hH hS hl => lv_if_ge C.1 C.2.1 hd ht (fun h => kt h p e s m args below meth c C K H locs ls hH hS hl) (fun h => kf h p e s m args below meth c C K H locs ls hH hS hl)
theorem li_icmp_gt {x y : Int32} {off : Int} (tgt : Nat) (hd : decode Y.2.1 pc = .ok (.if_icmp .gt off, 3)) (ht : (pc : Int) + off = (tgt : Int)) (kt : y < x → li_T l Z Y d tgt lo st M Q) (kf : ¬ (y < x) → li_T l Z Y d (pc + 3) lo st M Q) : li_T l Z Y d pc lo (.int y :: .int x :: st) M Q :=
  fun p e s m args below meth c C K H locs ls hH hS hl => lv_icmp_gt C.1 C.2.1 hd ht (fun h => kt h p e s m args below meth c C K H locs ls hH hS hl) (fun h => kf h p e s m args below meth c C K H locs ls hH hS hl)
theorem li_icmp_le {x y : Int32} {off : Int} (tgt : Nat) (hd : decode Y.2.1 pc = .ok (.if_icmp .le off, 3)) (ht : (pc : Int) + off = (tgt : Int)) (kt : x ≤ y → li_T l Z Y d tgt lo st M Q) (kf : ¬ (x ≤ y) → li_T l Z Y d (pc + 3) lo st M Q) : li_T l Z Y d pc lo (.int y :: .int x :: st) M Q :=
  fun p e s m args below meth c C K H locs ls hH hS hl => lv_icmp_le C.1 C.2.1 hd ht (fun h => kt h p e s m args below meth c C K H locs ls hH hS hl) (fun h => kf h p e s m args below meth c C K H locs ls hH hS hl)
theorem li_if_le {x : Int32} {off : Int} (tgt : Nat) (hd : decode Y.2.1 pc = .ok (.ifCond .le off, 3)) (ht : (pc : Int) + off = (tgt : Int)) (kt : x ≤ 0 → li_T l Z Y d tgt lo st M Q) (kf : ¬ (x ≤ 0) → li_T l Z Y d (pc + 3) lo st M Q) : li_T l Z Y d pc lo (.int x :: st) M Q :=
  fun p e s m args below meth c C K H locs ls hH hS hl => lv_if_le C.1 C.2.1 hd ht (fun h => kt h p e s m args below meth c C K H locs ls hH hS hl) (fun h => kf h p e s m args below meth c C K H locs ls hH hS hl)
theorem li_ifnull {x : Nat} {off : Int} (hd : decode Y.2.1 pc = .ok (.ifnull off, 3))  (kk : li_T l Z Y d (pc + 3) lo (st) M Q) : li_T l Z Y d pc lo (.ref x :: st) M Q :=
  fun p e s m args below meth c C K H locs ls hH hS hl => lv_ifnull C.1 C.2.1 hd (kk p e s m args below meth c C K H locs ls hH hS hl)
theorem li_ifnonnull {x : Nat} {off : Int} (tgt : Nat) (hd : decode Y.2.1 pc = .ok (.ifnonnull off, 3)) (ht : (pc : Int) + off = (tgt : Int)) (kk : li_T l Z Y d tgt lo st M Q) : li_T l Z Y d pc lo (.ref x :: st) M Q :=
  fun p e s m args below meth c C K H locs ls hH hS hl => lv_ifnonnull C.1 C.2.1 hd ht (kk p e s m args below meth c C K H locs ls hH hS hl)
theorem li_table {dflt lw hi : Int} {offs : Array Int} {len : Nat} {x : Int32} (hd : decode Y.2.1 pc = .ok (.tableswitch dflt lw hi offs, len)) (tds : Nat) (htd : (pc : Int) + dflt = (tds : Int)) (ko : (x.toInt < lw ∨ hi < x.toInt) → li_T l Z Y d tds lo st M Q) (ki : ¬ x.toInt < lw → ¬ hi < x.toInt → ∃ (off : Int) (tgt : Nat), offs[(x.toInt - lw).toNat]? = some off ∧ (pc : Int) + off = (tgt : Int) ∧ li_T l Z Y d tgt lo st M Q) : li_T l Z Y d pc lo (.int x :: st) M Q := by
  intro p e s m args below meth c C K H locs ls hH hS hl
  by_cases h1 : x.toInt < lw
  · exact lv_tableOut C.1 C.2.1 hd (Or.inl h1) htd (ko (Or.inl h1) p e s m args below meth c C K H locs ls hH hS hl)
  · by_cases h2 : hi < x.toInt
    · exact lv_tableOut C.1 C.2.1 hd (Or.inr h2) htd (ko (Or.inr h2) p e s m args below meth c C K H locs ls hH hS hl)
    · obtain ⟨off, tgt, a1, a2, a3⟩ := ki h1 h2
      exact lv_tableIn C.1 C.2.1 hd h1 h2 a1 a2 (a3 p e s m args below meth c C K H locs ls hH hS hl)
theorem li_lookup {dflt : Int} {ps : Array (Int × Int)} {len : Nat} {x : Int32} {off : Int} (tgt : Nat) (hd : decode Y.2.1 pc = .ok (.lookupswitch dflt ps, len)) (hp : (ps.toList.zip (ps.toList.drop 1)).all (fun (a, next) => a.1 < next.1) = true) (ho : Op.lookupswitch.offset ps.toList dflt x.toInt = off) (ht : (pc : Int) + off = (tgt : Int)) (kk : li_T l Z Y d tgt lo st M Q) : li_T l Z Y d pc lo (.int x :: st) M Q :=
  fun p e s m args below meth c C K H locs ls hH hS hl => lv_lookup C.1 C.2.1 hd hp ho ht (kk p e s m args below meth c C K H locs ls hH hS hl)
theorem li_iret {x : Int32} {ty : FieldType} (hd : decode Y.2.1 pc = .ok (.ireturn, 1)) (hr : Y.2.2.2 = some ty) (hn : narrow ty (.int x) = .int x) (hq : Q (some (.int x)) M) : li_T l Z Y d pc lo [.int x] M Q :=
  fun p e s m args below meth c C K H locs ls hH hS hl => W.zret C.1 C.2.1 (C.2.2.2.2.2.1.trans hr) hn (fun t ht hW => ⟨⟨_, M, rfl, hq, by rw [ht]; exact hH⟩, hS.F ht⟩) hS.2.2 hd C.2.2.2.2.2.2
theorem li_lret {x : Int64} (hd : decode Y.2.1 pc = .ok (.lreturn, 1)) (hr : Y.2.2.2 = some .long) (hq : Q (some (.long x)) M) : li_T l Z Y d pc lo [.long x] M Q :=
  fun p e s m args below meth c C K H locs ls hH hS hl => W.lret C.1 C.2.1 (C.2.2.2.2.2.1.trans hr) (fun t ht hW => ⟨⟨_, M, rfl, hq, by rw [ht]; exact hH⟩, hS.F ht⟩) hS.2.2 hd C.2.2.2.2.2.2
theorem li_vret (hd : decode Y.2.1 pc = .ok (.return_, 1)) (hr : Y.2.2.2 = none) (hq : Q none M) : li_T l Z Y d pc lo [] M Q :=
  fun p e s m args below meth c C K H locs ls hH hS hl => W.vret C.1 C.2.1 (C.2.2.2.2.2.1.trans hr) (fun t ht hW => ⟨⟨_, M, rfl, hq, by rw [ht]; exact hH⟩, hS.F ht⟩) hS.2.2 hd C.2.2.2.2.2.2
end LIS

/-! A rule for each instruction: what is left to show behind it gives what is left to show ahead of it. Printed by wip/p5/mkrules.py. -/
section
variable {d : tw_D} {M : tw_M} {Q : tw_O → tw_H → Prop} {pc : Nat} {lv : List (Nat × Value)} {st : List Value} {h : tw_H} {c n : Nat}
theorem tw_iconst {k : Int} {v : Int32} (hd : decode M.2.1 pc = .ok (.iconst k, 1)) (hv : Int32.ofInt k = v) (k : tw_W d M Q (pc + 1) lv (.int v :: st) h c n) : tw_W d M Q pc lv (st) h c n := by
  intro p l e R s m args below meth cd H locs ls cells slots X hl hh hS hc hn
  exact lv_iconst X.1 X.2.1 hd hv (k p l e R s m args below meth cd H locs ls cells slots X hl hh hS hc hn)
theorem tw_bipush {k : Int} {v : Int32} (hd : decode M.2.1 pc = .ok (.bipush k, 2)) (hv : (Int8.ofInt k).toInt32 = v) (k : tw_W d M Q (pc + 2) lv (.int v :: st) h c n) : tw_W d M Q pc lv (st) h c n := by
  intro p l e R s m args below meth cd H locs ls cells slots X hl hh hS hc hn
  exact lv_bipush X.1 X.2.1 hd hv (k p l e R s m args below meth cd H locs ls cells slots X hl hh hS hc hn)
theorem tw_sipush {k : Int} {v : Int32} (hd : decode M.2.1 pc = .ok (.sipush k, 3)) (hv : (Int16.ofInt k).toInt32 = v) (k : tw_W d M Q (pc + 3) lv (.int v :: st) h c n) : tw_W d M Q pc lv (st) h c n := by
  intro p l e R s m args below meth cd H locs ls cells slots X hl hh hS hc hn
  exact lv_sipush X.1 X.2.1 hd hv (k p l e R s m args below meth cd H locs ls cells slots X hl hh hS hc hn)
theorem tw_lconst {k : Fin 2} {v : Int64} (hd : decode M.2.1 pc = .ok (.lconst k, 1)) (hv : Int64.ofNat (k : Nat) = v) (k : tw_W d M Q (pc + 1) lv (.long v :: st) h c n) : tw_W d M Q pc lv (st) h c n := by
  intro p l e R s m args below meth cd H locs ls cells slots X hl hh hS hc hn
  exact lv_lconst X.1 X.2.1 hd hv (k p l e R s m args below meth cd H locs ls cells slots X hl hh hS hc hn)
theorem tw_ldc {ix : Nat} {v : Int32} (hd : decode M.2.1 pc = .ok (.ldc ix, 2)) (hw : Cond.constant M.1.cls ix v ∈ TW) (k : tw_W d M Q (pc + 2) lv (.int v :: st) h c n) : tw_W d M Q pc lv (st) h c n := by
  intro p l e R s m args below meth cd H locs ls cells slots X hl hh hS hc hn
  exact lv_ldc X.1 X.2.1 X.2.2.2.2.1 (X.2.2.2.2.2.1 _ (List.mem_cons_of_mem _ hw)) hd (k p l e R s m args below meth cd H locs ls cells slots X hl hh hS hc hn)
theorem tw_ldcw {ix : Nat} {v : Int32} (hd : decode M.2.1 pc = .ok (.ldc_w ix, 3)) (hw : Cond.constant M.1.cls ix v ∈ TW) (k : tw_W d M Q (pc + 3) lv (.int v :: st) h c n) : tw_W d M Q pc lv (st) h c n := by
  intro p l e R s m args below meth cd H locs ls cells slots X hl hh hS hc hn
  exact lv_ldcw X.1 X.2.1 X.2.2.2.2.1 (X.2.2.2.2.2.1 _ (List.mem_cons_of_mem _ hw)) hd (k p l e R s m args below meth cd H locs ls cells slots X hl hh hS hc hn)
theorem tw_ldc2 {ix : Nat} {v : Int64} (hd : decode M.2.1 pc = .ok (.ldc2_w ix, 3)) (hw : Cond.constantLong M.1.cls ix v ∈ TW) (k : tw_W d M Q (pc + 3) lv (.long v :: st) h c n) : tw_W d M Q pc lv (st) h c n := by
  intro p l e R s m args below meth cd H locs ls cells slots X hl hh hS hc hn
  exact lv_ldc2 X.1 X.2.1 X.2.2.2.2.1 (X.2.2.2.2.2.1 _ (List.mem_cons_of_mem _ hw)) hd (k p l e R s m args below meth cd H locs ls cells slots X hl hh hS hc hn)
theorem tw_ldcS {ix i : Nat} {tx : String} (hd : decode M.2.1 pc = .ok (.ldc ix, 2)) (hw : tw_strs[i]? = some (M.1.cls, ix, tx)) (k : tw_W d M Q (pc + 2) lv (.ref (d.2 (200 + i)) :: st) h c n) : tw_W d M Q pc lv (st) h c n := by
  intro p l e R s m args below meth cd H locs ls cells slots X hl hh hS hc hn
  exact va_ldcS X.1 X.2.1 X.2.2.2.2.1 (X.2.2.2.2.2.2.2.2.2.2.2.2.2.1.2.1 i _ hw) hd (k p l e R s m args below meth cd H locs ls cells slots X hl hh hS hc hn)
theorem tw_iload_n {k : Fin 4} {i : Nat} {x : Int32} (j : Nat) (hd : decode M.2.1 pc = .ok (.iload_n k, 1)) (hi : (k : Nat) = i) (hj : lv[j]? = some (i, .int x)) (k : tw_W d M Q (pc + 1) lv (.int x :: st) h c n) : tw_W d M Q pc lv (st) h c n := by
  intro p l e R s m args below meth cd H locs ls cells slots X hl hh hS hc hn
  exact lv_iload_n X.1 X.2.1 hd hi (lv_at hl j hj) (k p l e R s m args below meth cd H locs ls cells slots X hl hh hS hc hn)
theorem tw_iload {i : Nat} {x : Int32} (j : Nat) (hd : decode M.2.1 pc = .ok (.iload i, 2)) (hj : lv[j]? = some (i, .int x)) (k : tw_W d M Q (pc + 2) lv (.int x :: st) h c n) : tw_W d M Q pc lv (st) h c n := by
  intro p l e R s m args below meth cd H locs ls cells slots X hl hh hS hc hn
  exact lv_iload X.1 X.2.1 hd (lv_at hl j hj) (k p l e R s m args below meth cd H locs ls cells slots X hl hh hS hc hn)
theorem tw_lload_n {k : Fin 4} {i : Nat} {x : Int64} (j : Nat) (hd : decode M.2.1 pc = .ok (.lload_n k, 1)) (hi : (k : Nat) = i) (hj : lv[j]? = some (i, .long x)) (k : tw_W d M Q (pc + 1) lv (.long x :: st) h c n) : tw_W d M Q pc lv (st) h c n := by
  intro p l e R s m args below meth cd H locs ls cells slots X hl hh hS hc hn
  exact lv_lload_n X.1 X.2.1 hd hi (lv_at hl j hj) (k p l e R s m args below meth cd H locs ls cells slots X hl hh hS hc hn)
theorem tw_lload {i : Nat} {x : Int64} (j : Nat) (hd : decode M.2.1 pc = .ok (.lload i, 2)) (hj : lv[j]? = some (i, .long x)) (k : tw_W d M Q (pc + 2) lv (.long x :: st) h c n) : tw_W d M Q pc lv (st) h c n := by
  intro p l e R s m args below meth cd H locs ls cells slots X hl hh hS hc hn
  exact lv_lload X.1 X.2.1 hd (lv_at hl j hj) (k p l e R s m args below meth cd H locs ls cells slots X hl hh hS hc hn)
theorem tw_aload_n {k : Fin 4} {i : Nat} {x : Nat} (j : Nat) (hd : decode M.2.1 pc = .ok (.aload_n k, 1)) (hi : (k : Nat) = i) (hj : lv[j]? = some (i, .ref x)) (k : tw_W d M Q (pc + 1) lv (.ref x :: st) h c n) : tw_W d M Q pc lv (st) h c n := by
  intro p l e R s m args below meth cd H locs ls cells slots X hl hh hS hc hn
  exact lv_aload_n X.1 X.2.1 hd hi (lv_at hl j hj) (k p l e R s m args below meth cd H locs ls cells slots X hl hh hS hc hn)
theorem tw_aload {i : Nat} {x : Nat} (j : Nat) (hd : decode M.2.1 pc = .ok (.aload i, 2)) (hj : lv[j]? = some (i, .ref x)) (k : tw_W d M Q (pc + 2) lv (.ref x :: st) h c n) : tw_W d M Q pc lv (st) h c n := by
  intro p l e R s m args below meth cd H locs ls cells slots X hl hh hS hc hn
  exact lv_aload X.1 X.2.1 hd (lv_at hl j hj) (k p l e R s m args below meth cd H locs ls cells slots X hl hh hS hc hn)
theorem tw_aload_nN {k : Fin 4} {i : Nat} (j : Nat) (hd : decode M.2.1 pc = .ok (.aload_n k, 1)) (hi : (k : Nat) = i) (hj : lv[j]? = some (i, .null)) (k : tw_W d M Q (pc + 1) lv (.null :: st) h c n) : tw_W d M Q pc lv (st) h c n := by
  intro p l e R s m args below meth cd H locs ls cells slots X hl hh hS hc hn
  exact lv_aload_nN X.1 X.2.1 hd hi (lv_at hl j hj) (k p l e R s m args below meth cd H locs ls cells slots X hl hh hS hc hn)
theorem tw_aloadN {i : Nat} (j : Nat) (hd : decode M.2.1 pc = .ok (.aload i, 2)) (hj : lv[j]? = some (i, .null)) (k : tw_W d M Q (pc + 2) lv (.null :: st) h c n) : tw_W d M Q pc lv (st) h c n := by
  intro p l e R s m args below meth cd H locs ls cells slots X hl hh hS hc hn
  exact lv_aloadN X.1 X.2.1 hd (lv_at hl j hj) (k p l e R s m args below meth cd H locs ls cells slots X hl hh hS hc hn)
theorem tw_istore_n {k : Fin 4} {i : Nat} {x : Int32} (lv2 : List (Nat × Value)) (hd : decode M.2.1 pc = .ok (.istore_n k, 1)) (hi : (k : Nat) = i) (hn : i < M.2.2.1) (hz : (i, Value.int x) :: lv.filter (fun q => !(q.1 == i) && !(q.1 + 1 == i && q.2.category == 2)) = lv2) (k : tw_W d M Q (pc + 1) lv2 st h c n) : tw_W d M Q pc lv (.int x :: st) h c n := by
  intro p l e R s m args below meth cd H locs ls cells slots X hl hh hS hc hn
  exact lv_istore_n X.1 X.2.1 hd hi hl (by assumption) hz (fun ls2 hl2 => k p l e R s m args below meth cd H locs ls2 cells slots X hl2 hh hS hc hn)
theorem tw_istore {i : Nat} {x : Int32} (lv2 : List (Nat × Value)) (hd : decode M.2.1 pc = .ok (.istore i, 2)) (hn : i < M.2.2.1) (hz : (i, Value.int x) :: lv.filter (fun q => !(q.1 == i) && !(q.1 + 1 == i && q.2.category == 2)) = lv2) (k : tw_W d M Q (pc + 2) lv2 st h c n) : tw_W d M Q pc lv (.int x :: st) h c n := by
  intro p l e R s m args below meth cd H locs ls cells slots X hl hh hS hc hn
  exact lv_istore X.1 X.2.1 hd hl (by assumption) hz (fun ls2 hl2 => k p l e R s m args below meth cd H locs ls2 cells slots X hl2 hh hS hc hn)
theorem tw_astore_n {k : Fin 4} {i : Nat} {x : Nat} (lv2 : List (Nat × Value)) (hd : decode M.2.1 pc = .ok (.astore_n k, 1)) (hi : (k : Nat) = i) (hn : i < M.2.2.1) (hz : (i, Value.ref x) :: lv.filter (fun q => !(q.1 == i) && !(q.1 + 1 == i && q.2.category == 2)) = lv2) (k : tw_W d M Q (pc + 1) lv2 st h c n) : tw_W d M Q pc lv (.ref x :: st) h c n := by
  intro p l e R s m args below meth cd H locs ls cells slots X hl hh hS hc hn
  exact lv_astore_n X.1 X.2.1 hd hi hl (by assumption) hz (fun ls2 hl2 => k p l e R s m args below meth cd H locs ls2 cells slots X hl2 hh hS hc hn)
theorem tw_astore {i : Nat} {x : Nat} (lv2 : List (Nat × Value)) (hd : decode M.2.1 pc = .ok (.astore i, 2)) (hn : i < M.2.2.1) (hz : (i, Value.ref x) :: lv.filter (fun q => !(q.1 == i) && !(q.1 + 1 == i && q.2.category == 2)) = lv2) (k : tw_W d M Q (pc + 2) lv2 st h c n) : tw_W d M Q pc lv (.ref x :: st) h c n := by
  intro p l e R s m args below meth cd H locs ls cells slots X hl hh hS hc hn
  exact lv_astore X.1 X.2.1 hd hl (by assumption) hz (fun ls2 hl2 => k p l e R s m args below meth cd H locs ls2 cells slots X hl2 hh hS hc hn)
theorem tw_astore_nN {k : Fin 4} {i : Nat}  (lv2 : List (Nat × Value)) (hd : decode M.2.1 pc = .ok (.astore_n k, 1)) (hi : (k : Nat) = i) (hn : i < M.2.2.1) (hz : (i, Value.null) :: lv.filter (fun q => !(q.1 == i) && !(q.1 + 1 == i && q.2.category == 2)) = lv2) (k : tw_W d M Q (pc + 1) lv2 st h c n) : tw_W d M Q pc lv (.null :: st) h c n := by
  intro p l e R s m args below meth cd H locs ls cells slots X hl hh hS hc hn
  exact lv_astore_nN X.1 X.2.1 hd hi hl (by assumption) hz (fun ls2 hl2 => k p l e R s m args below meth cd H locs ls2 cells slots X hl2 hh hS hc hn)
theorem tw_astoreN {i : Nat}  (lv2 : List (Nat × Value)) (hd : decode M.2.1 pc = .ok (.astore i, 2)) (hn : i < M.2.2.1) (hz : (i, Value.null) :: lv.filter (fun q => !(q.1 == i) && !(q.1 + 1 == i && q.2.category == 2)) = lv2) (k : tw_W d M Q (pc + 2) lv2 st h c n) : tw_W d M Q pc lv (.null :: st) h c n := by
  intro p l e R s m args below meth cd H locs ls cells slots X hl hh hS hc hn
  exact lv_astoreN X.1 X.2.1 hd hl (by assumption) hz (fun ls2 hl2 => k p l e R s m args below meth cd H locs ls2 cells slots X hl2 hh hS hc hn)
theorem tw_lstore_n {k : Fin 4} {i : Nat} {x : Int64} (lv2 : List (Nat × Value)) (hd : decode M.2.1 pc = .ok (.lstore_n k, 1)) (hi : (k : Nat) = i) (hn : i + 1 < M.2.2.1) (hz : (i, Value.long x) :: lv.filter (fun q => !(q.1 == i) && (!(q.1 == i + 1) && !(q.1 + 1 == i && q.2.category == 2))) = lv2) (k : tw_W d M Q (pc + 1) lv2 st h c n) : tw_W d M Q pc lv (.long x :: st) h c n := by
  intro p l e R s m args below meth cd H locs ls cells slots X hl hh hS hc hn
  exact lv_lstore_n X.1 X.2.1 hd hi hl (by assumption) hz (fun ls2 hl2 => k p l e R s m args below meth cd H locs ls2 cells slots X hl2 hh hS hc hn)
theorem tw_lstore {i : Nat} {x : Int64} (lv2 : List (Nat × Value)) (hd : decode M.2.1 pc = .ok (.lstore i, 2)) (hn : i + 1 < M.2.2.1) (hz : (i, Value.long x) :: lv.filter (fun q => !(q.1 == i) && (!(q.1 == i + 1) && !(q.1 + 1 == i && q.2.category == 2))) = lv2) (k : tw_W d M Q (pc + 2) lv2 st h c n) : tw_W d M Q pc lv (.long x :: st) h c n := by
  intro p l e R s m args below meth cd H locs ls cells slots X hl hh hS hc hn
  exact lv_lstore X.1 X.2.1 hd hl (by assumption) hz (fun ls2 hl2 => k p l e R s m args below meth cd H locs ls2 cells slots X hl2 hh hS hc hn)
theorem tw_iinc {i : Nat} {k9 : Int} {x v : Int32} (lv2 : List (Nat × Value)) (j : Nat) (hd : decode M.2.1 pc = .ok (.iinc i k9, 3)) (hj : lv[j]? = some (i, .int x)) (hv : x + Int32.ofInt k9 = v) (hn : i < M.2.2.1) (hz : (i, Value.int v) :: lv.filter (fun q => !(q.1 == i) && !(q.1 + 1 == i && q.2.category == 2)) = lv2) (k : tw_W d M Q (pc + 3) lv2 st h c n) : tw_W d M Q pc lv (st) h c n := by
  intro p l e R s m args below meth cd H locs ls cells slots X hl hh hS hc hn
  exact lv_iinc X.1 X.2.1 hd hl hj hv (by assumption) hz (fun ls2 hl2 => k p l e R s m args below meth cd H locs ls2 cells slots X hl2 hh hS hc hn)
theorem tw_iadd {x y : Int32} (hd : decode M.2.1 pc = .ok (.iadd, 1)) (k : tw_W d M Q (pc + 1) lv (.int (x + y) :: st) h c n) : tw_W d M Q pc lv (.int y :: .int x :: st) h c n := by
  intro p l e R s m args below meth cd H locs ls cells slots X hl hh hS hc hn
  exact lv_iadd X.1 X.2.1 hd (k p l e R s m args below meth cd H locs ls cells slots X hl hh hS hc hn)
theorem tw_isub {x y : Int32} (hd : decode M.2.1 pc = .ok (.isub, 1)) (k : tw_W d M Q (pc + 1) lv (.int (x - y) :: st) h c n) : tw_W d M Q pc lv (.int y :: .int x :: st) h c n := by
  intro p l e R s m args below meth cd H locs ls cells slots X hl hh hS hc hn
  exact lv_isub X.1 X.2.1 hd (k p l e R s m args below meth cd H locs ls cells slots X hl hh hS hc hn)
theorem tw_imul {x y : Int32} (hd : decode M.2.1 pc = .ok (.imul, 1)) (k : tw_W d M Q (pc + 1) lv (.int (x * y) :: st) h c n) : tw_W d M Q pc lv (.int y :: .int x :: st) h c n := by
  intro p l e R s m args below meth cd H locs ls cells slots X hl hh hS hc hn
  exact lv_imul X.1 X.2.1 hd (k p l e R s m args below meth cd H locs ls cells slots X hl hh hS hc hn)
theorem tw_iand {x y : Int32} (hd : decode M.2.1 pc = .ok (.iand, 1)) (k : tw_W d M Q (pc + 1) lv (.int (x &&& y) :: st) h c n) : tw_W d M Q pc lv (.int y :: .int x :: st) h c n := by
  intro p l e R s m args below meth cd H locs ls cells slots X hl hh hS hc hn
  exact lv_iand X.1 X.2.1 hd (k p l e R s m args below meth cd H locs ls cells slots X hl hh hS hc hn)
theorem tw_ladd {x y : Int64} (hd : decode M.2.1 pc = .ok (.ladd, 1)) (k : tw_W d M Q (pc + 1) lv (.long (x + y) :: st) h c n) : tw_W d M Q pc lv (.long y :: .long x :: st) h c n := by
  intro p l e R s m args below meth cd H locs ls cells slots X hl hh hS hc hn
  exact lv_ladd X.1 X.2.1 hd (k p l e R s m args below meth cd H locs ls cells slots X hl hh hS hc hn)
theorem tw_lsub {x y : Int64} (hd : decode M.2.1 pc = .ok (.lsub, 1)) (k : tw_W d M Q (pc + 1) lv (.long (x - y) :: st) h c n) : tw_W d M Q pc lv (.long y :: .long x :: st) h c n := by
  intro p l e R s m args below meth cd H locs ls cells slots X hl hh hS hc hn
  exact lv_lsub X.1 X.2.1 hd (k p l e R s m args below meth cd H locs ls cells slots X hl hh hS hc hn)
theorem tw_lmul {x y : Int64} (hd : decode M.2.1 pc = .ok (.lmul, 1)) (k : tw_W d M Q (pc + 1) lv (.long (x * y) :: st) h c n) : tw_W d M Q pc lv (.long y :: .long x :: st) h c n := by
  intro p l e R s m args below meth cd H locs ls cells slots X hl hh hS hc hn
  exact lv_lmul X.1 X.2.1 hd (k p l e R s m args below meth cd H locs ls cells slots X hl hh hS hc hn)
theorem tw_idiv {x y : Int32} (hd : decode M.2.1 pc = .ok (.idiv, 1)) (hne : ¬ y = 0) (k : tw_W d M Q (pc + 1) lv (.int (x / y) :: st) h c n) : tw_W d M Q pc lv (.int y :: .int x :: st) h c n := by
  intro p l e R s m args below meth cd H locs ls cells slots X hl hh hS hc hn
  exact lv_idiv X.1 X.2.1 hd hne (k p l e R s m args below meth cd H locs ls cells slots X hl hh hS hc hn)
theorem tw_irem {x y : Int32} (hd : decode M.2.1 pc = .ok (.irem, 1)) (hne : ¬ y = 0) (k : tw_W d M Q (pc + 1) lv (.int (x - x / y * y) :: st) h c n) : tw_W d M Q pc lv (.int y :: .int x :: st) h c n := by
  intro p l e R s m args below meth cd H locs ls cells slots X hl hh hS hc hn
  exact lv_irem X.1 X.2.1 hd hne (k p l e R s m args below meth cd H locs ls cells slots X hl hh hS hc hn)
theorem tw_ldiv {x y : Int64} (hd : decode M.2.1 pc = .ok (.ldiv, 1)) (hne : ¬ y = 0) (k : tw_W d M Q (pc + 1) lv (.long (x / y) :: st) h c n) : tw_W d M Q pc lv (.long y :: .long x :: st) h c n := by
  intro p l e R s m args below meth cd H locs ls cells slots X hl hh hS hc hn
  exact lv_ldiv X.1 X.2.1 hd hne (k p l e R s m args below meth cd H locs ls cells slots X hl hh hS hc hn)
theorem tw_ineg {x : Int32} (hd : decode M.2.1 pc = .ok (.ineg, 1)) (k : tw_W d M Q (pc + 1) lv (.int (-x) :: st) h c n) : tw_W d M Q pc lv (.int x :: st) h c n := by
  intro p l e R s m args below meth cd H locs ls cells slots X hl hh hS hc hn
  exact lv_ineg X.1 X.2.1 hd (k p l e R s m args below meth cd H locs ls cells slots X hl hh hS hc hn)
theorem tw_i2l {x : Int32} (hd : decode M.2.1 pc = .ok (.i2l, 1)) (k : tw_W d M Q (pc + 1) lv (.long x.toInt64 :: st) h c n) : tw_W d M Q pc lv (.int x :: st) h c n := by
  intro p l e R s m args below meth cd H locs ls cells slots X hl hh hS hc hn
  exact lv_i2l X.1 X.2.1 hd rfl (k p l e R s m args below meth cd H locs ls cells slots X hl hh hS hc hn)
theorem tw_l2i {x : Int64} (hd : decode M.2.1 pc = .ok (.l2i, 1)) (k : tw_W d M Q (pc + 1) lv (.int x.toInt32 :: st) h c n) : tw_W d M Q pc lv (.long x :: st) h c n := by
  intro p l e R s m args below meth cd H locs ls cells slots X hl hh hS hc hn
  exact lv_l2i X.1 X.2.1 hd rfl (k p l e R s m args below meth cd H locs ls cells slots X hl hh hS hc hn)
theorem tw_lcmp {x y : Int64} (hd : decode M.2.1 pc = .ok (.lcmp, 1)) (k : tw_W d M Q (pc + 1) lv (.int (lg_cmp x y) :: st) h c n) : tw_W d M Q pc lv (.long y :: .long x :: st) h c n := by
  intro p l e R s m args below meth cd H locs ls cells slots X hl hh hS hc hn
  exact W.lcmp X.1 X.2.1 hd (k p l e R s m args below meth cd H locs ls cells slots X hl hh hS hc hn)
theorem tw_dup {v : Value} (hd : decode M.2.1 pc = .ok (.dup, 1)) (hv : v.category = 1) (k : tw_W d M Q (pc + 1) lv (v :: v :: st) h c n) : tw_W d M Q pc lv (v :: st) h c n := by
  intro p l e R s m args below meth cd H locs ls cells slots X hl hh hS hc hn
  exact lv_dup X.1 X.2.1 hd hv (k p l e R s m args below meth cd H locs ls cells slots X hl hh hS hc hn)
theorem tw_dup_x1 {v w : Value} (hd : decode M.2.1 pc = .ok (.dup_x1, 1)) (hv : v.category = 1) (hw : w.category = 1) (k : tw_W d M Q (pc + 1) lv (v :: w :: v :: st) h c n) : tw_W d M Q pc lv (v :: w :: st) h c n := by
  intro p l e R s m args below meth cd H locs ls cells slots X hl hh hS hc hn
  exact lv_dup_x1 X.1 X.2.1 hd hv hw (k p l e R s m args below meth cd H locs ls cells slots X hl hh hS hc hn)
theorem tw_dup2 {v w : Value} (hd : decode M.2.1 pc = .ok (.dup2, 1)) (hv : v.category = 1) (hw : w.category = 1) (k : tw_W d M Q (pc + 1) lv (v :: w :: v :: w :: st) h c n) : tw_W d M Q pc lv (v :: w :: st) h c n := by
  intro p l e R s m args below meth cd H locs ls cells slots X hl hh hS hc hn
  exact lv_dup2_11 X.1 X.2.1 hd hv hw (k p l e R s m args below meth cd H locs ls cells slots X hl hh hS hc hn)
theorem tw_pop {v : Value} (hd : decode M.2.1 pc = .ok (.pop, 1)) (hv : v.category = 1) (k : tw_W d M Q (pc + 1) lv (st) h c n) : tw_W d M Q pc lv (v :: st) h c n := by
  intro p l e R s m args below meth cd H locs ls cells slots X hl hh hS hc hn
  exact lv_pop X.1 X.2.1 hd hv (k p l e R s m args below meth cd H locs ls cells slots X hl hh hS hc hn)
theorem tw_null  (hd : decode M.2.1 pc = .ok (.aconst_null, 1)) (k : tw_W d M Q (pc + 1) lv (.null :: st) h c n) : tw_W d M Q pc lv (st) h c n := by
  intro p l e R s m args below meth cd H locs ls cells slots X hl hh hS hc hn
  exact lv_null X.1 X.2.1 hd (k p l e R s m args below meth cd H locs ls cells slots X hl hh hS hc hn)
theorem tw_goto {off : Int} (tgt : Nat) (hd : decode M.2.1 pc = .ok (.goto off, 3)) (ht : (pc : Int) + off = (tgt : Int)) (k : tw_W d M Q tgt lv (st) h c n) : tw_W d M Q pc lv (st) h c n := by
  intro p l e R s m args below meth cd H locs ls cells slots X hl hh hS hc hn
  exact lv_goto X.1 X.2.1 hd ht (k p l e R s m args below meth cd H locs ls cells slots X hl hh hS hc hn)
theorem tw_ifnull {x : Nat} {off : Int} (hd : decode M.2.1 pc = .ok (.ifnull off, 3)) (k : tw_W d M Q (pc + 3) lv (st) h c n) : tw_W d M Q pc lv (.ref x :: st) h c n := by
  intro p l e R s m args below meth cd H locs ls cells slots X hl hh hS hc hn
  exact lv_ifnull X.1 X.2.1 hd (k p l e R s m args below meth cd H locs ls cells slots X hl hh hS hc hn)
theorem tw_ifnullN {off : Int} (tgt : Nat) (hd : decode M.2.1 pc = .ok (.ifnull off, 3)) (ht : (pc : Int) + off = (tgt : Int)) (k : tw_W d M Q tgt lv (st) h c n) : tw_W d M Q pc lv (.null :: st) h c n := by
  intro p l e R s m args below meth cd H locs ls cells slots X hl hh hS hc hn
  exact lv_ifnullN X.1 X.2.1 hd ht (k p l e R s m args below meth cd H locs ls cells slots X hl hh hS hc hn)
theorem tw_ifnonnull {x : Nat} {off : Int} (tgt : Nat) (hd : decode M.2.1 pc = .ok (.ifnonnull off, 3)) (ht : (pc : Int) + off = (tgt : Int)) (k : tw_W d M Q tgt lv (st) h c n) : tw_W d M Q pc lv (.ref x :: st) h c n := by
  intro p l e R s m args below meth cd H locs ls cells slots X hl hh hS hc hn
  exact lv_ifnonnull X.1 X.2.1 hd ht (k p l e R s m args below meth cd H locs ls cells slots X hl hh hS hc hn)
theorem tw_ifnonnullN {off : Int} (hd : decode M.2.1 pc = .ok (.ifnonnull off, 3)) (k : tw_W d M Q (pc + 3) lv (st) h c n) : tw_W d M Q pc lv (.null :: st) h c n := by
  intro p l e R s m args below meth cd H locs ls cells slots X hl hh hS hc hn
  exact lv_ifnonnullN X.1 X.2.1 hd (k p l e R s m args below meth cd H locs ls cells slots X hl hh hS hc hn)
theorem tw_castN {ix : Nat} (hd : decode M.2.1 pc = .ok (.checkcast ix, 3)) (k : tw_W d M Q (pc + 3) lv (.null :: st) h c n) : tw_W d M Q pc lv (.null :: st) h c n := by
  intro p l e R s m args below meth cd H locs ls cells slots X hl hh hS hc hn
  exact lv_castN X.1 X.2.1 hd (k p l e R s m args below meth cd H locs ls cells slots X hl hh hS hc hn)
theorem tw_tabOut {dflt lo hi : Int} {offs : Array Int} {len : Nat} {x : Int32} (tgt : Nat) (hd : decode M.2.1 pc = .ok (.tableswitch dflt lo hi offs, len)) (hx : x.toInt < lo ∨ hi < x.toInt) (ht : (pc : Int) + dflt = (tgt : Int)) (k : tw_W d M Q tgt lv (st) h c n) : tw_W d M Q pc lv (.int x :: st) h c n := by
  intro p l e R s m args below meth cd H locs ls cells slots X hl hh hS hc hn
  exact lv_tableOut X.1 X.2.1 hd hx ht (k p l e R s m args below meth cd H locs ls cells slots X hl hh hS hc hn)
theorem tw_tabIn {dflt lo hi : Int} {offs : Array Int} {len : Nat} {x : Int32} {off : Int} (tgt : Nat) (hd : decode M.2.1 pc = .ok (.tableswitch dflt lo hi offs, len)) (h1 : ¬ x.toInt < lo) (h2 : ¬ hi < x.toInt) (ho : offs[(x.toInt - lo).toNat]? = some off) (ht : (pc : Int) + off = (tgt : Int)) (k : tw_W d M Q tgt lv (st) h c n) : tw_W d M Q pc lv (.int x :: st) h c n := by
  intro p l e R s m args below meth cd H locs ls cells slots X hl hh hS hc hn
  exact lv_tableIn X.1 X.2.1 hd h1 h2 ho ht (k p l e R s m args below meth cd H locs ls cells slots X hl hh hS hc hn)
theorem tw_if_eq {x : Int32} {off : Int} (tgt : Nat) (hd : decode M.2.1 pc = .ok (.ifCond .eq off, 3)) (ht : (pc : Int) + off = (tgt : Int)) (kt : x = 0 → tw_W d M Q tgt lv st h c n) (kf : ¬ x = 0 → tw_W d M Q (pc + 3) lv st h c n) : tw_W d M Q pc lv (.int x :: st) h c n := by
  intro p l e R s m args below meth cd H locs ls cells slots X hl hh hS hc hn
  exact lv_if_eq X.1 X.2.1 hd ht (fun q => kt q p l e R s m args below meth cd H locs ls cells slots X hl hh hS hc hn) (fun q => kf q p l e R s m args below meth cd H locs ls cells slots X hl hh hS hc hn)
theorem tw_icmp_eq {x y : Int32} {off : Int} (tgt : Nat) (hd : decode M.2.1 pc = .ok (.if_icmp .eq off, 3)) (ht : (pc : Int) + off = (tgt : Int)) (kt : x = y → tw_W d M Q tgt lv st h c n) (kf : ¬ x = y → tw_W d M Q (pc + 3) lv st h c n) : tw_W d M Q pc lv (.int y :: .int x :: st) h c n := by
  intro p l e R s m args below meth cd H locs ls cells slots X hl hh hS hc hn
  exact lv_icmp_eq X.1 X.2.1 hd ht (fun q => kt q p l e R s m args below meth cd H locs ls cells slots X hl hh hS hc hn) (fun q => kf q p l e R s m args below meth cd H locs ls cells slots X hl hh hS hc hn)
theorem tw_if_ne {x : Int32} {off : Int} (tgt : Nat) (hd : decode M.2.1 pc = .ok (.ifCond .ne off, 3)) (ht : (pc : Int) + off = (tgt : Int)) (kt : ¬ x = 0 → tw_W d M Q tgt lv st h c n) (kf : x = 0 → tw_W d M Q (pc + 3) lv st h c n) : tw_W d M Q pc lv (.int x :: st) h c n := by
  intro p l e R s m args below meth cd H locs ls cells slots X hl hh hS hc hn
  exact lv_if_ne X.1 X.2.1 hd ht (fun q => kt q p l e R s m args below meth cd H locs ls cells slots X hl hh hS hc hn) (fun q => kf q p l e R s m args below meth cd H locs ls cells slots X hl hh hS hc hn)
theorem tw_icmp_ne {x y : Int32} {off : Int} (tgt : Nat) (hd : decode M.2.1 pc = .ok (.if_icmp .ne off, 3)) (ht : (pc : Int) + off = (tgt : Int)) (kt : ¬ x = y → tw_W d M Q tgt lv st h c n) (kf : x = y → tw_W d M Q (pc + 3) lv st h c n) : tw_W d M Q pc lv (.int y :: .int x :: st) h c n := by
  intro p l e R s m args below meth cd H locs ls cells slots X hl hh hS hc hn
  exact lv_icmp_ne X.1 X.2.1 hd ht (fun q => kt q p l e R s m args below meth cd H locs ls cells slots X hl hh hS hc hn) (fun q => kf q p l e R s m args below meth cd H locs ls cells slots X hl hh hS hc hn)
theorem tw_if_lt {x : Int32} {off : Int} (tgt : Nat) (hd : decode M.2.1 pc = .ok (.ifCond .lt off, 3)) (ht : (pc : Int) + off = (tgt : Int)) (kt : x < 0 → tw_W d M Q tgt lv st h c n) (kf : ¬ x < 0 → tw_W d M Q (pc + 3) lv st h c n) : tw_W d M Q pc lv (.int x :: st) h c n := by
  intro p l e R s m args below meth cd H locs ls cells slots X hl hh hS hc hn
  exact lv_if_lt X.1 X.2.1 hd ht (fun q => kt q p l e R s m args below meth cd H locs ls cells slots X hl hh hS hc hn) (fun q => kf q p l e R s m args below meth cd H locs ls cells slots X hl hh hS hc hn)
theorem tw_icmp_lt {x y : Int32} {off : Int} (tgt : Nat) (hd : decode M.2.1 pc = .ok (.if_icmp .lt off, 3)) (ht : (pc : Int) + off = (tgt : Int)) (kt : x < y → tw_W d M Q tgt lv st h c n) (kf : ¬ x < y → tw_W d M Q (pc + 3) lv st h c n) : tw_W d M Q pc lv (.int y :: .int x :: st) h c n := by
  intro p l e R s m args below meth cd H locs ls cells slots X hl hh hS hc hn
  exact lv_icmp_lt X.1 X.2.1 hd ht (fun q => kt q p l e R s m args below meth cd H locs ls cells slots X hl hh hS hc hn) (fun q => kf q p l e R s m args below meth cd H locs ls cells slots X hl hh hS hc hn)
theorem tw_if_ge {x : Int32} {off : Int} (tgt : Nat) (hd : decode M.2.1 pc = .ok (.ifCond .ge off, 3)) (ht : (pc : Int) + off = (tgt : Int)) (kt : 0 ≤ x → tw_W d M Q tgt lv st h c n) (kf : ¬ 0 ≤ x → tw_W d M Q (pc + 3) lv st h c n) : tw_W d M Q pc lv (.int x :: st) h c n := by
  intro p l e R s m args below meth cd H locs ls cells slots X hl hh hS hc hn
  exact lv_if_ge X.1 X.2.1 hd ht (fun q => kt q p l e R s m args below meth cd H locs ls cells slots X hl hh hS hc hn) (fun q => kf q p l e R s m args below meth cd H locs ls cells slots X hl hh hS hc hn)
theorem tw_icmp_ge {x y : Int32} {off : Int} (tgt : Nat) (hd : decode M.2.1 pc = .ok (.if_icmp .ge off, 3)) (ht : (pc : Int) + off = (tgt : Int)) (kt : y ≤ x → tw_W d M Q tgt lv st h c n) (kf : ¬ y ≤ x → tw_W d M Q (pc + 3) lv st h c n) : tw_W d M Q pc lv (.int y :: .int x :: st) h c n := by
  intro p l e R s m args below meth cd H locs ls cells slots X hl hh hS hc hn
  exact lv_icmp_ge X.1 X.2.1 hd ht (fun q => kt q p l e R s m args below meth cd H locs ls cells slots X hl hh hS hc hn) (fun q => kf q p l e R s m args below meth cd H locs ls cells slots X hl hh hS hc hn)
theorem tw_if_gt {x : Int32} {off : Int} (tgt : Nat) (hd : decode M.2.1 pc = .ok (.ifCond .gt off, 3)) (ht : (pc : Int) + off = (tgt : Int)) (kt : 0 < x → tw_W d M Q tgt lv st h c n) (kf : ¬ 0 < x → tw_W d M Q (pc + 3) lv st h c n) : tw_W d M Q pc lv (.int x :: st) h c n := by
  intro p l e R s m args below meth cd H locs ls cells slots X hl hh hS hc hn
  exact lv_if_gt X.1 X.2.1 hd ht (fun q => kt q p l e R s m args below meth cd H locs ls cells slots X hl hh hS hc hn) (fun q => kf q p l e R s m args below meth cd H locs ls cells slots X hl hh hS hc hn)
theorem tw_icmp_gt {x y : Int32} {off : Int} (tgt : Nat) (hd : decode M.2.1 pc = .ok (.if_icmp .gt off, 3)) (ht : (pc : Int) + off = (tgt : Int)) (kt : y < x → tw_W d M Q tgt lv st h c n) (kf : ¬ y < x → tw_W d M Q (pc + 3) lv st h c n) : tw_W d M Q pc lv (.int y :: .int x :: st) h c n := by
  intro p l e R s m args below meth cd H locs ls cells slots X hl hh hS hc hn
  exact lv_icmp_gt X.1 X.2.1 hd ht (fun q => kt q p l e R s m args below meth cd H locs ls cells slots X hl hh hS hc hn) (fun q => kf q p l e R s m args below meth cd H locs ls cells slots X hl hh hS hc hn)
theorem tw_if_le {x : Int32} {off : Int} (tgt : Nat) (hd : decode M.2.1 pc = .ok (.ifCond .le off, 3)) (ht : (pc : Int) + off = (tgt : Int)) (kt : x ≤ 0 → tw_W d M Q tgt lv st h c n) (kf : ¬ x ≤ 0 → tw_W d M Q (pc + 3) lv st h c n) : tw_W d M Q pc lv (.int x :: st) h c n := by
  intro p l e R s m args below meth cd H locs ls cells slots X hl hh hS hc hn
  exact lv_if_le X.1 X.2.1 hd ht (fun q => kt q p l e R s m args below meth cd H locs ls cells slots X hl hh hS hc hn) (fun q => kf q p l e R s m args below meth cd H locs ls cells slots X hl hh hS hc hn)
theorem tw_icmp_le {x y : Int32} {off : Int} (tgt : Nat) (hd : decode M.2.1 pc = .ok (.if_icmp .le off, 3)) (ht : (pc : Int) + off = (tgt : Int)) (kt : x ≤ y → tw_W d M Q tgt lv st h c n) (kf : ¬ x ≤ y → tw_W d M Q (pc + 3) lv st h c n) : tw_W d M Q pc lv (.int y :: .int x :: st) h c n := by
  intro p l e R s m args below meth cd H locs ls cells slots X hl hh hS hc hn
  exact lv_icmp_le X.1 X.2.1 hd ht (fun q => kt q p l e R s m args below meth cd H locs ls cells slots X hl hh hS hc hn) (fun q => kf q p l e R s m args below meth cd H locs ls cells slots X hl hh hS hc hn)
theorem tw_acmp_eq {rx ry : Option Nat} {off : Int} (tgt : Nat) (hd : decode M.2.1 pc = .ok (.if_acmp .eq off, 3)) (ht : (pc : Int) + off = (tgt : Int)) (kt : rx = ry → tw_W d M Q tgt lv st h c n) (kf : ¬ rx = ry → tw_W d M Q (pc + 3) lv st h c n) : tw_W d M Q pc lv (va_rf ry :: va_rf rx :: st) h c n := by
  intro p l e R s m args below meth cd H locs ls cells slots X hl hh hS hc hn
  exact lv_acmp_eq X.1 X.2.1 hd ht (fun q => kt q p l e R s m args below meth cd H locs ls cells slots X hl hh hS hc hn) (fun q => kf q p l e R s m args below meth cd H locs ls cells slots X hl hh hS hc hn)
theorem tw_acmp_ne {rx ry : Option Nat} {off : Int} (tgt : Nat) (hd : decode M.2.1 pc = .ok (.if_acmp .ne off, 3)) (ht : (pc : Int) + off = (tgt : Int)) (kt : ¬ rx = ry → tw_W d M Q tgt lv st h c n) (kf : rx = ry → tw_W d M Q (pc + 3) lv st h c n) : tw_W d M Q pc lv (va_rf ry :: va_rf rx :: st) h c n := by
  intro p l e R s m args below meth cd H locs ls cells slots X hl hh hS hc hn
  exact lv_acmp_ne X.1 X.2.1 hd ht (fun q => kt q p l e R s m args below meth cd H locs ls cells slots X hl hh hS hc hn) (fun q => kf q p l e R s m args below meth cd H locs ls cells slots X hl hh hS hc hn)
end

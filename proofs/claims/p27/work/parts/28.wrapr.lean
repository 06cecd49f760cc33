/-! A method with handlers: the judgement, over its table. Rules out of parts 07 and 08. Laid by wip/p5/mkwrap.py. -/
abbrev tw_HH : Type := List (Nat × Nat × Nat × Nat)
abbrev tw_wsH (M : tw_M) (hh : tw_HH) : List Cond := Cond.codeWith M.1 M.2.1 M.2.2.1 M.2.2.2.1 hh :: TW
def tw_CtH (d : tw_D) (M : tw_M) (hh : tw_HH) (mc ms : Nat) (av : List Value) (h : tw_H) (Q : tw_O → tw_H → Prop) : Prop :=
  ∀ l : Launch, l.stackTraces = false → vx_Met l M.1 (tw_wsH M hh) ({ frames := M.2.2.2.2.1, cells := mc, slots := ms, locals := M.2.2.2.2.2 }) (tw_Pc d av h) (tw_Qc d Q) (tw_XC d Q) mc ms (tw_A d)
def tw_XH (d : tw_D) (M : tw_M) (hh : tw_HH) (p : Program) (l : Launch) (R : Room) (s : State) (m : MethodId) (args : Array Value) (meth : Method) (c : Code) : Prop :=
  p.tables.exec = Jvm.exec ∧ c.code = M.2.1 ∧ c.maxLocals = M.2.2.1 ∧ meth.sig.returnType = M.2.2.2.1 ∧ s.vm.findClass M.1.cls = some m.cls ∧ (∀ w ∈ tw_wsH M hh, w.before args s = true) ∧ meth.locks = false ∧ meth.name = M.1.name ∧
  l.stackTraces = false ∧ c.exceptionTable.toList = tableOf hh ∧ R.frames = M.2.2.2.2.1 ∧ R.locals = M.2.2.2.2.2 ∧ va_K d.1 vwCl (tw_tys d) s ∧ tw_St d s s.heap ∧ d.2 100 ≤ s.heap.size
def tw_WH (d : tw_D) (M : tw_M) (hh : tw_HH) (Q : tw_O → tw_H → Prop) (pc : Nat) (lv : List (Nat × Value)) (st : List Value) (h : tw_H) (c n : Nat) : Prop :=
  ∀ (p : Program) (l : Launch) (e : Env) (R : Room) (s : State) (m : MethodId) (args : Array Value) (below : List Frame) (meth : Method) (cd : Code) (H : Heap) (locs : List Loc) (ls : Array Slot) (cells slots : Nat),
    tw_XH d M hh p l R s m args meth cd → lv_has ls M.2.2.1 lv → tw_h d h H → va_S (tw_A d) s.heap H locs → cells + c ≤ R.cells → slots + n ≤ R.slots →
    W p l e R s m args below meth cd H locs cells slots (vx_MQ below (tw_Qc d Q) (tw_XC d Q) args s R.cells R.slots (tw_A d)) (F0 m pc ls st)
theorem tw_ofH {d : tw_D} {M : tw_M} {hh : tw_HH} {mc ms : Nat} {av : List Value} {h : tw_H} {Q : tw_O → tw_H → Prop} (hy : plainName M.1.cls = true) (hn : (lg_sl av).length ≤ M.2.2.1) (k : tw_WH d M hh Q 0 (lv_args 0 av) [] h mc ms) : tw_CtH d M hh mc ms av h Q := by
  intro l hl
  refine vx_ofWH (cc := M.2.1) (maxL := M.2.2.1) (ret := M.2.2.2.1) (hh := hh) hy rfl ?_
  intro p e s m args below meth c s₁ B hml hv
  obtain ⟨rfl, hb, hh9, hK, hSt⟩ := hv
  have hin : meth.name = M.1.name := (name_of_methodNamed B.named B.method).1
  have hat := atoms_spec (ws := tw_wsH M hh) B.pre
  rw [lg_entry_eq]
  exact k p l e _ s m _ below meth c s.heap [] _ 0 0 ⟨B.exec, B.bytes, hml, B.returns, findClass_of_methodNamed B.named, hat, B.notSynchronized, hin, hl, vx_table (x := M.1) B (hat _ List.mem_cons_self), rfl, rfl, hK, hSt, hb⟩ (lv_entry av hn) hh9 va_S.rf (by simp [headSpec]) (by simp [headSpec])
/-- E isn't of the class nm -/
def tw_nc (E nm : String) : Prop := (E = "java/lang/IllegalArgumentException" ∧ nm = "java/lang/IndexOutOfBoundsException") ∨ (E = "java/lang/IllegalStateException" ∧ nm = "java/lang/IndexOutOfBoundsException") ∨ (E = "java/lang/IllegalStateException" ∧ nm = "java/lang/IllegalArgumentException")
def tw_en (x : Nat × Nat × Nat × Nat) : ExceptionTableEntry := ⟨x.1, x.2.1, x.2.2.1, x.2.2.2⟩
/-- where E, thrown at pc, is caught -/
def tw_Hd (M : tw_M) (hh : tw_HH) (pc : Nat) (E : String) (K : Nat → Prop) : Prop := ∃ (pre : tw_HH) (x : Nat × Nat × Nat × Nat) (suf : tw_HH) (nm : String), hh = pre ++ x :: suf ∧ (∀ z ∈ pre, z.2.2.2 ≠ 0 ∧ ∃ nm : String, Cond.classLink M.1.cls z.2.2.2 nm ∈ TW ∧ tw_nc E nm) ∧ covers (tw_en x) pc = true ∧ x.2.2.2 ≠ 0 ∧ Cond.classLink M.1.cls x.2.2.2 nm ∈ TW ∧ Cond.castable E nm ∈ tw_NG ∧ K x.2.2.1
section
variable {d : tw_D} {M : tw_M} {hh : tw_HH} {Q : tw_O → tw_H → Prop} {pc : Nat} {lv : List (Nat × Value)} {st : List Value} {h : tw_H} {c n : Nat}
theorem tb_iconst {k : Int} {v : Int32} (hd : decode M.2.1 pc = .ok (.iconst k, 1)) (hv : Int32.ofInt k = v) (k : tw_WH d M hh Q (pc + 1) lv (.int v :: st) h c n) : tw_WH d M hh Q pc lv (st) h c n := by
  intro p l e R s m args below meth cd H locs ls cells slots X hl hh9 hS hc hn
  exact lv_iconst X.1 X.2.1 hd hv (k p l e R s m args below meth cd H locs ls cells slots X hl hh9 hS hc hn)
theorem tb_lconst {k : Fin 2} {v : Int64} (hd : decode M.2.1 pc = .ok (.lconst k, 1)) (hv : Int64.ofNat (k : Nat) = v) (k : tw_WH d M hh Q (pc + 1) lv (.long v :: st) h c n) : tw_WH d M hh Q pc lv (st) h c n := by
  intro p l e R s m args below meth cd H locs ls cells slots X hl hh9 hS hc hn
  exact lv_lconst X.1 X.2.1 hd hv (k p l e R s m args below meth cd H locs ls cells slots X hl hh9 hS hc hn)
theorem tb_iload_n {k : Fin 4} {i : Nat} {x : Int32} (j : Nat) (hd : decode M.2.1 pc = .ok (.iload_n k, 1)) (hi : (k : Nat) = i) (hj : lv[j]? = some (i, .int x)) (k : tw_WH d M hh Q (pc + 1) lv (.int x :: st) h c n) : tw_WH d M hh Q pc lv (st) h c n := by
  intro p l e R s m args below meth cd H locs ls cells slots X hl hh9 hS hc hn
  exact lv_iload_n X.1 X.2.1 hd hi (lv_at hl j hj) (k p l e R s m args below meth cd H locs ls cells slots X hl hh9 hS hc hn)
theorem tb_iload {i : Nat} {x : Int32} (j : Nat) (hd : decode M.2.1 pc = .ok (.iload i, 2)) (hj : lv[j]? = some (i, .int x)) (k : tw_WH d M hh Q (pc + 2) lv (.int x :: st) h c n) : tw_WH d M hh Q pc lv (st) h c n := by
  intro p l e R s m args below meth cd H locs ls cells slots X hl hh9 hS hc hn
  exact lv_iload X.1 X.2.1 hd (lv_at hl j hj) (k p l e R s m args below meth cd H locs ls cells slots X hl hh9 hS hc hn)
theorem tb_aload_n {k : Fin 4} {i : Nat} {x : Nat} (j : Nat) (hd : decode M.2.1 pc = .ok (.aload_n k, 1)) (hi : (k : Nat) = i) (hj : lv[j]? = some (i, .ref x)) (k : tw_WH d M hh Q (pc + 1) lv (.ref x :: st) h c n) : tw_WH d M hh Q pc lv (st) h c n := by
  intro p l e R s m args below meth cd H locs ls cells slots X hl hh9 hS hc hn
  exact lv_aload_n X.1 X.2.1 hd hi (lv_at hl j hj) (k p l e R s m args below meth cd H locs ls cells slots X hl hh9 hS hc hn)
theorem tb_aload {i : Nat} {x : Nat} (j : Nat) (hd : decode M.2.1 pc = .ok (.aload i, 2)) (hj : lv[j]? = some (i, .ref x)) (k : tw_WH d M hh Q (pc + 2) lv (.ref x :: st) h c n) : tw_WH d M hh Q pc lv (st) h c n := by
  intro p l e R s m args below meth cd H locs ls cells slots X hl hh9 hS hc hn
  exact lv_aload X.1 X.2.1 hd (lv_at hl j hj) (k p l e R s m args below meth cd H locs ls cells slots X hl hh9 hS hc hn)
theorem tb_astore_n {k : Fin 4} {i : Nat} {x : Nat} (lv2 : List (Nat × Value)) (hd : decode M.2.1 pc = .ok (.astore_n k, 1)) (hi : (k : Nat) = i) (hn : i < M.2.2.1) (hz : (i, Value.ref x) :: lv.filter (fun q => !(q.1 == i) && !(q.1 + 1 == i && q.2.category == 2)) = lv2) (k : tw_WH d M hh Q (pc + 1) lv2 st h c n) : tw_WH d M hh Q pc lv (.ref x :: st) h c n := by
  intro p l e R s m args below meth cd H locs ls cells slots X hl hh9 hS hc hn
  exact lv_astore_n X.1 X.2.1 hd hi hl (by assumption) hz (fun ls2 hl2 => k p l e R s m args below meth cd H locs ls2 cells slots X hl2 hh9 hS hc hn)
theorem tb_astore {i : Nat} {x : Nat} (lv2 : List (Nat × Value)) (hd : decode M.2.1 pc = .ok (.astore i, 2)) (hn : i < M.2.2.1) (hz : (i, Value.ref x) :: lv.filter (fun q => !(q.1 == i) && !(q.1 + 1 == i && q.2.category == 2)) = lv2) (k : tw_WH d M hh Q (pc + 2) lv2 st h c n) : tw_WH d M hh Q pc lv (.ref x :: st) h c n := by
  intro p l e R s m args below meth cd H locs ls cells slots X hl hh9 hS hc hn
  exact lv_astore X.1 X.2.1 hd hl (by assumption) hz (fun ls2 hl2 => k p l e R s m args below meth cd H locs ls2 cells slots X hl2 hh9 hS hc hn)
theorem tb_i2l {x : Int32} (hd : decode M.2.1 pc = .ok (.i2l, 1)) (k : tw_WH d M hh Q (pc + 1) lv (.long x.toInt64 :: st) h c n) : tw_WH d M hh Q pc lv (.int x :: st) h c n := by
  intro p l e R s m args below meth cd H locs ls cells slots X hl hh9 hS hc hn
  exact lv_i2l X.1 X.2.1 hd rfl (k p l e R s m args below meth cd H locs ls cells slots X hl hh9 hS hc hn)
theorem tb_goto {off : Int} (tgt : Nat) (hd : decode M.2.1 pc = .ok (.goto off, 3)) (ht : (pc : Int) + off = (tgt : Int)) (k : tw_WH d M hh Q tgt lv (st) h c n) : tw_WH d M hh Q pc lv (st) h c n := by
  intro p l e R s m args below meth cd H locs ls cells slots X hl hh9 hS hc hn
  exact lv_goto X.1 X.2.1 hd ht (k p l e R s m args below meth cd H locs ls cells slots X hl hh9 hS hc hn)
theorem tb_if_eq {x : Int32} {off : Int} (tgt : Nat) (hd : decode M.2.1 pc = .ok (.ifCond .eq off, 3)) (ht : (pc : Int) + off = (tgt : Int)) (kt : x = 0 → tw_WH d M hh Q tgt lv st h c n) (kf : ¬ x = 0 → tw_WH d M hh Q (pc + 3) lv st h c n) : tw_WH d M hh Q pc lv (.int x :: st) h c n := by
  intro p l e R s m args below meth cd H locs ls cells slots X hl hh9 hS hc hn
  exact lv_if_eq X.1 X.2.1 hd ht (fun q => kt q p l e R s m args below meth cd H locs ls cells slots X hl hh9 hS hc hn) (fun q => kf q p l e R s m args below meth cd H locs ls cells slots X hl hh9 hS hc hn)
theorem tb_putN {ci ix N : Nat} {C ref : String} {T : u_T} {a : Nat} {fs : List Value} {v : Value} (hcl : vwCl[ci]? = some (C, T, N)) (hin : ∀ w ∈ u_ws C T N, w ∈ TW) (ty0 : Nat → FieldType) (hty : ∀ k, k < N → parseFieldDescriptor (T k).2.2.1 = some (ty0 k)) (hnm : ∀ a, a < N → ∀ b, b < N → a ≠ b → (T a).2.1 ≠ (T b).2.1) (k : Nat) (hd : decode M.2.1 pc = .ok (.putfield ix, 3)) {host : String} (hw : Cond.fieldLinkNest M.1.cls ix ref (T k).2.1 (T k).2.2.1 host ∈ tw_NG) (hs : ref = (T k).1) (hk : k < N) (ha : h a = some (.inr (ci, fs))) (hf : (T k).2.2.2 = false) {ty : FieldType} (hpt : parseFieldDescriptor (T k).2.2.1 = some ty) (hnr : narrow ty v = v) (hft : fits ty v = true) (hl9 : k < fs.length) (fs2 : List Value) (hf2 : fs.set k v = fs2) (kk : tw_WH d M hh Q (pc + 3) lv st (tw_up h a (.inr (ci, fs2))) c n) : tw_WH d M hh Q pc lv (v :: .ref a :: st) h c n := by
  intro p l e R s m args below meth cd H locs ls cells slots X hl hh9 hS hc hn
  obtain ⟨hx, hb, hml, hr, hown, hts, hlocks, hname, hlt, hno, hRf, hRl, hK, hSt, hbase⟩ := id X
  obtain ⟨ws, hP, hD, hw2⟩ := id hh9
  obtain ⟨q0, hq⟩ := hw2 a _ ha
  subst hf2
  exact va_putN (D := d.1) (cl := vwCl) (Ts := tw_wsH M hh) hx hb hts (fun w q => List.mem_cons_of_mem _ (hin w q)) ty0 hty hnm hown hK hP hD hS q0 hq hcl k hk (va_Nw.use rfl (hSt.1 _ hw)) (fun x q => by rw [hs]; exact q) hf hpt hnr hft hl9 hd (fun H1 locs1 hP1 hD1 hS1 => kk p l e R s m args below meth cd H1 locs1 ls cells slots X hl ⟨_, hP1, hD1, tw_set hw2 hq⟩ hS1 hc hn)
theorem tb_iret {v : Int32} (hd : decode M.2.1 pc = .ok (.ireturn, 1)) (hy : M.2.2.2.1 = some .int) (hq : Q (.inl (some (.int v))) h) : tw_WH d M hh Q pc lv [.int v] h c n := by
  intro p l e R s m args below meth cd H locs ls cells slots X hl hh9 hS hc hn
  obtain ⟨hx, hb, hml, hr, hown, hts, hlocks, hname, hlt, hno, hRf, hRl, hK, hSt, hbase⟩ := id X
  refine vx_ret (W.widen (k := R.cells) (n := R.slots) (by omega) (by omega) ?_)
  exact W.iret (v := v) hx hb (by rw [hr, hy]) (fun t ht hW => ⟨_, h, rfl, hq, by rw [ht]; exact hh9, hS.F ht⟩) hS.2.2 hd hlocks
theorem tb_nml {x : Int64} (k : ∀ y : Int64, y = x → tw_WH d M hh Q pc lv (.long y :: st) h c n) : tw_WH d M hh Q pc lv (.long x :: st) h c n := k x rfl
theorem tb_pre {p : Program} {l : Launch} {R : Room} {s : State} {m : MethodId} {args : Array Value} {meth : Method} {cd : Code} {H : Heap} {locs : List Loc} (X : tw_XH d M hh p l R s m args meth cd) (hh9 : tw_h d h H) (hS : va_S (tw_A d) s.heap H locs) {U : State} (hU : U.heap = H) (hW : s.WarmedH U.vm) : d.2 100 ≤ U.heap.size ∧ tw_T d h U U.heap := by
  obtain ⟨hx, hb, hml, hr, hown, hts, hlocks, hname, hlt, hno, hRf, hRl, hK, hSt, hbase⟩ := X
  exact ⟨by rw [hU]; exact Nat.le_trans hbase hS.1, by rw [hU]; exact hh9, va_K.moved hW.alike hK, by rw [hU]; exact tw_St.go hW hSt hS.2.1⟩
def tb_Call (d : tw_D) (M : tw_M) (hh : tw_HH) (Q Qn : tw_O → tw_H → Prop) (pc : Nat) (lv : List (Nat × Value)) (st rest : List Value) (h : tw_H) (c n c2 n2 : Nat) : Prop :=
  (∀ (v : Option Value) (h1 : tw_H), Qn (.inl v) h1 → tw_WH d M hh Q (pc + 3) lv (v.toList ++ rest) h1 c2 n2) → (∀ (E : String) (h1 : tw_H) (q : Nat), Qn (.inr E) h1 → tw_Hd M hh pc E (fun hp => tw_WH d M hh Q hp lv [.ref q] h1 c2 n2)) → tw_WH d M hh Q pc lv st h c n
theorem tb_run {Q Qn : tw_O → tw_H → Prop} {p : Program} {l : Launch} {e : Env} {R : Room} {s : State} {m : MethodId} {args : Array Value} {below : List Frame} {meth : Method} {cd : Code} {H : Heap} {locs : List Loc} {ls : Array Slot} {cells slots mc ms c2 n2 : Nat} {st0 rest : List Value} {a : Array Value} (X : tw_XH d M hh p l R s m args meth cd) (hl : lv_has ls M.2.2.1 lv) (hS : va_S (tw_A d) s.heap H locs) (hc : cells + mc + c2 ≤ R.cells) (hn : slots + ms + n2 ≤ R.slots)
    (hrun : vx_Run p l e R s m args below meth cd H locs cells slots mc ms (F0 m pc ls st0) rest (tw_Qc d Qn a) (tw_XC d Qn) (tw_A d))
    (kr : ∀ (v : Option Value) (h1 : tw_H), Qn (.inl v) h1 → tw_WH d M hh Q (pc + 3) lv (v.toList ++ rest) h1 c2 n2) (kx : ∀ (E : String) (h1 : tw_H) (q : Nat), Qn (.inr E) h1 → tw_Hd M hh pc E (fun hp => tw_WH d M hh Q hp lv [.ref q] h1 c2 n2)) :
    W p l e R s m args below meth cd H locs cells slots (vx_MQ below (tw_Qc d Q) (tw_XC d Q) args s R.cells R.slots (tw_A d)) (F0 m pc ls st0) := by
  obtain ⟨hx, hb, hml, hr, hown, hts, hlocks, hname, hlt, hno, hRf, hRl, hK, hSt, hbase⟩ := id X
  intro T hT Xs
  rcases hrun T hT Xs with ⟨v, st₀, t, T', L, h0, X', hL, e1, e2, ⟨v', h1, hv, hq, hh1, hF⟩, sg⟩ | ⟨q, st₀, t, T', L, E, ce, h0, X', hL, e1, e2, ⟨h1, hq, hh1, hF⟩, hce, hcv, hcl, sg⟩
  · cases hv
    obtain ⟨k1, k2, k3⟩ := vx_keep h0 e1 hS (fun _ _ z => z) (fun _ z => z) hL hF
    obtain ⟨t2, a1, b1⟩ := kr v h1 hq p l e R s m args below meth cd T'.heap (locs ++ L) ls (cells + mc) (slots + ms) X hl (by rw [e1]; exact hh1) k3 (by omega) (by omega) T' rfl X'
    exact ⟨t2, sg t2 a1, b1⟩
  · obtain ⟨k1, k2, k3⟩ := vx_keep h0 e1 hS (fun _ _ z => z) (fun _ z => z) hL hF
    obtain ⟨pre, x, suf, nm, g1, g2, g3, g4, g5, g6, g7⟩ := kx E h1 q hq
    have hsp : cd.exceptionTable.toList = pre.map tw_en ++ tw_en x :: suf.map tw_en := by
      rw [hno, g1]
      simp only [tableOf, List.map_append, List.map_cons]
      rfl
    have hw : vx_W p l e R s m args below meth cd T'.heap (locs ++ L) (cells + mc) (slots + ms) (vx_MQ below (tw_Qc d Q) (tw_XC d Q) args s R.cells R.slots (tw_A d)) (F0 m pc ls rest) q := by
      refine vx_catch (E := E) (ce := ce) (own := M.1.cls) (name := nm) hown (pre.map tw_en) (tw_en x) (suf.map tw_en) hsp (fun z hz => ?_) g3 g4 (hts _ (List.mem_cons_of_mem _ g5)) (va_Nw.use (tw_ngt g6) (hSt.1 _ g6)) (by rw [e1]; exact hce) hcv hcl ?_
      · obtain ⟨y, hy, rfl⟩ := List.mem_map.mp hz
        obtain ⟨b1, nm2, b2, b3⟩ := g2 y hy
        refine Or.inr ⟨b1, nm2, hts _ (List.mem_cons_of_mem _ b2), ?_⟩
        have z := hSt.xs.2.2.2.2.1
        rcases b3 with ⟨rfl, rfl⟩ | ⟨rfl, rfl⟩ | ⟨rfl, rfl⟩
        · exact z.1
        · exact z.2.1
        · exact z.2.2
      · exact g7 p l e R s m args below meth cd T'.heap (locs ++ L) ls (cells + mc) (slots + ms) X hl (by rw [e1]; exact hh1) k3 (by omega) (by omega)
    obtain ⟨t2, a1, b1⟩ := hw T' rfl X'
    exact ⟨t2, sg.trans a1, b1⟩
theorem tb_callV {N : tw_M} {Qn : tw_O → tw_H → Prop} {ix n9 b ci K mc ms : Nat} {T : u_T} {fs : List Value} (ok : tw_okV N n9) (hd : decode M.2.1 pc = .ok (.invokevirtual ix, 3)) (hw : Cond.methodLink M.1.cls ix N.1 ∈ TW) (hcl : vwCl[ci]? = some (N.1.cls, T, K)) (hb9 : h b = some (.inr (ci, fs))) (As rest : List Value) (hst : st = As.reverse ++ .ref b :: rest) (hn9 : As.length = n9) (hR : N.2.2.2.2.1 + 1 ≤ M.2.2.2.2.1 ∧ 8 + (N.2.2.1 + 11) + N.2.2.2.2.2 ≤ M.2.2.2.2.2) (hW : (rest.map fun v => v.category).sum ≤ 8) (hC : tw_Ct d N mc ms (.ref b :: As) h Qn) (c2 n2 : Nat) (hc2 : c2 + mc ≤ c) (hn2 : n2 + ms ≤ n) : tb_Call d M hh Q Qn pc lv st rest h c n c2 n2 := by
  intro kr kx
  intro p l e R s m args below meth cd H locs ls cells slots X hl hh9 hS hc hn
  obtain ⟨hx, hb, hml, hr, hown, hts, hlocks, hname, hlt, hno, hRf, hRl, hK, hSt, hbase⟩ := id X
  subst hst
  have cw := And.intro (callB_of (rm := { frames := N.2.2.2.2.1, cells := mc, slots := ms, locals := N.2.2.2.2.2 }) (mc := mc) (ms := ms) n9 hts (tw_goodIn ok.1.2.1) rfl rfl rfl (hts _ (List.mem_cons_of_mem _ ok.1.2.2.1)) (hts _ (List.mem_cons_of_mem _ hw)) ok.1.1 ⟨by rw [hRf]; exact hR.1, by rw [hRl]; exact hR.2⟩) (And.intro (hts _ (List.mem_cons_of_mem _ ok.2.1)) (hts _ (List.mem_cons_of_mem _ ok.2.2)))
  have hfx : CallFix p m cd M.2.1 M.2.2.1 s args (tw_wsH M hh) M.1.cls := ⟨hx, hb, hml, hown, hts⟩
  obtain ⟨ws, hP, hD, hw2⟩ := id hh9
  obtain ⟨q0, hq⟩ := hw2 b _ hb9
  have hpv : PreV s H N.1.cls b (tw_Pc d (.ref b :: As) h) As := ⟨tw_blind, va_recv hK hP hcl hq, fun U hU hW9 => ⟨rfl, tb_pre X hh9 hS hU hW9⟩⟩
  exact tb_run X hl hS (by omega) (by omega) (vx_runV hfx (hC l hlt) cw hpv rfl hn9 hl.1 rfl (lv_room hW) hd ⟨by omega, by omega⟩) kr kx
theorem tb_bi {P : Int32 → tw_H → Prop} {Xp : String → tw_H → Prop} {c2 n2 : Nat} {rest : List Value} (hC : tb_Call d M hh Q (tw_qi P Xp) pc lv st rest h c n c2 n2) (kr : ∀ (r : Int32) (h1 : tw_H), P r h1 → tw_WH d M hh Q (pc + 3) lv (.int r :: rest) h1 c2 n2) (kx : ∀ (E : String) (h1 : tw_H) (q : Nat), Xp E h1 → tw_Hd M hh pc E (fun hp => tw_WH d M hh Q hp lv [.ref q] h1 c2 n2)) : tw_WH d M hh Q pc lv st h c n := by
  refine hC (fun v h1 hq => ?_) (fun E h1 q hq => ?_)
  · rcases hq with ⟨r, hv, hp⟩ | ⟨E, hv, -⟩
    · cases hv
      exact kr r h1 hp
    · cases hv
  · rcases hq with ⟨r, hv, -⟩ | ⟨E2, hv, hp⟩
    · cases hv
    · cases hv
      exact kx E h1 q hp
theorem tb_bl {P : Int64 → tw_H → Prop} {Xp : String → tw_H → Prop} {c2 n2 : Nat} {rest : List Value} (hC : tb_Call d M hh Q (tw_ql P Xp) pc lv st rest h c n c2 n2) (kr : ∀ (r : Int64) (h1 : tw_H), P r h1 → tw_WH d M hh Q (pc + 3) lv (.long r :: rest) h1 c2 n2) (kx : ∀ (E : String) (h1 : tw_H) (q : Nat), Xp E h1 → tw_Hd M hh pc E (fun hp => tw_WH d M hh Q hp lv [.ref q] h1 c2 n2)) : tw_WH d M hh Q pc lv st h c n := by
  refine hC (fun v h1 hq => ?_) (fun E h1 q hq => ?_)
  · rcases hq with ⟨r, hv, hp⟩ | ⟨E, hv, -⟩
    · cases hv
      exact kr r h1 hp
    · cases hv
  · rcases hq with ⟨r, hv, -⟩ | ⟨E2, hv, hp⟩
    · cases hv
    · cases hv
      exact kx E h1 q hp
theorem tb_br {P : Nat → tw_H → Prop} {Xp : String → tw_H → Prop} {c2 n2 : Nat} {rest : List Value} (hC : tb_Call d M hh Q (tw_qr P Xp) pc lv st rest h c n c2 n2) (kr : ∀ (r : Nat) (h1 : tw_H), P r h1 → tw_WH d M hh Q (pc + 3) lv (.ref r :: rest) h1 c2 n2) (kx : ∀ (E : String) (h1 : tw_H) (q : Nat), Xp E h1 → tw_Hd M hh pc E (fun hp => tw_WH d M hh Q hp lv [.ref q] h1 c2 n2)) : tw_WH d M hh Q pc lv st h c n := by
  refine hC (fun v h1 hq => ?_) (fun E h1 q hq => ?_)
  · rcases hq with ⟨r, hv, hp⟩ | ⟨E, hv, -⟩
    · cases hv
      exact kr r h1 hp
    · cases hv
  · rcases hq with ⟨r, hv, -⟩ | ⟨E2, hv, hp⟩
    · cases hv
    · cases hv
      exact kx E h1 q hp
end
/-- what a call of a static method with handlers asks of its words -/
def tw_okH (N : tw_M) (hh : tw_HH) (n : Nat) : Prop := (N.1.cls ≠ "java/lang/invoke/MethodHandle" ∧ N.1.cls ≠ "java/lang/invoke/VarHandle" ∧ (parseMethodDescriptor N.1.desc).map (fun d => d.parameters.length) = some n) ∧ Cond.codeWith N.1 N.2.1 N.2.2.1 N.2.2.2.1 hh ∈ TW ∧ Cond.initialized N.1.cls ∈ TW ∧ Cond.static N.1 ∈ TW
theorem tw_callSH {d : tw_D} {M : tw_M} {Q : tw_O → tw_H → Prop} {pc : Nat} {lv : List (Nat × Value)} {st : List Value} {h : tw_H} {c n : Nat} {N : tw_M} {hh : tw_HH} {Qn : tw_O → tw_H → Prop} {ix n9 mc ms : Nat} (ok : tw_okH N hh n9) (hd : decode M.2.1 pc = .ok (.invokestatic ix, 3)) (hw : Cond.methodLink M.1.cls ix N.1 ∈ TW) (As rest : List Value) (hst : st = As.reverse ++ rest) (hn9 : As.length = n9) (hR : N.2.2.2.2.1 + 1 ≤ M.2.2.2.2.1 ∧ 8 + (N.2.2.1 + 11) + N.2.2.2.2.2 ≤ M.2.2.2.2.2) (hW : (rest.map fun v => v.category).sum ≤ 8) (hC : tw_CtH d N hh mc ms As h Qn) (c2 n2 : Nat) (hc2 : c2 + mc ≤ c) (hn2 : n2 + ms ≤ n) : tw_Call d M Q Qn 3 pc lv st rest h c n c2 n2 := by
  intro kr kx
  intro p l e R s m args below meth cd H locs ls cells slots X hl hh9 hS hc hn
  obtain ⟨hx, hb, hml, hr, hown, hts, hlocks, hname, hlt, hno, hRf, hRl, hK, hSt, hbase⟩ := id X
  subst hst
  have hgi : GoodIn (tw_ws M) (va_wsS M.1.cls ix N.1 (tw_wsH N hh)) := by
    unfold va_wsS
    refine goodIn_app ?_ (tw_goodIn ok.2.1)
    intro w hw9
    simp only [List.mem_cons, List.not_mem_nil, or_false] at hw9
    rcases hw9 with rfl | rfl | rfl
    · exact ⟨List.mem_cons_of_mem _ hw, good_of_word (TW_good hw)⟩
    · exact ⟨List.mem_cons_of_mem _ ok.2.2.2, good_of_word (TW_good ok.2.2.2)⟩
    · exact ⟨List.mem_cons_of_mem _ ok.2.2.1, good_of_word (TW_good ok.2.2.1)⟩
  have cw := vx_cwSW (R := R) (rm := { frames := N.2.2.2.2.1, cells := mc, slots := ms, locals := N.2.2.2.2.2 }) (mc := mc) (ms := ms) n9 hts hgi rfl rfl rfl ok.1 ⟨by rw [hRf]; exact hR.1, by rw [hRl]; exact hR.2⟩
  have hfx : CallFix p m cd M.2.1 M.2.2.1 s args (tw_ws M) M.1.cls := ⟨hx, hb, hml, hown, hts⟩
  have hpv : PreS s H (tw_Pc d As h) As := ⟨tw_blind, fun U hU hW9 => ⟨rfl, tw_pre X hh9 hS hU hW9⟩⟩
  exact tw_run X hl hS (by omega) (by omega) (vx_runSX hfx (hC l hlt) cw hpv rfl hn9 hl.1 rfl (lv_room hW) hd ⟨by omega, by omega⟩) kr kx

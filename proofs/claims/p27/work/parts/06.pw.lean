/-! THE JUDGEMENT. A method of the tables: name, code, locals, answer's type; how many frames and how much locals' room it needs. Its world: what lies at the addresses from d.2 100 on (a function); everything below stays. -/
/-- the class of int[][], as va_AO tells of a class of things -/
theorem tw_AOA_spec {args : Array Value} {first s : State} {o : Option Outcome} {idx : List Nat} {t : FieldType} (h : (Cond.arrayOver (.array t)).holds args first o s idx = true) :
    ∃ comp c k, s.vm.findClass (FieldType.array t).toString = some comp ∧ (s.vm.classes.findIdx? fun x => match x.kind with | .array component _ => component == comp | _ => false) = some c ∧ s.vm.classes[c]? = some k ∧ k.kind = .array comp (.array t) ∧ s.vm.findClass ("[" ++ (FieldType.array t).toString) = some c := by
  simp only [Cond.holds, Cond.value, beq_iff_eq] at h
  cases hc : s.vm.findClass (FieldType.array t).toString with
  | none => simp [hc] at h
  | some comp =>
    simp only [hc, Option.bind_some, Option.bind_eq_some_iff, Option.map_eq_some_iff] at h
    obtain ⟨c, hi, k, hk, hb⟩ := h
    obtain ⟨hlt, hp, -⟩ := Array.findIdx?_eq_some_iff_getElem.mp hi
    have hkk : s.vm.classes[c] = k := (Array.getElem?_eq_some_iff.mp hk).2
    rw [hkk] at hp
    cases hkind : k.kind with
    | array component ty =>
      rw [hkind] at hb hp
      simp at hb hp
      exact ⟨comp, c, k, rfl, hi, hk, by rw [hkind, hp, hb.1], hb.2⟩
    | _ => rw [hkind] at hb; simp at hb
theorem va_AOA.moved {t : FieldType} {u U : State} (hvm : u.vm.Alike U.vm) (h : va_AOA t u) : va_AOA t U := by
  obtain ⟨comp, c, k, h1, h2, h3, h4, h5⟩ := tw_AOA_spec h
  obtain ⟨k', hk', he⟩ := hvm.2.2 _ _ h3
  have hi : (U.vm.classes.findIdx? fun (x : Class) => match x.kind with | .array component _ => component == comp | _ => false) = some c := by
    have e1 := va_idx_bare U.vm comp
    have e2 := va_idx_bare u.vm comp
    have e3 : U.vm.bare = u.vm.bare := by first | exact hvm.bare_eq | exact hvm.bare_eq.symm
    rw [e3] at e1
    exact e1.symm.trans (e2.trans h2)
  have hkind : k'.kind = .array comp (.array t) := by rw [he]; exact h4
  have f1 : U.vm.findClass (FieldType.array t).toString = some comp := by rw [hvm.findClass]; exact h1
  have f2 : U.vm.findClass ("[" ++ (FieldType.array t).toString) = some c := by rw [hvm.findClass]; exact h5
  unfold va_AOA Cond.before Cond.holds
  simp only [Cond.value]
  rw [f1, Option.bind_some]
  erw [hi]
  simp [hk', hkind, f2]
abbrev tw_M : Type := MethodName × ByteArray × Nat × Option FieldType × Nat × Nat
abbrev tw_H : Type := Nat → Option va_E
abbrev tw_D : Type := va_G × (Nat → Nat)
/-- how a method ends: with an answer, or with a throw of that class -/
abbrev tw_O : Type := Option Value ⊕ String
def tw_A (d : tw_D) : Nat → Prop := fun q => d.2 100 ≤ q
/-- the kinds of arrays, their classes' numbers by d.2 -/
def tw_tys (d : tw_D) : List (ClassId × FieldType) := [(d.2 0, .int), (d.2 1, .long), (d.2 2, .boolean), (d.2 3, .byte), (d.2 4, .object "Twocoin$Country"), (d.2 5, .object "Twocoin$House"), (d.2 6, .object "Twocoin$Debt"), (d.2 7, .object "java/lang/Object"), (d.2 8, .array .int)]
/-- the String constants: whose, which entry, the text; the i-th lies at d.2 (200 + i) -/
def tw_strs : List (String × Nat × String) := [("Twocoin", 399, "a number is out of its range"), ("Twocoin", 62, "no room for another country"), ("Twocoin", 391, "no such country"), ("Twocoin", 402, "no such metal"), ("Twocoin", 404, "both are the same"), ("Twocoin", 115, "the vault would have too much"), ("Twocoin", 117, "the vault has less"), ("Twocoin", 122, "no room for another house"), ("Twocoin", 393, "no such house"), ("Twocoin", 138, "on the road, or has less"), ("Twocoin", 147, "the mint cannot"), ("Twocoin", 149, "on the road, or there already"), ("Twocoin", 171, "that is behind the last day"), ("Twocoin", 191, "no room for another debt"), ("Twocoin", 395, "no such debt"), ("Twocoin", 211, "paid, or one of both is on the road"), ("Twocoin", 219, "the debtor has less"), ("Twocoin", 227, "no such kind"), ("Twocoin", 241, "the till cannot give that"), ("TwocoinModel", 226, ""), ("TwocoinModel", 238, "*")]
def tw_hasNext : MethodName := ⟨"java/util/Iterator", "hasNext", "()Z"⟩
def tw_next : MethodName := ⟨"java/util/Iterator", "next", "()Ljava/lang/Object;"⟩
def tw_pounds : Nat → Value := fun j => .int (if j = 0 then 20 else if j = 1 then 10 else if j = 2 then 5 else if j = 3 then 2 else 1)
theorem va_Nw.priv {x : MethodName} {u U : State} (hv : u.vm.Alike U.vm) (h : va_Nw (.privateMethod x) u) : va_Nw (.privateMethod x) U := by
  have h1 : (Cond.privateMethod x).before #[] (u.setVm U.vm) = true := (Cond.privateMethod_setVm hv x).trans h
  exact va_tabs (u := u.setVm U.vm) rfl rfl h1
def tw_PM : List MethodName := [⟨"java/lang/AbstractStringBuilder", "ensureCapacityInternal", "(I)V"⟩, ⟨"java/lang/AbstractStringBuilder", "putStringAt", "(ILjava/lang/String;)V"⟩, ⟨"java/lang/AbstractStringBuilder", "inflateIfNeededFor", "(Ljava/lang/String;)V"⟩]
/-- the digits' tables, what two String constants are made of, private methods, what is no subclass of what, the script -/
def tw_Xs (d : tw_D) (U : State) (H : Heap) : Prop :=
  (va_Z "java/lang/Integer" "DigitOnes" "[B" (.ref (d.2 103)) (tw_A d) U H ∧ va_T .byte (d.2 103) 100 (fun j => .int (nI (48 + j % 10))) (tw_A d) U H) ∧
  (va_Z "java/lang/Integer" "DigitTens" "[B" (.ref (d.2 104)) (tw_A d) U H ∧ va_T .byte (d.2 104) 100 (fun j => .int (nI (48 + j / 10))) (tw_A d) U H) ∧
  vk_S 2 [0, 1] [[], [42]] (fun i => d.2 (219 + i)) (fun i => d.2 (105 + i)) (tw_A d) U H ∧
  (∀ x ∈ tw_PM, va_Nw (.privateMethod x) U) ∧
  (va_Nc "java/lang/IllegalArgumentException" "java/lang/IndexOutOfBoundsException" U ∧ va_Nc "java/lang/IllegalStateException" "java/lang/IndexOutOfBoundsException" U ∧ va_Nc "java/lang/IllegalStateException" "java/lang/IllegalArgumentException" U) ∧
  va_T .int (d.2 98) (d.2 97) (fun j => .int (Int32.ofNat (d.2 (1000 + j)))) (tw_A d) U H
theorem tw_Xs.go {d : tw_D} {u U : State} {H H1 : Heap} (hv : u.vm.Alike U.vm) (h : tw_Xs d u H) (hq : ∀ a : Nat, a < H.size → ¬ tw_A d a → H1[a]? = H[a]?) : tw_Xs d U H1 :=
  ⟨⟨va_Z.moved hv (h.1.1.kept hq), va_T.moved hv (h.1.2.kept hq)⟩, ⟨va_Z.moved hv (h.2.1.1.kept hq), va_T.moved hv (h.2.1.2.kept hq)⟩, vk_S.moved hv (h.2.2.1.kept hq), fun x hx => va_Nw.priv hv (h.2.2.2.1 x hx),
    ⟨va_Nc.moved hv h.2.2.2.2.1.1, va_Nc.moved hv h.2.2.2.2.1.2.1, va_Nc.moved hv h.2.2.2.2.1.2.2⟩, va_T.moved hv (h.2.2.2.2.2.kept hq)⟩
/-- what stays throughout: links of nest mates, casts, constants, statics -/
def tw_St (d : tw_D) (U : State) (H : Heap) : Prop :=
  (∀ w ∈ tw_NG, va_Nw w U) ∧ (∀ (i : Nat) (q : String × Nat × String), tw_strs[i]? = some q → vk_R q.1 q.2.1 q.2.2 (d.2 (200 + i)) U) ∧
  vx_Zq Bundle.tN "UNASSIGNED_STACK" Bundle.steD (tw_A d) U H ∧ vx_Zq Bundle.tN "SUPPRESSED_SENTINEL" Bundle.listD (tw_A d) U H ∧
  (va_Z "TwocoinModel" "POUNDS" "[I" (.ref (d.2 101)) (tw_A d) U H ∧ va_T .int (d.2 101) 5 tw_pounds (tw_A d) U H) ∧
  (va_Z "java/util/ArrayList" "DEFAULTCAPACITY_EMPTY_ELEMENTDATA" "[Ljava/lang/Object;" (.ref (d.2 102)) (tw_A d) U H ∧ va_T (.object "java/lang/Object") (d.2 102) 0 (fun _ => .null) (tw_A d) U H) ∧
  (va_Z "java/lang/String" "COMPACT_STRINGS" "Z" (.int 1) (tw_A d) U H ∧ va_AOA .int U ∧ tw_Xs d U H) ∧
  (va_AO "Twocoin$Country" U ∧ va_AO "Twocoin$House" U ∧ va_AO "Twocoin$Debt" U ∧ va_AO "java/lang/Object" U) ∧
  va_Fw RJx35411 tw_hasNext ⟨RJx35411, "hasNext", "()Z"⟩ U ∧ va_Fw RJx35411 tw_next ⟨RJx35411, "next", "()Ljava/lang/Object;"⟩ U
theorem tw_ngw {w : Cond} (h : tw_ng w = true) {s U : State} (hW : s.WarmedH U.vm) (hz : va_Nw w s) : va_Nw w U := by
  cases w <;> first | (simp [tw_ng] at h; done) | exact va_Nw.warmF hW hz | exact va_Nw.warmM hW hz | exact va_Nw.warmC hW hz | exact va_Nw.warmD hW hz
theorem tw_St.go {d : tw_D} {s U : State} {H H1 : Heap} (hW : s.WarmedH U.vm) (h : tw_St d s H) (hq : ∀ a : Nat, a < H.size → ¬ tw_A d a → H1[a]? = H[a]?) : tw_St d U H1 := by
  obtain ⟨h1, h2, h3, h4, ⟨h5, h6⟩, ⟨h7, h8⟩, ⟨h9, hM, hXs⟩, ⟨a1, a2, a3, a4⟩, f1, f2⟩ := h
  have hv := hW.alike
  exact ⟨fun w hw => tw_ngw (List.mem_filter.mp hw).2 hW (h1 w hw), fun i q hi => vk_R.warm hW (h2 i q hi), vx_Zq.moved hv (h3.kept hq), vx_Zq.moved hv (h4.kept hq), ⟨va_Z.moved hv (h5.kept hq), va_T.moved hv (h6.kept hq)⟩, ⟨va_Z.moved hv (h7.kept hq), va_T.moved hv (h8.kept hq)⟩, ⟨va_Z.moved hv (h9.kept hq), va_AOA.moved hv hM, tw_Xs.go hv hXs hq⟩,
    ⟨va_AO.moved hv a1, va_AO.moved hv a2, va_AO.moved hv a3, va_AO.moved hv a4⟩, va_Fw.moved (by decide) hv f1, va_Fw.moved (by decide) hv f2⟩
/-- the ghost heap h, of what lies in H -/
def tw_h (d : tw_D) (h : tw_H) (H : Heap) : Prop := ∃ ws : va_W, va_P d.1 vwCl ws H ∧ va_D (tw_A d) ws ∧ ∀ (a : Nat) (e : va_E), h a = some e → ∃ k : Nat, ws[k]? = some (a, e)
def tw_up (h : tw_H) (a : Nat) (e : va_E) : tw_H := fun q => if q = a then some e else h q
theorem tw_up_s {h : tw_H} {a : Nat} {e : va_E} : tw_up h a e a = some e := if_pos rfl
theorem tw_up_n {h : tw_H} {a b : Nat} {e : va_E} (n : b ≠ a) : tw_up h a e b = h b := if_neg n
theorem tw_set {h : tw_H} {a k : Nat} {e e0 : va_E} {ws : va_W} (hw : ∀ (b : Nat) (x : va_E), h b = some x → ∃ k : Nat, ws[k]? = some (b, x)) (hk : ws[k]? = some (a, e0)) : ∀ (b : Nat) (x : va_E), tw_up h a e b = some x → ∃ j : Nat, (ws.set k (a, e))[j]? = some (b, x) := by
  intro b x hb
  have hl := (List.getElem?_eq_some_iff.mp hk).1
  by_cases e1 : b = a
  · subst e1
    rw [tw_up_s] at hb
    cases hb
    exact ⟨k, List.getElem?_set_self hl⟩
  · rw [tw_up_n e1] at hb
    obtain ⟨j, hj⟩ := hw b x hb
    refine ⟨j, ?_⟩
    rw [List.getElem?_set_ne]
    · exact hj
    · intro q
      subst q
      rw [hk] at hj
      cases hj
      exact e1 rfl
theorem tw_add {h : tw_H} {a : Nat} {e : va_E} {ws : va_W} (hw : ∀ (b : Nat) (x : va_E), h b = some x → ∃ k : Nat, ws[k]? = some (b, x)) : ∀ (b : Nat) (x : va_E), tw_up h a e b = some x → ∃ j : Nat, (ws ++ [(a, e)])[j]? = some (b, x) := by
  intro b x hb
  by_cases e1 : b = a
  · subst e1
    rw [tw_up_s] at hb
    cases hb
    exact ⟨ws.length, by simp⟩
  · rw [tw_up_n e1] at hb
    obtain ⟨j, hj⟩ := hw b x hb
    exact ⟨j, by rw [List.getElem?_append_left (List.getElem?_eq_some_iff.mp hj).1]; exact hj⟩
theorem tw_fresh {d : tw_D} {h : tw_H} {a : Nat} {e : va_E} {ws : va_W} (hw : ∀ (b : Nat) (x : va_E), h b = some x → ∃ k : Nat, ws[k]? = some (b, x)) (hD : va_D (tw_A d) (ws ++ [(a, e)])) : h a = none := by
  cases hh : h a with
  | none => rfl
  | some x =>
    obtain ⟨k, hk⟩ := hw a x hh
    have hl := (List.getElem?_eq_some_iff.mp hk).1
    have h1 : (ws ++ [(a, e)])[k]? = some (a, x) := by rw [List.getElem?_append_left hl]; exact hk
    have h2 : (ws ++ [(a, e)])[ws.length]? = some (a, e) := by simp
    have := hD.1 _ _ _ _ h1 h2 rfl
    omega
/-- a part of a world is a world -/
theorem tw_h.weak {d : tw_D} {h h' : tw_H} {H : Heap} (hh : tw_h d h H) (hs : ∀ a e, h' a = some e → h a = some e) : tw_h d h' H := by
  obtain ⟨ws, h1, h2, h3⟩ := hh
  exact ⟨ws, h1, h2, fun a e q => h3 a e (hs a e q)⟩
def tw_T (d : tw_D) (h : tw_H) (U : State) (H : Heap) : Prop := tw_h d h H ∧ va_K d.1 vwCl (tw_tys d) U ∧ tw_St d U H
def tw_Qc (d : tw_D) (Q : tw_O → tw_H → Prop) : Array Value → State → Outcome → State → Prop := fun _ st o t => ∃ (v : Option Value) (h1 : tw_H), o = .returned v ∧ Q (.inl v) h1 ∧ tw_h d h1 t.heap ∧ va_F (tw_A d) st t
def tw_XC (d : tw_D) (Q : tw_O → tw_H → Prop) : String → State → State → Prop := fun E st t => ∃ h1 : tw_H, Q (.inr E) h1 ∧ tw_h d h1 t.heap ∧ va_F (tw_A d) st t
abbrev tw_ws (M : tw_M) : List Cond := Cond.code M.1 M.2.1 M.2.2.1 M.2.2.2.1 :: TW
abbrev tw_Pc (d : tw_D) (av : List Value) (h : tw_H) : Array Value → State → Prop := va_Pc av (fun U => d.2 100 ≤ U.heap.size ∧ tw_T d h U U.heap)
/-- the contract of M: at these arguments, over this world, with mc cells and ms slots at most -/
def tw_Ct (d : tw_D) (M : tw_M) (mc ms : Nat) (av : List Value) (h : tw_H) (Q : tw_O → tw_H → Prop) : Prop :=
  ∀ l : Launch, l.stackTraces = false → vx_Met l M.1 (tw_ws M) ({ frames := M.2.2.2.2.1, cells := mc, slots := ms, locals := M.2.2.2.2.2 }) (tw_Pc d av h) (tw_Qc d Q) (tw_XC d Q) mc ms (tw_A d)
def tw_X (d : tw_D) (M : tw_M) (p : Program) (l : Launch) (R : Room) (s : State) (m : MethodId) (args : Array Value) (meth : Method) (c : Code) : Prop :=
  p.tables.exec = Jvm.exec ∧ c.code = M.2.1 ∧ c.maxLocals = M.2.2.1 ∧ meth.sig.returnType = M.2.2.2.1 ∧ s.vm.findClass M.1.cls = some m.cls ∧ (∀ w ∈ tw_ws M, w.before args s = true) ∧ meth.locks = false ∧ meth.name = M.1.name ∧
  l.stackTraces = false ∧ (∀ x ∈ c.exceptionTable.toList, False) ∧ R.frames = M.2.2.2.2.1 ∧ R.locals = M.2.2.2.2.2 ∧ va_K d.1 vwCl (tw_tys d) s ∧ tw_St d s s.heap ∧ d.2 100 ≤ s.heap.size
/-- from here (pc, locals, operand stack, world; c cells and n slots are left to make) the method comes to an end with Q -/
def tw_W (d : tw_D) (M : tw_M) (Q : tw_O → tw_H → Prop) (pc : Nat) (lv : List (Nat × Value)) (st : List Value) (h : tw_H) (c n : Nat) : Prop :=
  ∀ (p : Program) (l : Launch) (e : Env) (R : Room) (s : State) (m : MethodId) (args : Array Value) (below : List Frame) (meth : Method) (cd : Code) (H : Heap) (locs : List Loc) (ls : Array Slot) (cells slots : Nat),
    tw_X d M p l R s m args meth cd → lv_has ls M.2.2.1 lv → tw_h d h H → va_S (tw_A d) s.heap H locs → cells + c ≤ R.cells → slots + n ≤ R.slots →
    W p l e R s m args below meth cd H locs cells slots (vx_MQ below (tw_Qc d Q) (tw_XC d Q) args s R.cells R.slots (tw_A d)) (F0 m pc ls st)
theorem tw_blind {d : tw_D} {av : List Value} {h : tw_H} : FrameBlind (tw_Pc d av h) := by
  intro a U g mk q
  obtain ⟨h0, h1, h2, h3, h4⟩ := q
  exact ⟨h0, h1, h2, va_K.moved (u := U) (U := U.calling g mk a) (Vm.Alike.refl U.vm) h3, tw_St.go (s := U) (U := U.calling g mk a) (State.WarmedH.refl U) h4 (fun _ _ _ => rfl)⟩
theorem tw_of {d : tw_D} {M : tw_M} {mc ms : Nat} {av : List Value} {h : tw_H} {Q : tw_O → tw_H → Prop} (hy : plainName M.1.cls = true) (hn : (lg_sl av).length ≤ M.2.2.1) (k : tw_W d M Q 0 (lv_args 0 av) [] h mc ms) : tw_Ct d M mc ms av h Q := by
  intro l hl
  refine vx_ofW (cc := M.2.1) (maxL := M.2.2.1) (ret := M.2.2.2.1) hy rfl ?_
  intro p e s m args below meth c s₁ B hml hno hv
  obtain ⟨rfl, hb, hh, hK, hSt⟩ := hv
  have hin : meth.name = M.1.name := (name_of_methodNamed B.named B.method).1
  rw [lg_entry_eq]
  exact k p l e _ s m _ below meth c s.heap [] _ 0 0 ⟨B.exec, B.bytes, hml, B.returns, findClass_of_methodNamed B.named, atoms_spec (ws := tw_ws M) B.pre, B.notSynchronized, hin, hl, hno, rfl, rfl, hK, hSt, hb⟩ (lv_entry av hn) hh va_S.rf (by simp [headSpec]) (by simp [headSpec])

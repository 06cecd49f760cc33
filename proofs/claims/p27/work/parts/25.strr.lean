/-! strings: shifts by the coder, bytes, String constants, super calls, private methods of a super class, copies of bytes -/
theorem tw_St.xs {d : tw_D} {U : State} {H : Heap} (h : tw_St d U H) : tw_Xs d U H := h.2.2.2.2.2.2.1.2.2
/-- bytes -/
def tw_fb (f : Nat → Int32) : Prop := ∀ j, fits .byte (.int (f j)) = true
theorem tw_fb0 : tw_fb (fun _ => 0) := fun _ => (by decide : fits .byte (.int 0) = true)
theorem tw_nb (x : Int32) : fits .byte (.int (vp_nar .byte x)) = true := pk_fb x
theorem tw_fb_up {f : Nat → Int32} (hf : tw_fb f) (k : Nat) (x : Int32) : tw_fb (upd f k (vp_nar .byte x)) := by
  intro j
  unfold upd
  split
  · exact tw_nb x
  · exact hf j
theorem tw_fb_cp {f g : Nat → Int32} (hf : tw_fb f) (hg : tw_fb g) (a b n : Nat) : tw_fb (va_cpy f g a b n) := by
  intro j
  unfold va_cpy
  split
  · exact hf _
  · exact hg j
theorem tw_fb42 (i : Nat) (hi : i < 2) : tw_fb (fun j => (([[], [42]] : List (List Int32)).getD i []).getD j 0) := by
  intro j
  match i, hi with
  | 0, _ => exact (by decide : fits .byte (.int 0) = true)
  | 1, _ =>
    match j with
    | 0 => exact (by decide : fits .byte (.int 42) = true)
    | k + 1 => exact (by decide : fits .byte (.int 0) = true)
/-- a StringBuilder x of k letters over the bytes v; what else there is stays -/
def tw_sbw (d : tw_D) (h : tw_H) (x v k : Nat) (h1 : tw_H) : Prop := h1 x = some (.inr (1, [.ref v, .int 0, .int 0, .int (nI k)])) ∧ (∃ f : Nat → Int32, h1 v = some (.inl (d.2 3, 16, .inl f)) ∧ tw_fb f) ∧ ∀ q, q ≠ x → q ≠ v → h1 q = h q
theorem tw_sel {s : State} {args : Array Value} {C : String} {x0 y0 y : MethodName} (h9 : (Cond.selects C x0 y0).before args s = true) (e : y0.cls = y.cls) (hp : va_Nw (.privateMethod y) s) (hi : (Cond.instanceMethod y).before args s = true) (hn : y.cls ≠ "java/lang/invoke/MethodHandle" ∧ y.cls ≠ "java/lang/invoke/VarHandle") : (Cond.selects C y y).before args s = true := by
  obtain ⟨mk, methM, hnamed, hmethM, -, -⟩ := Cond.instanceMethod_spec hi
  have hfound : s.methodFound? y.cls y.name y.desc = some mk := State.methodFound?_of_named hnamed hn
  have hpriv := Cond.privateMethod_at (args := #[]) hp
  obtain ⟨c2, r2, m2, q1, q2, q3, q4, kP, hkP, hkPi⟩ := Cond.selects_spec h9
  have hc : m2.cls = mk.cls := by
    have a1 := findClass_of_methodNamed q3
    have a2 := findClass_of_methodNamed hnamed
    rw [e] at a1
    exact Option.some.inj (a1.symm.trans a2)
  have hsel : selectMethod {} s.vm c2 mk = .method mk := selectMethod_private hmethM (hpriv mk methM hnamed hmethM)
  rw [hc] at hkP
  simp only [Cond.before, Cond.holds, Cond.value, q1, hfound, hnamed, hsel, hkP]
  simp [hkPi]
section
variable {d : tw_D} {M : tw_M} {Q : tw_O → tw_H → Prop} {pc : Nat} {lv : List (Nat × Value)} {st : List Value} {h : tw_H} {c n : Nat}
theorem tw_ishl0 {x : Int32} (hd : decode M.2.1 pc = .ok (.ishl, 1)) (k : tw_W d M Q (pc + 1) lv (.int x :: st) h c n) : tw_W d M Q pc lv (.int 0 :: .int x :: st) h c n := by
  intro p l e R s m args below meth cd H locs ls cells slots X hl hh hS hc hn
  have e0 : x <<< ((0 : Int32) &&& 31) = x := by
    show x <<< (0 : Int32) = x
    exact Int32.shiftLeft_zero
  exact lv_ishl X.1 X.2.1 hd (by rw [e0]; exact k p l e R s m args below meth cd H locs ls cells slots X hl hh hS hc hn)
theorem tw_ishr0 {x : Int32} (hd : decode M.2.1 pc = .ok (.ishr, 1)) (k : tw_W d M Q (pc + 1) lv (.int x :: st) h c n) : tw_W d M Q pc lv (.int 0 :: .int x :: st) h c n := by
  intro p l e R s m args below meth cd H locs ls cells slots X hl hh hS hc hn
  have e0 : x >>> ((0 : Int32) &&& 31) = x := by
    show x >>> (0 : Int32) = x
    exact Int32.shiftRight_zero
  exact lv_ishr X.1 X.2.1 hd (by rw [e0]; exact k p l e R s m args below meth cd H locs ls cells slots X hl hh hS hc hn)
theorem tw_i2b {x v : Int32} (hd : decode M.2.1 pc = .ok (.i2b, 1)) (hv : x.toInt8.toInt32 = v) (k : tw_W d M Q (pc + 1) lv (.int v :: st) h c n) : tw_W d M Q pc lv (.int x :: st) h c n := by
  intro p l e R s m args below meth cd H locs ls cells slots X hl hh hS hc hn
  exact lv_i2b X.1 X.2.1 hd hv (k p l e R s m args below meth cd H locs ls cells slots X hl hh hS hc hn)
theorem tw_tb {t N : Nat} {f : Nat → Value} {i : Int32} {v : Value} (hT : ∀ (s : State) (H : Heap), tw_St d s H → va_T .byte t N f (tw_A d) s H) (hd : decode M.2.1 pc = .ok (.baload, 1)) (hi : vp_in i N) (hv : f i.toNatClampNeg = v) (kk : tw_W d M Q (pc + 1) lv (v :: st) h c n) : tw_W d M Q pc lv (.int i :: .ref t :: st) h c n := by
  intro p l e R s m args below meth cd H locs ls cells slots X hl hh hS hc hn
  obtain ⟨hx, hb, hml, hr, hown, hts, hlocks, hname, hlt, hno, hRf, hRl, hK, hSt, hbase⟩ := id X
  exact va_tb hx hb (hT s _ hSt) hS hi hv hd (kk p l e R s m args below meth cd H locs ls cells slots X hl hh hS hc hn)
theorem tw_bret {v : Int32} (hd : decode M.2.1 pc = .ok (.ireturn, 1)) (hy : M.2.2.2.1 = some .byte) (hv : narrow .byte (.int v) = .int v) (hq : Q (.inl (some (.int v))) h) : tw_W d M Q pc lv [.int v] h c n := by
  intro p l e R s m args below meth cd H locs ls cells slots X hl hh hS hc hn
  obtain ⟨hx, hb, hml, hr, hown, hts, hlocks, hname, hlt, hno, hRf, hRl, hK, hSt, hbase⟩ := id X
  refine vx_ret (W.widen (k := R.cells) (n := R.slots) (by omega) (by omega) ?_)
  exact W.zret (v := v) hx hb (by rw [hr, hy]) hv (fun t ht hW => ⟨_, h, rfl, hq, by rw [ht]; exact hh, hS.F ht⟩) hS.2.2 hd hlocks
/-- a field of a String constant -/
theorem tw_getK {o fn fd : String} {ix q : Nat} {v : Value} (hE : ∀ (s : State) (H : Heap), tw_St d s H → va_OF o fn fd v q (tw_A d) s H) (hd : decode M.2.1 pc = .ok (.getfield ix, 3)) (hw : Cond.fieldLink M.1.cls ix o fn fd ∈ TW) (kk : tw_W d M Q (pc + 3) lv (v :: st) h c n) : tw_W d M Q pc lv (.ref q :: st) h c n := by
  intro p l e R s m args below meth cd H locs ls cells slots X hl hh hS hc hn
  obtain ⟨hx, hb, hml, hr, hown, hts, hlocks, hname, hlt, hno, hRf, hRl, hK, hSt, hbase⟩ := id X
  exact vk_getf hx hb (hE s _ hSt) hS hown (hts _ (List.mem_cons_of_mem _ hw)) (fun x z => z) hd (kk p l e R s m args below meth cd H locs ls cells slots X hl hh hS hc hn)
/-- a call on a String constant -/
theorem tw_callK {N : tw_M} {Qn : tw_O → tw_H → Prop} {ix n9 i mc ms : Nat} (ok : tw_okV N n9) (hC9 : N.1.cls = "java/lang/String") (hi : i < 2) (hd : decode M.2.1 pc = .ok (.invokevirtual ix, 3)) (hw : Cond.methodLink M.1.cls ix N.1 ∈ TW) (As rest : List Value) (hst : st = As.reverse ++ .ref (d.2 (219 + i)) :: rest) (hn9 : As.length = n9) (hR : N.2.2.2.2.1 + 1 ≤ M.2.2.2.2.1 ∧ 8 + (N.2.2.1 + 11) + N.2.2.2.2.2 ≤ M.2.2.2.2.2) (hW : (rest.map fun v => v.category).sum ≤ 8) (hC : tw_Ct d N mc ms (.ref (d.2 (219 + i)) :: As) h Qn) (c2 n2 : Nat) (hc2 : c2 + mc ≤ c) (hn2 : n2 + ms ≤ n) : tw_Call d M Q Qn 3 pc lv st rest h c n c2 n2 := by
  intro kr kx
  intro p l e R s m args below meth cd H locs ls cells slots X hl hh hS hc hn
  obtain ⟨hx, hb, hml, hr, hown, hts, hlocks, hname, hlt, hno, hRf, hRl, hK, hSt, hbase⟩ := id X
  subst hst
  have cw := And.intro (callB_of (rm := { frames := N.2.2.2.2.1, cells := mc, slots := ms, locals := N.2.2.2.2.2 }) (mc := mc) (ms := ms) n9 hts (tw_goodIn ok.1.2.1) rfl rfl rfl (hts _ (List.mem_cons_of_mem _ ok.1.2.2.1)) (hts _ (List.mem_cons_of_mem _ hw)) ok.1.1 ⟨by rw [hRf]; exact hR.1, by rw [hRl]; exact hR.2⟩) (And.intro (hts _ (List.mem_cons_of_mem _ ok.2.1)) (hts _ (List.mem_cons_of_mem _ ok.2.2)))
  have hfx : CallFix p m cd M.2.1 M.2.2.1 s args (tw_ws M) M.1.cls := ⟨hx, hb, hml, hown, hts⟩
  have hpv : PreV s H N.1.cls (d.2 (219 + i)) (tw_Pc d (.ref (d.2 (219 + i)) :: As) h) As := ⟨tw_blind, by rw [hC9]; exact vk_recv (i := i) hSt.xs.2.2.1 hi hS, fun U hU hW9 => ⟨rfl, tw_pre X hh hS hU hW9⟩⟩
  exact tw_run X hl hS (by omega) (by omega) (vx_runV hfx (hC l hlt) cw hpv rfl hn9 hl.1 rfl (lv_room hW) hd ⟨by omega, by omega⟩) kr kx
/-- a method of the super class, on a thing of the class C -/
theorem tw_callC {C : String} {N : tw_M} {Qn : tw_O → tw_H → Prop} {ix n9 b ci K mc ms : Nat} {T : u_T} {fs : List Value} (ok : tw_ok N n9) (hin : Cond.instanceMethod N.1 ∈ TW) (hsel : ∀ (s : State) (H : Heap) (args : Array Value), tw_St d s H → (∀ w ∈ TW, w.before args s = true) → (Cond.selects C N.1 N.1).before args s = true) (hd : decode M.2.1 pc = .ok (.invokevirtual ix, 3)) (hw : Cond.methodLink M.1.cls ix N.1 ∈ TW) (hcl : vwCl[ci]? = some (C, T, K)) (hb9 : h b = some (.inr (ci, fs))) (As rest : List Value) (hst : st = As.reverse ++ .ref b :: rest) (hn9 : As.length = n9) (hR : N.2.2.2.2.1 + 1 ≤ M.2.2.2.2.1 ∧ 8 + (N.2.2.1 + 11) + N.2.2.2.2.2 ≤ M.2.2.2.2.2) (hW : (rest.map fun v => v.category).sum ≤ 8) (hC : tw_Ct d N mc ms (.ref b :: As) h Qn) (c2 n2 : Nat) (hc2 : c2 + mc ≤ c) (hn2 : n2 + ms ≤ n) : tw_Call d M Q Qn 3 pc lv st rest h c n c2 n2 := by
  intro kr kx
  intro p l e R s m args below meth cd H locs ls cells slots X hl hh hS hc hn
  obtain ⟨hx, hb, hml, hr, hown, hts, hlocks, hname, hlt, hno, hRf, hRl, hK, hSt, hbase⟩ := id X
  subst hst
  have cw := And.intro (callB_of (rm := { frames := N.2.2.2.2.1, cells := mc, slots := ms, locals := N.2.2.2.2.2 }) (mc := mc) (ms := ms) n9 hts (tw_goodIn ok.2.1) rfl rfl rfl (hts _ (List.mem_cons_of_mem _ ok.2.2.1)) (hts _ (List.mem_cons_of_mem _ hw)) ok.1 ⟨by rw [hRf]; exact hR.1, by rw [hRl]; exact hR.2⟩) (And.intro (hts _ (List.mem_cons_of_mem _ hin)) (hsel s _ args hSt fun w hw9 => hts w (List.mem_cons_of_mem _ hw9)))
  have hfx : CallFix p m cd M.2.1 M.2.2.1 s args (tw_ws M) M.1.cls := ⟨hx, hb, hml, hown, hts⟩
  obtain ⟨ws, hP, hD, hw2⟩ := id hh
  obtain ⟨q0, hq⟩ := hw2 b _ hb9
  have hpv : PreV s H C b (tw_Pc d (.ref b :: As) h) As := ⟨tw_blind, va_recv hK hP hcl hq, fun U hU hW9 => ⟨rfl, tw_pre X hh hS hU hW9⟩⟩
  exact tw_run X hl hS (by omega) (by omega) (vx_runV hfx (hC l hlt) cw hpv rfl hn9 hl.1 rfl (lv_room hW) hd ⟨by omega, by omega⟩) kr kx
/-- super.m(..) -/
theorem tw_callSU {N : tw_M} {Qn : tw_O → tw_H → Prop} {ix n9 b ci K mc ms : Nat} {T : u_T} {fs : List Value} (ok : tw_ok N n9) (hin : Cond.instanceMethod N.1 ∈ TW) (hsame : Cond.sameMethod N.1.cls N.1.cls N.1.name N.1.desc ∈ TW) (hsup : Cond.superclass M.1.cls N.1.cls ∈ TW) (hni : N.1.name ≠ "<init>") (hd : decode M.2.1 pc = .ok (.invokespecial ix, 3)) (hw : Cond.methodLink M.1.cls ix N.1 ∈ TW) (hcl : vwCl[ci]? = some (M.1.cls, T, K)) (hb9 : h b = some (.inr (ci, fs))) (As rest : List Value) (hst : st = As.reverse ++ .ref b :: rest) (hn9 : As.length = n9) (hR : N.2.2.2.2.1 + 1 ≤ M.2.2.2.2.1 ∧ 8 + (N.2.2.1 + 11) + N.2.2.2.2.2 ≤ M.2.2.2.2.2) (hW : (rest.map fun v => v.category).sum ≤ 8) (hC : tw_Ct d N mc ms (.ref b :: As) h Qn) (c2 n2 : Nat) (hc2 : c2 + mc ≤ c) (hn2 : n2 + ms ≤ n) : tw_Call d M Q Qn 3 pc lv st rest h c n c2 n2 := by
  intro kr kx
  intro p l e R s m args below meth cd H locs ls cells slots X hl hh hS hc hn
  obtain ⟨hx, hb, hml, hr, hown, hts, hlocks, hname, hlt, hno, hRf, hRl, hK, hSt, hbase⟩ := id X
  subst hst
  have hgi : GoodIn (tw_ws M) (va_wsSU M.1.cls ix N.1 (tw_ws N)) := by
    unfold va_wsSU
    refine goodIn_app ?_ (tw_goodIn ok.2.1)
    intro w hw9
    simp only [List.mem_cons, List.not_mem_nil, or_false] at hw9
    rcases hw9 with rfl | rfl | rfl | rfl | rfl
    · exact ⟨List.mem_cons_of_mem _ hw, good_of_word (TW_good hw)⟩
    · exact ⟨List.mem_cons_of_mem _ hsame, good_of_word (TW_good hsame)⟩
    · exact ⟨List.mem_cons_of_mem _ hsup, good_of_word (TW_good hsup)⟩
    · exact ⟨List.mem_cons_of_mem _ hin, good_of_word (TW_good hin)⟩
    · exact ⟨List.mem_cons_of_mem _ ok.2.2.1, good_of_word (TW_good ok.2.2.1)⟩
  have cw := va_cwSU (R := R) (rm := { frames := N.2.2.2.2.1, cells := mc, slots := ms, locals := N.2.2.2.2.2 }) (mc := mc) (ms := ms) n9 hts hgi rfl rfl rfl ⟨hni, ok.1.2.2⟩ ⟨by rw [hRf]; exact hR.1, by rw [hRl]; exact hR.2⟩
  have hfx : CallFix p m cd M.2.1 M.2.2.1 s args (tw_ws M) M.1.cls := ⟨hx, hb, hml, hown, hts⟩
  obtain ⟨ws, hP, hD, hw2⟩ := id hh
  obtain ⟨q0, hq⟩ := hw2 b _ hb9
  have hpv : PreV s H M.1.cls b (tw_Pc d (.ref b :: As) h) As := ⟨tw_blind, va_recv hK hP hcl hq, fun U hU hW9 => ⟨rfl, tw_pre X hh hS hU hW9⟩⟩
  have hat : ClassAt s M.1.cls (d.1.1 ci) := (hK.1 ci _ hcl).2
  exact tw_run X hl hS (by omega) (by omega) (vx_runSU hat hfx (hC l hlt) cw hpv rfl hn9 hl.1 rfl (lv_room hW) hd ⟨by omega, by omega⟩) kr kx
/-- an overriding method, called by the name of the overridden one -/
theorem tw_callO {C owner : String} {N : tw_M} {Qn : tw_O → tw_H → Prop} {ix n9 b ci K mc ms : Nat} {T : u_T} {fs : List Value} (x9 : MethodName) (ok : tw_ok N n9) (hin : Cond.instanceMethod N.1 ∈ TW) (hin0 : Cond.instanceMethod ⟨owner, x9.name, x9.desc⟩ ∈ TW) (hsame : Cond.sameMethod x9.cls owner x9.name x9.desc ∈ TW) (hsel : Cond.selects C x9 N.1 ∈ TW) {b0 : ByteArray} {m0 : Nat} {r0 : Option FieldType} (h0 : Cond.code ⟨owner, x9.name, x9.desc⟩ b0 m0 r0 ∈ TW)
    (hx9 : owner ≠ "java/lang/invoke/MethodHandle" ∧ owner ≠ "java/lang/invoke/VarHandle" ∧ (parseMethodDescriptor x9.desc).map (fun d => d.parameters.length) = some n9) (hd : decode M.2.1 pc = .ok (.invokevirtual ix, 3)) (hw : Cond.methodLink M.1.cls ix x9 ∈ TW) (hcl : vwCl[ci]? = some (C, T, K)) (hb9 : h b = some (.inr (ci, fs))) (As rest : List Value) (hst : st = As.reverse ++ .ref b :: rest) (hn9 : As.length = n9) (hR : N.2.2.2.2.1 + 1 ≤ M.2.2.2.2.1 ∧ 8 + (N.2.2.1 + 11) + N.2.2.2.2.2 ≤ M.2.2.2.2.2) (hW : (rest.map fun v => v.category).sum ≤ 8) (hC : tw_Ct d N mc ms (.ref b :: As) h Qn) (c2 n2 : Nat) (hc2 : c2 + mc ≤ c) (hn2 : n2 + ms ≤ n) : tw_Call d M Q Qn 3 pc lv st rest h c n c2 n2 := by
  intro kr kx
  intro p l e R s m args below meth cd H locs ls cells slots X hl hh hS hc hn
  obtain ⟨hx, hb, hml, hr, hown, hts, hlocks, hname, hlt, hno, hRf, hRl, hK, hSt, hbase⟩ := id X
  subst hst
  have hgi : GoodIn (tw_ws M) (va_wsO M.1.cls ix C owner x9 N.1 (tw_ws N)) := by
    unfold va_wsO
    refine goodIn_app ?_ (tw_goodIn ok.2.1)
    intro w hw9
    simp only [List.mem_cons, List.not_mem_nil, or_false] at hw9
    rcases hw9 with rfl | rfl | rfl | rfl | rfl | rfl
    · exact ⟨List.mem_cons_of_mem _ hw, good_of_word (TW_good hw)⟩
    · exact ⟨List.mem_cons_of_mem _ hsame, good_of_word (TW_good hsame)⟩
    · exact ⟨List.mem_cons_of_mem _ hin0, good_of_word (TW_good hin0)⟩
    · exact ⟨List.mem_cons_of_mem _ hsel, good_of_word (TW_good hsel)⟩
    · exact ⟨List.mem_cons_of_mem _ hin, good_of_word (TW_good hin)⟩
    · exact ⟨List.mem_cons_of_mem _ ok.2.2.1, good_of_word (TW_good ok.2.2.1)⟩
  have cw := va_cwO (R := R) (rm := { frames := N.2.2.2.2.1, cells := mc, slots := ms, locals := N.2.2.2.2.2 }) (mc := mc) (ms := ms) n9 hts hgi rfl rfl rfl (List.mem_cons_of_mem _ h0) hx9 ⟨by rw [hRf]; exact hR.1, by rw [hRl]; exact hR.2⟩
  have hfx : CallFix p m cd M.2.1 M.2.2.1 s args (tw_ws M) M.1.cls := ⟨hx, hb, hml, hown, hts⟩
  obtain ⟨ws, hP, hD, hw2⟩ := id hh
  obtain ⟨q0, hq⟩ := hw2 b _ hb9
  have hpv : PreV s H C b (tw_Pc d (.ref b :: As) h) As := ⟨tw_blind, va_recv hK hP hcl hq, fun U hU hW9 => ⟨rfl, tw_pre X hh hS hU hW9⟩⟩
  exact tw_run X hl hS (by omega) (by omega) (vx_runU hfx (hC l hlt) cw hpv rfl hn9 hl.1 rfl (lv_room hW) hd ⟨by omega, by omega⟩) kr kx
/-- System.arraycopy, bytes to bytes -/
theorem tw_bcopy {ix a0 a1 n0 n1 : Nat} {f g : Nat → Int32} {sp dp k : Int32} (hd : decode M.2.1 pc = .ok (.invokestatic ix, 3)) (hw : Cond.methodLink M.1.cls ix arraycopyName ∈ TW) (ha0 : h a0 = some (.inl (d.2 3, n0, .inl f))) (ha1 : h a1 = some (.inl (d.2 3, n1, .inl g))) (hf : tw_fb f)
    (h1 : ¬ sp < 0) (h2 : ¬ dp < 0) (h3 : ¬ k < 0) (h4 : sp.toNatClampNeg + k.toNatClampNeg ≤ n0) (h5 : dp.toNatClampNeg + k.toNatClampNeg ≤ n1) (hR : 1 ≤ M.2.2.2.2.1 ∧ (st.map fun v => v.category).sum + 18 ≤ M.2.2.2.2.2)
    (kk : tw_W d M Q (pc + 3) lv st (tw_up h a1 (.inl (d.2 3, n1, .inl (va_cpy f g sp.toNatClampNeg dp.toNatClampNeg k.toNatClampNeg)))) c n) : tw_W d M Q pc lv (.int k :: .int dp :: .ref a1 :: .int sp :: .ref a0 :: st) h c n := by
  intro p l e R s m args below meth cd H locs ls cells slots X hl hh hS hc hn
  obtain ⟨hx, hb, hml, hr, hown, hts, hlocks, hname, hlt, hno, hRf, hRl, hK, hSt, hbase⟩ := id X
  obtain ⟨ws, hP, hD, hw2⟩ := id hh
  obtain ⟨q0, hq0⟩ := hw2 a0 _ ha0
  obtain ⟨q1, hq1⟩ := hw2 a1 _ ha1
  refine va_copyi (D := d.1) (cl := vwCl) hx hb (hml.trans hl.1.symm) hown (hts _ (List.mem_cons_of_mem _ hw)) (hts _ (List.mem_cons_of_mem _ w_895)) (hts _ (List.mem_cons_of_mem _ w_894)) (hts _ (List.mem_cons_of_mem _ w_95)) hK hP hD hS q0 q1 3 3 (ty := .byte) hq0 hq1 rfl rfl rfl h1 h2 h3 h4 h5 (fun i _ => hf _) (by rw [hRf]; exact hR.1) (by rw [hRl]; exact hR.2) hd (fun H1 locs1 hP1 hD1 hS1 => ?_)
  exact kk p l e R s m args below meth cd H1 locs1 ls cells slots X hl ⟨_, hP1, hD1, tw_set hw2 hq1⟩ hS1 hc hn
/-- System.arraycopy, from a table of bytes -/
theorem tw_tcopy {ix t a1 n0 n1 : Nat} {f g : Nat → Int32} {sp dp k : Int32} (hT : ∀ (s : State) (H : Heap), tw_St d s H → va_T .byte t n0 (fun j => .int (f j)) (tw_A d) s H) (hd : decode M.2.1 pc = .ok (.invokestatic ix, 3)) (hw : Cond.methodLink M.1.cls ix arraycopyName ∈ TW) (ha1 : h a1 = some (.inl (d.2 3, n1, .inl g))) (hf : tw_fb f)
    (h1 : ¬ sp < 0) (h2 : ¬ dp < 0) (h3 : ¬ k < 0) (h4 : sp.toNatClampNeg + k.toNatClampNeg ≤ n0) (h5 : dp.toNatClampNeg + k.toNatClampNeg ≤ n1) (hR : 1 ≤ M.2.2.2.2.1 ∧ (st.map fun v => v.category).sum + 18 ≤ M.2.2.2.2.2)
    (kk : tw_W d M Q (pc + 3) lv st (tw_up h a1 (.inl (d.2 3, n1, .inl (va_cpy f g sp.toNatClampNeg dp.toNatClampNeg k.toNatClampNeg)))) c n) : tw_W d M Q pc lv (.int k :: .int dp :: .ref a1 :: .int sp :: .ref t :: st) h c n := by
  intro p l e R s m args below meth cd H locs ls cells slots X hl hh hS hc hn
  obtain ⟨hx, hb, hml, hr, hown, hts, hlocks, hname, hlt, hno, hRf, hRl, hK, hSt, hbase⟩ := id X
  obtain ⟨ws, hP, hD, hw2⟩ := id hh
  obtain ⟨q1, hq1⟩ := hw2 a1 _ ha1
  refine vk_copyt (D := d.1) (cl := vwCl) hx hb (hml.trans hl.1.symm) hown (hts _ (List.mem_cons_of_mem _ hw)) (hts _ (List.mem_cons_of_mem _ w_895)) (hts _ (List.mem_cons_of_mem _ w_894)) (hts _ (List.mem_cons_of_mem _ w_95)) hK hP hD hS (hT s _ hSt) q1 3 hq1 rfl h1 h2 h3 h4 h5 (fun i _ => hf _) (by rw [hRf]; exact hR.1) (by rw [hRl]; exact hR.2) hd (fun H1 locs1 hP1 hD1 hS1 => ?_)
  exact kk p l e R s m args below meth cd H1 locs1 ls cells slots X hl ⟨_, hP1, hD1, tw_set hw2 hq1⟩ hS1 hc hn
end

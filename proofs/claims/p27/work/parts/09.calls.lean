/-! Calls and throws. Printed by wip/p5/mkcalls.py. -/
/-- ways to end: an int, a long, a thing, a thing or null, nothing; or a throw -/
def tw_qi (P : Int32 → tw_H → Prop) (X : String → tw_H → Prop) : tw_O → tw_H → Prop := fun o h1 => (∃ r : Int32, o = .inl (some (.int r)) ∧ P r h1) ∨ ∃ E : String, o = .inr E ∧ X E h1
def tw_ql (P : Int64 → tw_H → Prop) (X : String → tw_H → Prop) : tw_O → tw_H → Prop := fun o h1 => (∃ r : Int64, o = .inl (some (.long r)) ∧ P r h1) ∨ ∃ E : String, o = .inr E ∧ X E h1
def tw_qr (P : Nat → tw_H → Prop) (X : String → tw_H → Prop) : tw_O → tw_H → Prop := fun o h1 => (∃ r : Nat, o = .inl (some (.ref r)) ∧ P r h1) ∨ ∃ E : String, o = .inr E ∧ X E h1
def tw_qq (P : Option Nat → tw_H → Prop) (X : String → tw_H → Prop) : tw_O → tw_H → Prop := fun o h1 => (∃ r : Option Nat, o = .inl (some (va_rf r)) ∧ P r h1) ∨ ∃ E : String, o = .inr E ∧ X E h1
def tw_qv (P : tw_H → Prop) (X : String → tw_H → Prop) : tw_O → tw_H → Prop := fun o h1 => (o = .inl none ∧ P h1) ∨ ∃ E : String, o = .inr E ∧ X E h1
def tw_nx : String → tw_H → Prop := fun _ _ => False
/-- what a call asks of the callee's own words -/
def tw_ok (N : tw_M) (n : Nat) : Prop := (N.1.cls ≠ "java/lang/invoke/MethodHandle" ∧ N.1.cls ≠ "java/lang/invoke/VarHandle" ∧ (parseMethodDescriptor N.1.desc).map (fun d => d.parameters.length) = some n) ∧ Cond.code N.1 N.2.1 N.2.2.1 N.2.2.2.1 ∈ TW ∧ Cond.initialized N.1.cls ∈ TW ∧ plainName N.1.cls = true
def tw_okV (N : tw_M) (n : Nat) : Prop := tw_ok N n ∧ Cond.instanceMethod N.1 ∈ TW ∧ Cond.selects N.1.cls N.1 N.1 ∈ TW
def tw_okS (N : tw_M) (n : Nat) : Prop := tw_ok N n ∧ Cond.static N.1 ∈ TW
def tw_okI (N : tw_M) (n : Nat) : Prop := tw_ok N n ∧ Cond.instanceMethod N.1 ∈ TW ∧ N.1.name = "<init>"
theorem tw_ngt {w : Cond} (h : w ∈ tw_NG) : w.onTables = true := by
  have h := (List.mem_filter.mp h).2
  cases w <;> first | rfl | (simp [tw_ng] at h)
section
variable {d : tw_D} {M : tw_M} {Q : tw_O → tw_H → Prop} {pc : Nat} {lv : List (Nat × Value)} {st : List Value} {h : tw_H} {c n : Nat}
/-- a call, up to what is left behind it -/
def tw_Call (d : tw_D) (M : tw_M) (Q Qn : tw_O → tw_H → Prop) (len pc : Nat) (lv : List (Nat × Value)) (st rest : List Value) (h : tw_H) (c n c2 n2 : Nat) : Prop :=
  (∀ (v : Option Value) (h1 : tw_H), Qn (.inl v) h1 → tw_W d M Q (pc + len) lv (v.toList ++ rest) h1 c2 n2) → (∀ (E : String) (h1 : tw_H), Qn (.inr E) h1 → Q (.inr E) h1) → tw_W d M Q pc lv st h c n
theorem tw_pre {d : tw_D} {M : tw_M} {p : Program} {l : Launch} {R : Room} {s : State} {m : MethodId} {args : Array Value} {meth : Method} {cd : Code} {H : Heap} {locs : List Loc} {h : tw_H} (X : tw_X d M p l R s m args meth cd) (hh : tw_h d h H) (hS : va_S (tw_A d) s.heap H locs) {U : State} (hU : U.heap = H) (hW : s.WarmedH U.vm) : d.2 100 ≤ U.heap.size ∧ tw_T d h U U.heap := by
  obtain ⟨hx, hb, hml, hr, hown, hts, hlocks, hname, hlt, hno, hRf, hRl, hK, hSt, hbase⟩ := X
  exact ⟨by rw [hU]; exact Nat.le_trans hbase hS.1, by rw [hU]; exact hh, va_K.moved hW.alike hK, by rw [hU]; exact tw_St.go hW hSt hS.2.1⟩
theorem tw_run {Q Qn : tw_O → tw_H → Prop} {p : Program} {l : Launch} {e : Env} {R : Room} {s : State} {m : MethodId} {args : Array Value} {below : List Frame} {meth : Method} {cd : Code} {H : Heap} {locs : List Loc} {ls : Array Slot} {cells slots mc ms c2 n2 : Nat} {st0 rest : List Value} {a : Array Value} (X : tw_X d M p l R s m args meth cd) (hl : lv_has ls M.2.2.1 lv) (hS : va_S (tw_A d) s.heap H locs) (hc : cells + mc + c2 ≤ R.cells) (hn : slots + ms + n2 ≤ R.slots)
    (hrun : vx_Run p l e R s m args below meth cd H locs cells slots mc ms (F0 m pc ls st0) rest (tw_Qc d Qn a) (tw_XC d Qn) (tw_A d))
    (kr : ∀ (v : Option Value) (h1 : tw_H), Qn (.inl v) h1 → tw_W d M Q (pc + 3) lv (v.toList ++ rest) h1 c2 n2) (kx : ∀ (E : String) (h1 : tw_H), Qn (.inr E) h1 → Q (.inr E) h1) :
    W p l e R s m args below meth cd H locs cells slots (vx_MQ below (tw_Qc d Q) (tw_XC d Q) args s R.cells R.slots (tw_A d)) (F0 m pc ls st0) := by
  obtain ⟨hx, hb, hml, hr, hown, hts, hlocks, hname, hlt, hno, hRf, hRl, hK, hSt, hbase⟩ := id X
  intro T hT Xs
  rcases hrun T hT Xs with ⟨v, st₀, t, T', L, h0, X', hL, e1, e2, ⟨v', h1, hv, hq, hh, hF⟩, sg⟩ | ⟨q, st₀, t, T', L, E, ce, h0, X', hL, e1, e2, ⟨h1, hq, hh, hF⟩, hce, hcv, hcl, sg⟩
  · cases hv
    obtain ⟨k1, k2, k3⟩ := vx_keep h0 e1 hS (fun _ _ z => z) (fun _ z => z) hL hF
    obtain ⟨t2, a1, b1⟩ := kr v h1 hq p l e R s m args below meth cd T'.heap (locs ++ L) ls (cells + mc) (slots + ms) X hl (by rw [e1]; exact hh) k3 (by omega) (by omega) T' rfl X'
    exact ⟨t2, sg t2 a1, b1⟩
  · obtain ⟨k1, k2, k3⟩ := vx_keep h0 e1 hS (fun _ _ z => z) (fun _ z => z) hL hF
    have hw : vx_W p l e R s m args below meth cd T'.heap (locs ++ L) (cells + mc) (slots + ms) (vx_MQ below (tw_Qc d Q) (tw_XC d Q) args s R.cells R.slots (tw_A d)) (F0 m pc ls rest) q :=
      vx_out (E := E) (ce := ce) (fun x z => (hno x z).elim) hlocks (by rw [e1]; exact hce) hcv hcl (fun t' ht _ => ⟨h1, kx E h1 hq, by rw [ht, e1]; exact hh, k3.F ht⟩) k3.2.2 (by omega) (by omega)
    obtain ⟨t2, a1, b1⟩ := hw T' rfl X'
    exact ⟨t2, sg.trans a1, b1⟩
theorem tw_run5 {Q Qn : tw_O → tw_H → Prop} {p : Program} {l : Launch} {e : Env} {R : Room} {s : State} {m : MethodId} {args : Array Value} {below : List Frame} {meth : Method} {cd : Code} {H : Heap} {locs : List Loc} {ls : Array Slot} {cells slots mc ms c2 n2 : Nat} {st0 rest : List Value} {a : Array Value} (X : tw_X d M p l R s m args meth cd) (hl : lv_has ls M.2.2.1 lv) (hS : va_S (tw_A d) s.heap H locs) (hc : cells + mc + c2 ≤ R.cells) (hn : slots + ms + n2 ≤ R.slots)
    (hrun : vx_Run5 p l e R s m args below meth cd H locs cells slots mc ms (F0 m pc ls st0) rest (tw_Qc d Qn a) (tw_XC d Qn) (tw_A d))
    (kr : ∀ (v : Option Value) (h1 : tw_H), Qn (.inl v) h1 → tw_W d M Q (pc + 5) lv (v.toList ++ rest) h1 c2 n2) (kx : ∀ (E : String) (h1 : tw_H), Qn (.inr E) h1 → Q (.inr E) h1) :
    W p l e R s m args below meth cd H locs cells slots (vx_MQ below (tw_Qc d Q) (tw_XC d Q) args s R.cells R.slots (tw_A d)) (F0 m pc ls st0) := by
  obtain ⟨hx, hb, hml, hr, hown, hts, hlocks, hname, hlt, hno, hRf, hRl, hK, hSt, hbase⟩ := id X
  intro T hT Xs
  rcases hrun T hT Xs with ⟨v, st₀, t, T', L, h0, X', hL, e1, e2, ⟨v', h1, hv, hq, hh, hF⟩, sg⟩ | ⟨q, st₀, t, T', L, E, ce, h0, X', hL, e1, e2, ⟨h1, hq, hh, hF⟩, hce, hcv, hcl, sg⟩
  · cases hv
    obtain ⟨k1, k2, k3⟩ := vx_keep h0 e1 hS (fun _ _ z => z) (fun _ z => z) hL hF
    obtain ⟨t2, a1, b1⟩ := kr v h1 hq p l e R s m args below meth cd T'.heap (locs ++ L) ls (cells + mc) (slots + ms) X hl (by rw [e1]; exact hh) k3 (by omega) (by omega) T' rfl X'
    exact ⟨t2, sg t2 a1, b1⟩
  · obtain ⟨k1, k2, k3⟩ := vx_keep h0 e1 hS (fun _ _ z => z) (fun _ z => z) hL hF
    have hw : vx_W p l e R s m args below meth cd T'.heap (locs ++ L) (cells + mc) (slots + ms) (vx_MQ below (tw_Qc d Q) (tw_XC d Q) args s R.cells R.slots (tw_A d)) (F0 m pc ls rest) q :=
      vx_out (E := E) (ce := ce) (fun x z => (hno x z).elim) hlocks (by rw [e1]; exact hce) hcv hcl (fun t' ht _ => ⟨h1, kx E h1 hq, by rw [ht, e1]; exact hh, k3.F ht⟩) k3.2.2 (by omega) (by omega)
    obtain ⟨t2, a1, b1⟩ := hw T' rfl X'
    exact ⟨t2, sg.trans a1, b1⟩
theorem tw_callV {N : tw_M} {Qn : tw_O → tw_H → Prop} {ix n9 b ci K mc ms : Nat} {T : u_T} {fs : List Value} (ok : tw_okV N n9) (hd : decode M.2.1 pc = .ok (.invokevirtual ix, 3)) (hw : Cond.methodLink M.1.cls ix N.1 ∈ TW) (hcl : vwCl[ci]? = some (N.1.cls, T, K)) (hb9 : h b = some (.inr (ci, fs))) (As rest : List Value) (hst : st = As.reverse ++ .ref b :: rest) (hn9 : As.length = n9) (hR : N.2.2.2.2.1 + 1 ≤ M.2.2.2.2.1 ∧ 8 + (N.2.2.1 + 11) + N.2.2.2.2.2 ≤ M.2.2.2.2.2) (hW : (rest.map fun v => v.category).sum ≤ 8) (hC : tw_Ct d N mc ms (.ref b :: As) h Qn) (c2 n2 : Nat) (hc2 : c2 + mc ≤ c) (hn2 : n2 + ms ≤ n) : tw_Call d M Q Qn 3 pc lv st rest h c n c2 n2 := by
  intro kr kx
  intro p l e R s m args below meth cd H locs ls cells slots X hl hh hS hc hn
  obtain ⟨hx, hb, hml, hr, hown, hts, hlocks, hname, hlt, hno, hRf, hRl, hK, hSt, hbase⟩ := id X
  subst hst
  have cw := And.intro (callB_of (rm := { frames := N.2.2.2.2.1, cells := mc, slots := ms, locals := N.2.2.2.2.2 }) (mc := mc) (ms := ms) n9 hts (tw_goodIn ok.1.2.1) rfl rfl rfl (hts _ (List.mem_cons_of_mem _ ok.1.2.2.1)) (hts _ (List.mem_cons_of_mem _ hw)) ok.1.1 ⟨by rw [hRf]; exact hR.1, by rw [hRl]; exact hR.2⟩) (And.intro (hts _ (List.mem_cons_of_mem _ ok.2.1)) (hts _ (List.mem_cons_of_mem _ ok.2.2)))
  have hfx : CallFix p m cd M.2.1 M.2.2.1 s args (tw_ws M) M.1.cls := ⟨hx, hb, hml, hown, hts⟩
  obtain ⟨ws, hP, hD, hw2⟩ := id hh
  obtain ⟨q0, hq⟩ := hw2 b _ hb9
  have hpv : PreV s H N.1.cls b (tw_Pc d (.ref b :: As) h) As := ⟨tw_blind, va_recv hK hP hcl hq, fun U hU hW9 => ⟨rfl, tw_pre X hh hS hU hW9⟩⟩
  exact tw_run X hl hS (by omega) (by omega) (vx_runV hfx (hC l hlt) cw hpv rfl hn9 hl.1 rfl (lv_room hW) hd ⟨by omega, by omega⟩) kr kx
theorem tw_callVN {N : tw_M} {Qn : tw_O → tw_H → Prop} {ix n9 b ci K mc ms : Nat} {T : u_T} {fs : List Value} {host : String} (ok : tw_okV N n9) (hd : decode M.2.1 pc = .ok (.invokevirtual ix, 3)) (hw : Cond.methodLinkNest M.1.cls ix N.1 host ∈ tw_NG) (hcl : vwCl[ci]? = some (N.1.cls, T, K)) (hb9 : h b = some (.inr (ci, fs))) (As rest : List Value) (hst : st = As.reverse ++ .ref b :: rest) (hn9 : As.length = n9) (hR : N.2.2.2.2.1 + 1 ≤ M.2.2.2.2.1 ∧ 8 + (N.2.2.1 + 11) + N.2.2.2.2.2 ≤ M.2.2.2.2.2) (hW : (rest.map fun v => v.category).sum ≤ 8) (hC : tw_Ct d N mc ms (.ref b :: As) h Qn) (c2 n2 : Nat) (hc2 : c2 + mc ≤ c) (hn2 : n2 + ms ≤ n) : tw_Call d M Q Qn 3 pc lv st rest h c n c2 n2 := by
  intro kr kx
  intro p l e R s m args below meth cd H locs ls cells slots X hl hh hS hc hn
  obtain ⟨hx, hb, hml, hr, hown, hts, hlocks, hname, hlt, hno, hRf, hRl, hK, hSt, hbase⟩ := id X
  subst hst
  have cw := And.intro (va_cnB (rm := { frames := N.2.2.2.2.1, cells := mc, slots := ms, locals := N.2.2.2.2.2 }) (mc := mc) (ms := ms) n9 hts (tw_goodIn ok.1.2.1) rfl rfl rfl (hSt.1 _ hw) (hts _ (List.mem_cons_of_mem _ ok.1.2.2.1)) ok.1.1 ⟨by rw [hRf]; exact hR.1, by rw [hRl]; exact hR.2⟩) (And.intro (hts _ (List.mem_cons_of_mem _ ok.2.1)) (hts _ (List.mem_cons_of_mem _ ok.2.2)))
  have hfx : CallFix p m cd M.2.1 M.2.2.1 s args (tw_ws M) M.1.cls := ⟨hx, hb, hml, hown, hts⟩
  obtain ⟨ws, hP, hD, hw2⟩ := id hh
  obtain ⟨q0, hq⟩ := hw2 b _ hb9
  have hpv : PreV s H N.1.cls b (tw_Pc d (.ref b :: As) h) As := ⟨tw_blind, va_recv hK hP hcl hq, fun U hU hW9 => ⟨rfl, tw_pre X hh hS hU hW9⟩⟩
  exact tw_run X hl hS (by omega) (by omega) (vx_runVN hfx (hC l hlt) cw hpv rfl hn9 hl.1 rfl (lv_room hW) hd ⟨by omega, by omega⟩) kr kx
theorem tw_callS {N : tw_M} {Qn : tw_O → tw_H → Prop} {ix n9 mc ms : Nat} (ok : tw_okS N n9) (hd : decode M.2.1 pc = .ok (.invokestatic ix, 3)) (hw : Cond.methodLink M.1.cls ix N.1 ∈ TW) (As rest : List Value) (hst : st = As.reverse ++ rest) (hn9 : As.length = n9) (hR : N.2.2.2.2.1 + 1 ≤ M.2.2.2.2.1 ∧ 8 + (N.2.2.1 + 11) + N.2.2.2.2.2 ≤ M.2.2.2.2.2) (hW : (rest.map fun v => v.category).sum ≤ 8) (hC : tw_Ct d N mc ms As h Qn) (c2 n2 : Nat) (hc2 : c2 + mc ≤ c) (hn2 : n2 + ms ≤ n) : tw_Call d M Q Qn 3 pc lv st rest h c n c2 n2 := by
  intro kr kx
  intro p l e R s m args below meth cd H locs ls cells slots X hl hh hS hc hn
  obtain ⟨hx, hb, hml, hr, hown, hts, hlocks, hname, hlt, hno, hRf, hRl, hK, hSt, hbase⟩ := id X
  subst hst
  have cw := And.intro (callB_of (rm := { frames := N.2.2.2.2.1, cells := mc, slots := ms, locals := N.2.2.2.2.2 }) (mc := mc) (ms := ms) n9 hts (tw_goodIn ok.1.2.1) rfl rfl rfl (hts _ (List.mem_cons_of_mem _ ok.1.2.2.1)) (hts _ (List.mem_cons_of_mem _ hw)) ok.1.1 ⟨by rw [hRf]; exact hR.1, by rw [hRl]; exact hR.2⟩) (hts _ (List.mem_cons_of_mem _ ok.2))
  have hfx : CallFix p m cd M.2.1 M.2.2.1 s args (tw_ws M) M.1.cls := ⟨hx, hb, hml, hown, hts⟩
  have hpv : PreS s H (tw_Pc d As h) As := ⟨tw_blind, fun U hU hW9 => ⟨rfl, tw_pre X hh hS hU hW9⟩⟩
  exact tw_run X hl hS (by omega) (by omega) (vx_runS hfx (hC l hlt) cw hpv rfl hn9 hl.1 rfl (lv_room hW) hd ⟨by omega, by omega⟩) kr kx
theorem tw_callSN {N : tw_M} {Qn : tw_O → tw_H → Prop} {ix n9 mc ms : Nat} {host : String} (ok : tw_okS N n9) (hd : decode M.2.1 pc = .ok (.invokestatic ix, 3)) (hw : Cond.methodLinkNest M.1.cls ix N.1 host ∈ tw_NG) (As rest : List Value) (hst : st = As.reverse ++ rest) (hn9 : As.length = n9) (hR : N.2.2.2.2.1 + 1 ≤ M.2.2.2.2.1 ∧ 8 + (N.2.2.1 + 11) + N.2.2.2.2.2 ≤ M.2.2.2.2.2) (hW : (rest.map fun v => v.category).sum ≤ 8) (hC : tw_Ct d N mc ms As h Qn) (c2 n2 : Nat) (hc2 : c2 + mc ≤ c) (hn2 : n2 + ms ≤ n) : tw_Call d M Q Qn 3 pc lv st rest h c n c2 n2 := by
  intro kr kx
  intro p l e R s m args below meth cd H locs ls cells slots X hl hh hS hc hn
  obtain ⟨hx, hb, hml, hr, hown, hts, hlocks, hname, hlt, hno, hRf, hRl, hK, hSt, hbase⟩ := id X
  subst hst
  have cw := And.intro (va_cnB (rm := { frames := N.2.2.2.2.1, cells := mc, slots := ms, locals := N.2.2.2.2.2 }) (mc := mc) (ms := ms) n9 hts (tw_goodIn ok.1.2.1) rfl rfl rfl (hSt.1 _ hw) (hts _ (List.mem_cons_of_mem _ ok.1.2.2.1)) ok.1.1 ⟨by rw [hRf]; exact hR.1, by rw [hRl]; exact hR.2⟩) (And.intro (hts _ (List.mem_cons_of_mem _ ok.2)) True.intro)
  have hfx : CallFix p m cd M.2.1 M.2.2.1 s args (tw_ws M) M.1.cls := ⟨hx, hb, hml, hown, hts⟩
  have hpv : PreS s H (tw_Pc d As h) As := ⟨tw_blind, fun U hU hW9 => ⟨rfl, tw_pre X hh hS hU hW9⟩⟩
  exact tw_run X hl hS (by omega) (by omega) (vx_runSN hfx (hC l hlt) cw hpv rfl hn9 hl.1 rfl (lv_room hW) hd ⟨by omega, by omega⟩) kr kx
theorem tw_callI {N : tw_M} {Qn : tw_O → tw_H → Prop} {ix n9 b mc ms : Nat} (ok : tw_okI N n9) (hd : decode M.2.1 pc = .ok (.invokespecial ix, 3)) (hw : Cond.methodLink M.1.cls ix N.1 ∈ TW) (hret : N.2.2.2.1 = none) (As rest : List Value) (hst : st = As.reverse ++ .ref b :: rest) (hn9 : As.length = n9) (hR : N.2.2.2.2.1 + 1 ≤ M.2.2.2.2.1 ∧ 8 + (N.2.2.1 + 11) + N.2.2.2.2.2 ≤ M.2.2.2.2.2) (hW : (rest.map fun v => v.category).sum ≤ 8) (hC : tw_Ct d N mc ms (.ref b :: As) h Qn) (c2 n2 : Nat) (hc2 : c2 + mc ≤ c) (hn2 : n2 + ms ≤ n) : tw_Call d M Q Qn 3 pc lv st rest h c n c2 n2 := by
  intro kr kx
  intro p l e R s m args below meth cd H locs ls cells slots X hl hh hS hc hn
  obtain ⟨hx, hb, hml, hr, hown, hts, hlocks, hname, hlt, hno, hRf, hRl, hK, hSt, hbase⟩ := id X
  subst hst
  obtain ⟨yN, cN, lN, rN, fN, zN⟩ := N
  dsimp only at hret ok hC hR hw hd
  subst hret
  have cw := And.intro (callB_of (rm := { frames := fN, cells := mc, slots := ms, locals := zN }) (mc := mc) (ms := ms) n9 hts (tw_goodIn ok.1.2.1) rfl rfl rfl (hts _ (List.mem_cons_of_mem _ ok.1.2.2.1)) (hts _ (List.mem_cons_of_mem _ hw)) ok.1.1 ⟨by rw [hRf]; exact hR.1, by rw [hRl]; exact hR.2⟩) (And.intro ok.2.2 (hts _ (List.mem_cons_of_mem _ ok.2.1)))
  have hfx : CallFix p m cd M.2.1 M.2.2.1 s args (tw_ws M) M.1.cls := ⟨hx, hb, hml, hown, hts⟩
  have hpv : PreS s H (tw_Pc d (.ref b :: As) h) (.ref b :: As) := ⟨tw_blind, fun U hU hW9 => ⟨rfl, tw_pre X hh hS hU hW9⟩⟩
  exact tw_run X hl hS (by omega) (by omega) (vx_runI hfx (hC l hlt) cw hpv rfl hn9 hl.1 rfl (lv_room hW) hd ⟨by omega, by omega⟩) kr kx
theorem tw_callIN {N : tw_M} {Qn : tw_O → tw_H → Prop} {ix n9 b mc ms : Nat} {host : String} (ok : tw_okI N n9) (hd : decode M.2.1 pc = .ok (.invokespecial ix, 3)) (hw : Cond.methodLinkNest M.1.cls ix N.1 host ∈ tw_NG) (hret : N.2.2.2.1 = none) (As rest : List Value) (hst : st = As.reverse ++ .ref b :: rest) (hn9 : As.length = n9) (hR : N.2.2.2.2.1 + 1 ≤ M.2.2.2.2.1 ∧ 8 + (N.2.2.1 + 11) + N.2.2.2.2.2 ≤ M.2.2.2.2.2) (hW : (rest.map fun v => v.category).sum ≤ 8) (hC : tw_Ct d N mc ms (.ref b :: As) h Qn) (c2 n2 : Nat) (hc2 : c2 + mc ≤ c) (hn2 : n2 + ms ≤ n) : tw_Call d M Q Qn 3 pc lv st rest h c n c2 n2 := by
  intro kr kx
  intro p l e R s m args below meth cd H locs ls cells slots X hl hh hS hc hn
  obtain ⟨hx, hb, hml, hr, hown, hts, hlocks, hname, hlt, hno, hRf, hRl, hK, hSt, hbase⟩ := id X
  subst hst
  obtain ⟨yN, cN, lN, rN, fN, zN⟩ := N
  dsimp only at hret ok hC hR hw hd
  subst hret
  have cw := And.intro (va_cnB (rm := { frames := fN, cells := mc, slots := ms, locals := zN }) (mc := mc) (ms := ms) n9 hts (tw_goodIn ok.1.2.1) rfl rfl rfl (hSt.1 _ hw) (hts _ (List.mem_cons_of_mem _ ok.1.2.2.1)) ok.1.1 ⟨by rw [hRf]; exact hR.1, by rw [hRl]; exact hR.2⟩) (And.intro ok.2.2 (hts _ (List.mem_cons_of_mem _ ok.2.1)))
  have hfx : CallFix p m cd M.2.1 M.2.2.1 s args (tw_ws M) M.1.cls := ⟨hx, hb, hml, hown, hts⟩
  have hpv : PreS s H (tw_Pc d (.ref b :: As) h) (.ref b :: As) := ⟨tw_blind, fun U hU hW9 => ⟨rfl, tw_pre X hh hS hU hW9⟩⟩
  exact tw_run X hl hS (by omega) (by omega) (vx_runIN hfx (hC l hlt) cw hpv rfl hn9 hl.1 rfl (lv_room hW) hd ⟨by omega, by omega⟩) kr kx
theorem tw_bi {P : Int32 → tw_H → Prop} {Xp : String → tw_H → Prop} {len c2 n2 : Nat} {rest : List Value} (hC : tw_Call d M Q (tw_qi P Xp) len pc lv st rest h c n c2 n2) (kr : ∀ (r : Int32) (h1 : tw_H), P r h1 → tw_W d M Q (pc + len) lv (.int r :: rest) h1 c2 n2) (kx : ∀ (E : String) (h1 : tw_H), Xp E h1 → Q (.inr E) h1) : tw_W d M Q pc lv st h c n := by
  refine hC (fun v h1 hq => ?_) (fun E h1 hq => ?_)
  · rcases hq with ⟨r, hv, hp⟩ | ⟨E, hv, -⟩
    · cases hv
      exact kr r h1 hp
    · cases hv
  · rcases hq with ⟨r, hv, -⟩ | ⟨E2, hv, hp⟩
    · cases hv
    · cases hv
      exact kx E h1 hp
theorem tw_bl {P : Int64 → tw_H → Prop} {Xp : String → tw_H → Prop} {len c2 n2 : Nat} {rest : List Value} (hC : tw_Call d M Q (tw_ql P Xp) len pc lv st rest h c n c2 n2) (kr : ∀ (r : Int64) (h1 : tw_H), P r h1 → tw_W d M Q (pc + len) lv (.long r :: rest) h1 c2 n2) (kx : ∀ (E : String) (h1 : tw_H), Xp E h1 → Q (.inr E) h1) : tw_W d M Q pc lv st h c n := by
  refine hC (fun v h1 hq => ?_) (fun E h1 hq => ?_)
  · rcases hq with ⟨r, hv, hp⟩ | ⟨E, hv, -⟩
    · cases hv
      exact kr r h1 hp
    · cases hv
  · rcases hq with ⟨r, hv, -⟩ | ⟨E2, hv, hp⟩
    · cases hv
    · cases hv
      exact kx E h1 hp
theorem tw_br {P : Nat → tw_H → Prop} {Xp : String → tw_H → Prop} {len c2 n2 : Nat} {rest : List Value} (hC : tw_Call d M Q (tw_qr P Xp) len pc lv st rest h c n c2 n2) (kr : ∀ (r : Nat) (h1 : tw_H), P r h1 → tw_W d M Q (pc + len) lv (.ref r :: rest) h1 c2 n2) (kx : ∀ (E : String) (h1 : tw_H), Xp E h1 → Q (.inr E) h1) : tw_W d M Q pc lv st h c n := by
  refine hC (fun v h1 hq => ?_) (fun E h1 hq => ?_)
  · rcases hq with ⟨r, hv, hp⟩ | ⟨E, hv, -⟩
    · cases hv
      exact kr r h1 hp
    · cases hv
  · rcases hq with ⟨r, hv, -⟩ | ⟨E2, hv, hp⟩
    · cases hv
    · cases hv
      exact kx E h1 hp
theorem tw_bq {P : Option Nat → tw_H → Prop} {Xp : String → tw_H → Prop} {len c2 n2 : Nat} {rest : List Value} (hC : tw_Call d M Q (tw_qq P Xp) len pc lv st rest h c n c2 n2) (kr : ∀ (r : Option Nat) (h1 : tw_H), P r h1 → tw_W d M Q (pc + len) lv (va_rf r :: rest) h1 c2 n2) (kx : ∀ (E : String) (h1 : tw_H), Xp E h1 → Q (.inr E) h1) : tw_W d M Q pc lv st h c n := by
  refine hC (fun v h1 hq => ?_) (fun E h1 hq => ?_)
  · rcases hq with ⟨r, hv, hp⟩ | ⟨E, hv, -⟩
    · cases hv
      exact kr r h1 hp
    · cases hv
  · rcases hq with ⟨r, hv, -⟩ | ⟨E2, hv, hp⟩
    · cases hv
    · cases hv
      exact kx E h1 hp
theorem tw_bv {P : tw_H → Prop} {Xp : String → tw_H → Prop} {len c2 n2 : Nat} {rest : List Value} (hC : tw_Call d M Q (tw_qv P Xp) len pc lv st rest h c n c2 n2) (kr : ∀ (h1 : tw_H), P h1 → tw_W d M Q (pc + len) lv rest h1 c2 n2) (kx : ∀ (E : String) (h1 : tw_H), Xp E h1 → Q (.inr E) h1) : tw_W d M Q pc lv st h c n := by
  refine hC (fun v h1 hq => ?_) (fun E h1 hq => ?_)
  · rcases hq with ⟨hv, hp⟩ | ⟨E, hv, -⟩
    · cases hv
      exact kr h1 hp
    · cases hv
  · rcases hq with ⟨hv, -⟩ | ⟨E2, hv, hp⟩
    · cases hv
    · cases hv
      exact kx E h1 hp
theorem tw_objInit {ix a : Nat} (hd : decode M.2.1 pc = .ok (.invokespecial ix, 3)) (hw1 : Cond.methodLink M.1.cls ix Lib.objectInit ∈ TW) (hw2 : Cond.instanceMethod Lib.objectInit ∈ TW) (hw3 : Cond.code Lib.objectInit ⟨#[0xb1]⟩ 1 none ∈ TW) (hR : 1 ≤ M.2.2.2.2.1 ∧ (st.map fun v => v.category).sum + 12 ≤ M.2.2.2.2.2) (kk : tw_W d M Q (pc + 3) lv st h c n) : tw_W d M Q pc lv (.ref a :: st) h c n := by
  intro p l e R s m args below meth cd H locs ls cells slots X hl hh hS hc hn
  obtain ⟨hx, hb, hml, hr, hown, hts, hlocks, hname, hlt, hno, hRf, hRl, hK, hSt, hbase⟩ := id X
  refine W.objInit hx hb hown (hts _ (List.mem_cons_of_mem _ hw1)) (hts _ (List.mem_cons_of_mem _ hw2)) (hts _ (List.mem_cons_of_mem _ hw3)) (g := F0 m pc ls (.ref a :: st)) rfl (by rw [hml]; exact hl.1) rfl hd (by rw [hRf]; exact hR.1) (by rw [hRl]; show 2 * 0 + _ + 12 ≤ _; have := hR.2; omega) ?_
  exact kk p l e R s m args below meth cd H locs ls cells slots X hl hh hS hc hn
theorem tw_throwS {E tx : String} {ik is ic i : Nat} (hcls : Bundle.fit E = true) (hw1 : Cond.classLink M.1.cls ik E ∈ TW) (hw2 : Cond.initialized E ∈ TW) (hst : tw_strs[i]? = some (M.1.cls, is, tx))
    (hg1 : ∀ w ∈ vx_atS M.1.cls ic E ["java/lang/RuntimeException", "java/lang/Exception"], (goodWord w = true → w ∈ TW) ∧ (goodWord w = false → w ∈ tw_NG))
    (d0 : decode M.2.1 pc = .ok (.new ik, 3)) (d3 : decode M.2.1 (pc + 3) = .ok (.dup, 1)) (d4 : decode M.2.1 (pc + 4) = .ok (.ldc is, 2)) (d6 : decode M.2.1 (pc + 6) = .ok (.invokespecial ic, 3)) (d9 : decode M.2.1 (pc + 9) = .ok (.athrow, 1))
    (hR : 5 < M.2.2.2.2.1 ∧ (st.map fun v => v.category).sum + 82 ≤ M.2.2.2.2.2) (hc2 : 1 ≤ c) (hn2 : 6 ≤ n) (hq : Q (.inr E) h) : tw_W d M Q pc lv st h c n := by
  intro p l e R s m args below meth cd H locs ls cells slots X hl hh hS hc hn
  obtain ⟨hx, hb, hml, hr, hown, hts, hlocks, hname, hlt, hno, hRf, hRl, hK, hSt, hbase⟩ := id X
  have hgw : ∀ w ∈ vx_atS M.1.cls ic E ["java/lang/RuntimeException", "java/lang/Exception"], w.before args s = true ∧ vx_ot w = true := by
    intro w hw
    obtain ⟨g1, g2⟩ := hg1 w hw
    cases hgd : goodWord w with
    | true => exact ⟨hts _ (List.mem_cons_of_mem _ (g1 hgd)), by simp [vx_ot, hgd]⟩
    | false => exact ⟨va_Nw.use (tw_ngt (g2 hgd)) (hSt.1 _ (g2 hgd)), by simp [vx_ot, tw_ngt (g2 hgd)]⟩
  refine vx_throwS (A := tw_A d) (names := ["java/lang/RuntimeException", "java/lang/Exception"]) hx hb hlt hown hcls (by decide +kernel) (hts _ (List.mem_cons_of_mem _ hw1)) (hts _ (List.mem_cons_of_mem _ hw2)) (hSt.2.1 i _ hst) (fun w hw => (hgw w hw).1) ?_ hSt.2.2.1 hSt.2.2.2.1 hS (by rw [hml]; exact hl.1) d0 d3 d4 d6 d9 (fun x z => (hno x z).elim) (by rw [hRf]; exact hR.1) (by rw [hRl]; have := hR.2; simp only [List.length_cons, List.length_nil]; omega) (by omega) (by omega) hlocks ?_ hS.2.2 (by omega) (by omega)
  · intro w hw
    rcases List.mem_cons.mp hw with rfl | hw
    · simp [vx_ot, TW_good hw1]
    · rcases List.mem_cons.mp hw with rfl | hw
      · simp [vx_ot, TW_good hw2]
      · exact (hgw w hw).2
  · intro t ht hz hk
    refine ⟨h, hq, ?_, ?_⟩
    · obtain ⟨ws, hP, hD, hw2⟩ := hh
      exact ⟨ws, hP.kept (fun k q hk9 => hk q.1 (hP k q hk9).lt), hD, hw2⟩
    · exact ⟨Nat.le_trans hS.1 hz, fun q h1 h2 => (hk q (Nat.lt_of_lt_of_le h1 hS.1)).trans (hS.2.1 q h1 h2)⟩
end

/-! Fields, arrays, new things, statics, casts, ends. Printed by wip/p5/mkheap.py. -/
theorem tw_lastA {d : tw_D} {ws : va_W} {q : Nat} {e : va_E} (hD : va_D (tw_A d) (ws ++ [(q, e)])) : tw_A d q := hD.2 ws.length (q, e) (by simp)
section
variable {d : tw_D} {M : tw_M} {Q : tw_O → tw_H → Prop} {pc : Nat} {lv : List (Nat × Value)} {st : List Value} {h : tw_H} {c n : Nat}
theorem tw_get {ci ix N : Nat} {C ref : String} {T : u_T} {a : Nat} {fs : List Value} {v : Value} (hcl : vwCl[ci]? = some (C, T, N)) (hin : ∀ w ∈ u_ws C T N, w ∈ TW) (k : Nat) (hd : decode M.2.1 pc = .ok (.getfield ix, 3)) (hw : Cond.fieldLink M.1.cls ix ref (T k).2.1 (T k).2.2.1 ∈ TW) (hs : ref = (T k).1) (hk : k < N) (ha : h a = some (.inr (ci, fs))) (hv : fs[k]? = some v) (kk : tw_W d M Q (pc + 3) lv (v :: st) h c n) : tw_W d M Q pc lv (.ref a :: st) h c n := by
  intro p l e R s m args below meth cd H locs ls cells slots X hl hh hS hc hn
  obtain ⟨hx, hb, hml, hr, hown, hts, hlocks, hname, hlt, hno, hRf, hRl, hK, hSt, hbase⟩ := id X
  obtain ⟨ws, hP, hD, hw2⟩ := id hh
  obtain ⟨q0, hq⟩ := hw2 a _ ha
  exact va_get (D := d.1) (cl := vwCl) (Ts := tw_ws M) hx hb hts (fun w q => List.mem_cons_of_mem _ (hin w q)) hown hK hP q0 hq hcl k hk (hts _ (List.mem_cons_of_mem _ hw)) (fun x q => by rw [hs]; exact q) hv hd (kk p l e R s m args below meth cd H locs ls cells slots X hl hh hS hc hn)
theorem tw_getU {ci ix N : Nat} {C ref : String} {T : u_T} {a : Nat} {fs : List Value} {v : Value} (hcl : vwCl[ci]? = some (C, T, N)) (hin : ∀ w ∈ u_ws C T N, w ∈ TW) (k : Nat) (hd : decode M.2.1 pc = .ok (.getfield ix, 3)) (hw : Cond.fieldLink M.1.cls ix ref (T k).2.1 (T k).2.2.1 ∈ TW) (hs : Cond.sameField ref (T k).1 (T k).2.1 (T k).2.2.1 ∈ TW) (hk : k < N) (ha : h a = some (.inr (ci, fs))) (hv : fs[k]? = some v) (kk : tw_W d M Q (pc + 3) lv (v :: st) h c n) : tw_W d M Q pc lv (.ref a :: st) h c n := by
  intro p l e R s m args below meth cd H locs ls cells slots X hl hh hS hc hn
  obtain ⟨hx, hb, hml, hr, hown, hts, hlocks, hname, hlt, hno, hRf, hRl, hK, hSt, hbase⟩ := id X
  obtain ⟨ws, hP, hD, hw2⟩ := id hh
  obtain ⟨q0, hq⟩ := hw2 a _ ha
  exact va_get (D := d.1) (cl := vwCl) (Ts := tw_ws M) hx hb hts (fun w q => List.mem_cons_of_mem _ (hin w q)) hown hK hP q0 hq hcl k hk (hts _ (List.mem_cons_of_mem _ hw)) (fun x q => u_same (hts _ (List.mem_cons_of_mem _ hs)) x q) hv hd (kk p l e R s m args below meth cd H locs ls cells slots X hl hh hS hc hn)
theorem tw_getN {ci ix N : Nat} {C ref : String} {T : u_T} {a : Nat} {fs : List Value} {v : Value} (hcl : vwCl[ci]? = some (C, T, N)) (hin : ∀ w ∈ u_ws C T N, w ∈ TW) (k : Nat) (hd : decode M.2.1 pc = .ok (.getfield ix, 3)) {host : String} (hw : Cond.fieldLinkNest M.1.cls ix ref (T k).2.1 (T k).2.2.1 host ∈ tw_NG) (hs : ref = (T k).1) (hk : k < N) (ha : h a = some (.inr (ci, fs))) (hv : fs[k]? = some v) (kk : tw_W d M Q (pc + 3) lv (v :: st) h c n) : tw_W d M Q pc lv (.ref a :: st) h c n := by
  intro p l e R s m args below meth cd H locs ls cells slots X hl hh hS hc hn
  obtain ⟨hx, hb, hml, hr, hown, hts, hlocks, hname, hlt, hno, hRf, hRl, hK, hSt, hbase⟩ := id X
  obtain ⟨ws, hP, hD, hw2⟩ := id hh
  obtain ⟨q0, hq⟩ := hw2 a _ ha
  exact va_getN (D := d.1) (cl := vwCl) (Ts := tw_ws M) hx hb hts (fun w q => List.mem_cons_of_mem _ (hin w q)) hown hK hP q0 hq hcl k hk (va_Nw.use rfl (hSt.1 _ hw)) (fun x q => by rw [hs]; exact q) hv hd (kk p l e R s m args below meth cd H locs ls cells slots X hl hh hS hc hn)
theorem tw_put {ci ix N : Nat} {C ref : String} {T : u_T} {a : Nat} {fs : List Value} {v : Value} (hcl : vwCl[ci]? = some (C, T, N)) (hin : ∀ w ∈ u_ws C T N, w ∈ TW) (ty0 : Nat → FieldType) (hty : ∀ k, k < N → parseFieldDescriptor (T k).2.2.1 = some (ty0 k)) (hnm : ∀ a, a < N → ∀ b, b < N → a ≠ b → (T a).2.1 ≠ (T b).2.1) (k : Nat) (hd : decode M.2.1 pc = .ok (.putfield ix, 3)) (hw : Cond.fieldLink M.1.cls ix ref (T k).2.1 (T k).2.2.1 ∈ TW) (hs : ref = (T k).1) (hk : k < N) (ha : h a = some (.inr (ci, fs))) (hf : (T k).2.2.2 = false) {ty : FieldType} (hpt : parseFieldDescriptor (T k).2.2.1 = some ty) (hnr : narrow ty v = v) (hft : fits ty v = true) (hl9 : k < fs.length) (fs2 : List Value) (hf2 : fs.set k v = fs2) (kk : tw_W d M Q (pc + 3) lv st (tw_up h a (.inr (ci, fs2))) c n) : tw_W d M Q pc lv (v :: .ref a :: st) h c n := by
  intro p l e R s m args below meth cd H locs ls cells slots X hl hh hS hc hn
  obtain ⟨hx, hb, hml, hr, hown, hts, hlocks, hname, hlt, hno, hRf, hRl, hK, hSt, hbase⟩ := id X
  obtain ⟨ws, hP, hD, hw2⟩ := id hh
  obtain ⟨q0, hq⟩ := hw2 a _ ha
  subst hf2
  exact va_put (D := d.1) (cl := vwCl) (Ts := tw_ws M) hx hb hts (fun w q => List.mem_cons_of_mem _ (hin w q)) ty0 hty hnm hown hK hP hD hS q0 hq hcl k hk (hts _ (List.mem_cons_of_mem _ hw)) (fun x q => by rw [hs]; exact q) hf hpt hnr hft hl9 hd (fun H1 locs1 hP1 hD1 hS1 => kk p l e R s m args below meth cd H1 locs1 ls cells slots X hl ⟨_, hP1, hD1, tw_set hw2 hq⟩ hS1 hc hn)
theorem tw_putU {ci ix N : Nat} {C ref : String} {T : u_T} {a : Nat} {fs : List Value} {v : Value} (hcl : vwCl[ci]? = some (C, T, N)) (hin : ∀ w ∈ u_ws C T N, w ∈ TW) (ty0 : Nat → FieldType) (hty : ∀ k, k < N → parseFieldDescriptor (T k).2.2.1 = some (ty0 k)) (hnm : ∀ a, a < N → ∀ b, b < N → a ≠ b → (T a).2.1 ≠ (T b).2.1) (k : Nat) (hd : decode M.2.1 pc = .ok (.putfield ix, 3)) (hw : Cond.fieldLink M.1.cls ix ref (T k).2.1 (T k).2.2.1 ∈ TW) (hs : Cond.sameField ref (T k).1 (T k).2.1 (T k).2.2.1 ∈ TW) (hk : k < N) (ha : h a = some (.inr (ci, fs))) (hf : (T k).2.2.2 = false) {ty : FieldType} (hpt : parseFieldDescriptor (T k).2.2.1 = some ty) (hnr : narrow ty v = v) (hft : fits ty v = true) (hl9 : k < fs.length) (fs2 : List Value) (hf2 : fs.set k v = fs2) (kk : tw_W d M Q (pc + 3) lv st (tw_up h a (.inr (ci, fs2))) c n) : tw_W d M Q pc lv (v :: .ref a :: st) h c n := by
  intro p l e R s m args below meth cd H locs ls cells slots X hl hh hS hc hn
  obtain ⟨hx, hb, hml, hr, hown, hts, hlocks, hname, hlt, hno, hRf, hRl, hK, hSt, hbase⟩ := id X
  obtain ⟨ws, hP, hD, hw2⟩ := id hh
  obtain ⟨q0, hq⟩ := hw2 a _ ha
  subst hf2
  exact va_put (D := d.1) (cl := vwCl) (Ts := tw_ws M) hx hb hts (fun w q => List.mem_cons_of_mem _ (hin w q)) ty0 hty hnm hown hK hP hD hS q0 hq hcl k hk (hts _ (List.mem_cons_of_mem _ hw)) (fun x q => u_same (hts _ (List.mem_cons_of_mem _ hs)) x q) hf hpt hnr hft hl9 hd (fun H1 locs1 hP1 hD1 hS1 => kk p l e R s m args below meth cd H1 locs1 ls cells slots X hl ⟨_, hP1, hD1, tw_set hw2 hq⟩ hS1 hc hn)
theorem tw_putN {ci ix N : Nat} {C ref : String} {T : u_T} {a : Nat} {fs : List Value} {v : Value} (hcl : vwCl[ci]? = some (C, T, N)) (hin : ∀ w ∈ u_ws C T N, w ∈ TW) (ty0 : Nat → FieldType) (hty : ∀ k, k < N → parseFieldDescriptor (T k).2.2.1 = some (ty0 k)) (hnm : ∀ a, a < N → ∀ b, b < N → a ≠ b → (T a).2.1 ≠ (T b).2.1) (k : Nat) (hd : decode M.2.1 pc = .ok (.putfield ix, 3)) {host : String} (hw : Cond.fieldLinkNest M.1.cls ix ref (T k).2.1 (T k).2.2.1 host ∈ tw_NG) (hs : ref = (T k).1) (hk : k < N) (ha : h a = some (.inr (ci, fs))) (hf : (T k).2.2.2 = false) {ty : FieldType} (hpt : parseFieldDescriptor (T k).2.2.1 = some ty) (hnr : narrow ty v = v) (hft : fits ty v = true) (hl9 : k < fs.length) (fs2 : List Value) (hf2 : fs.set k v = fs2) (kk : tw_W d M Q (pc + 3) lv st (tw_up h a (.inr (ci, fs2))) c n) : tw_W d M Q pc lv (v :: .ref a :: st) h c n := by
  intro p l e R s m args below meth cd H locs ls cells slots X hl hh hS hc hn
  obtain ⟨hx, hb, hml, hr, hown, hts, hlocks, hname, hlt, hno, hRf, hRl, hK, hSt, hbase⟩ := id X
  obtain ⟨ws, hP, hD, hw2⟩ := id hh
  obtain ⟨q0, hq⟩ := hw2 a _ ha
  subst hf2
  exact va_putN (D := d.1) (cl := vwCl) (Ts := tw_ws M) hx hb hts (fun w q => List.mem_cons_of_mem _ (hin w q)) ty0 hty hnm hown hK hP hD hS q0 hq hcl k hk (va_Nw.use rfl (hSt.1 _ hw)) (fun x q => by rw [hs]; exact q) hf hpt hnr hft hl9 hd (fun H1 locs1 hP1 hD1 hS1 => kk p l e R s m args below meth cd H1 locs1 ls cells slots X hl ⟨_, hP1, hD1, tw_set hw2 hq⟩ hS1 hc hn)
theorem tw_putF {ci ix N : Nat} {C ref : String} {T : u_T} {a : Nat} {fs : List Value} {v : Value} (hcl : vwCl[ci]? = some (C, T, N)) (hin : ∀ w ∈ u_ws C T N, w ∈ TW) (ty0 : Nat → FieldType) (hty : ∀ k, k < N → parseFieldDescriptor (T k).2.2.1 = some (ty0 k)) (hnm : ∀ a, a < N → ∀ b, b < N → a ≠ b → (T a).2.1 ≠ (T b).2.1) (k : Nat) (hd : decode M.2.1 pc = .ok (.putfield ix, 3)) (hw : Cond.fieldLink M.1.cls ix ref (T k).2.1 (T k).2.2.1 ∈ TW) (hs : ref = (T k).1) (hk : k < N) (ha : h a = some (.inr (ci, fs))) (hf : (T k).2.2.2 = true) (hi : M.1.name = "<init>") (hdecl : (T k).1 = M.1.cls) {ty : FieldType} (hpt : parseFieldDescriptor (T k).2.2.1 = some ty) (hnr : narrow ty v = v) (hft : fits ty v = true) (hl9 : k < fs.length) (fs2 : List Value) (hf2 : fs.set k v = fs2) (kk : tw_W d M Q (pc + 3) lv st (tw_up h a (.inr (ci, fs2))) c n) : tw_W d M Q pc lv (v :: .ref a :: st) h c n := by
  intro p l e R s m args below meth cd H locs ls cells slots X hl hh hS hc hn
  obtain ⟨hx, hb, hml, hr, hown, hts, hlocks, hname, hlt, hno, hRf, hRl, hK, hSt, hbase⟩ := id X
  obtain ⟨ws, hP, hD, hw2⟩ := id hh
  obtain ⟨q0, hq⟩ := hw2 a _ ha
  subst hf2
  exact va_putF (D := d.1) (cl := vwCl) (Ts := tw_ws M) hx hb hts (fun w q => List.mem_cons_of_mem _ (hin w q)) ty0 hty hnm hown hK hP hD hS q0 hq hcl k hk (hts _ (List.mem_cons_of_mem _ hw)) (fun x q => by rw [hs]; exact q) hf (by rw [hname, hi]) hdecl hpt hnr hft hl9 hd (fun H1 locs1 hP1 hD1 hS1 => kk p l e R s m args below meth cd H1 locs1 ls cells slots X hl ⟨_, hP1, hD1, tw_set hw2 hq⟩ hS1 hc hn)
theorem tw_new {ci ix N : Nat} {C : String} {T : u_T} (hcl : vwCl[ci]? = some (C, T, N)) (hin : ∀ w ∈ u_ws C T N, w ∈ TW) (ty0 : Nat → FieldType) (hty : ∀ k, k < N → parseFieldDescriptor (T k).2.2.1 = some (ty0 k)) (hd : decode M.2.1 pc = .ok (.new ix, 3)) (hw1 : Cond.classLink M.1.cls ix C ∈ TW) (hw2 : Cond.instantiable C N ∈ TW) (hw3 : Cond.initialized C ∈ TW) {fs : List Value} (hfs : ∀ j, j < N → defaultValue (ty0 j) = vp_V fs j) (c2 n2 : Nat) (hc2 : c2 + 1 ≤ c) (hn2 : n2 + N ≤ n)
    (kk : ∀ q : Nat, h q = none → d.2 100 ≤ q → tw_W d M Q (pc + 3) lv (.ref q :: st) (tw_up h q (.inr (ci, fs))) c2 n2) : tw_W d M Q pc lv st h c n := by
  intro p l e R s m args below meth cd H locs ls cells slots X hl hh hS hc hn
  obtain ⟨hx, hb, hml, hr, hown, hts, hlocks, hname, hlt, hno, hRf, hRl, hK, hSt, hbase⟩ := id X
  obtain ⟨ws, hP, hD, hw9⟩ := id hh
  refine va_new (D := d.1) (cl := vwCl) (Ts := tw_ws M) hx hb hts (fun w q => List.mem_cons_of_mem _ (hin w q)) ty0 hty hown (hts _ (List.mem_cons_of_mem _ hw1)) (hts _ (List.mem_cons_of_mem _ hw2)) (hts _ (List.mem_cons_of_mem _ hw3)) hK hP hD hS (fun q hq => Nat.le_trans hbase hq) hcl hfs (by omega) (by omega) hd (fun q H1 hP1 hD1 hS1 => ?_)
  have hf := tw_fresh hw9 hD1
  have hA : tw_A d q := tw_lastA hD1
  exact kk q hf hA p l e R s m args below meth cd H1 locs ls (cells + 1) (slots + N) X hl ⟨_, hP1, hD1, tw_add hw9⟩ hS1 (by omega) (by omega)
theorem tw_cls {d : tw_D} {s : State} {k : Nat} {cA cB : ClassId} {ty : FieldType} (hK : va_K d.1 vwCl (tw_tys d) s) (hk : (tw_tys d)[k]? = some (cA, ty)) (hy : s.vm.findClass ("[" ++ ty.toString) = some cB) : cB = cA := by
  have h := (hK.2 k _ hk).2
  cases ty with
  | object C =>
    obtain ⟨kA, comp, h1, h2, h3, h4⟩ := h
    exact Option.some.inj (hy.symm.trans h4)
  | _ => exact Option.some.inj (hy.symm.trans h)
theorem tw_iald {a N : Nat} {f : Nat → Int32} {i : Int32} {v : Int32} (hd : decode M.2.1 pc = .ok (.iaload, 1)) (ha : h a = some (.inl (d.2 0, N, .inl f))) (hi : vp_in i N) (hv : f i.toNatClampNeg = v) (kk : tw_W d M Q (pc + 1) lv (.int v :: st) h c n) : tw_W d M Q pc lv (.int i :: .ref a :: st) h c n := by
  intro p l e R s m args below meth cd H locs ls cells slots X hl hh hS hc hn
  obtain ⟨hx, hb, hml, hr, hown, hts, hlocks, hname, hlt, hno, hRf, hRl, hK, hSt, hbase⟩ := id X
  obtain ⟨ws, hP, hD, hw2⟩ := id hh
  obtain ⟨q0, hq⟩ := hw2 a _ ha
  subst hv
  exact va_iald (D := d.1) (cl := vwCl) hx hb hK hP q0 0 hq rfl hi hd (kk p l e R s m args below meth cd H locs ls cells slots X hl hh hS hc hn)
theorem tw_lald {a N : Nat} {f : Nat → Int64} {i : Int32} {v : Int64} (hd : decode M.2.1 pc = .ok (.laload, 1)) (ha : h a = some (.inl (d.2 1, N, .inr (.inl f)))) (hi : vp_in i N) (hv : f i.toNatClampNeg = v) (kk : tw_W d M Q (pc + 1) lv (.long v :: st) h c n) : tw_W d M Q pc lv (.int i :: .ref a :: st) h c n := by
  intro p l e R s m args below meth cd H locs ls cells slots X hl hh hS hc hn
  obtain ⟨hx, hb, hml, hr, hown, hts, hlocks, hname, hlt, hno, hRf, hRl, hK, hSt, hbase⟩ := id X
  obtain ⟨ws, hP, hD, hw2⟩ := id hh
  obtain ⟨q0, hq⟩ := hw2 a _ ha
  subst hv
  exact va_lald (D := d.1) (cl := vwCl) hx hb hK hP q0 1 hq rfl hi hd (kk p l e R s m args below meth cd H locs ls cells slots X hl hh hS hc hn)
theorem tw_zald {a N : Nat} {f : Nat → Int32} {i : Int32} {v : Int32} (hd : decode M.2.1 pc = .ok (.baload, 1)) (ha : h a = some (.inl (d.2 2, N, .inl f))) (hi : vp_in i N) (hv : f i.toNatClampNeg = v) (kk : tw_W d M Q (pc + 1) lv (.int v :: st) h c n) : tw_W d M Q pc lv (.int i :: .ref a :: st) h c n := by
  intro p l e R s m args below meth cd H locs ls cells slots X hl hh hS hc hn
  obtain ⟨hx, hb, hml, hr, hown, hts, hlocks, hname, hlt, hno, hRf, hRl, hK, hSt, hbase⟩ := id X
  obtain ⟨ws, hP, hD, hw2⟩ := id hh
  obtain ⟨q0, hq⟩ := hw2 a _ ha
  subst hv
  exact va_zald (D := d.1) (cl := vwCl) hx hb hK hP q0 2 hq rfl hi hd (kk p l e R s m args below meth cd H locs ls cells slots X hl hh hS hc hn)
theorem tw_bald {a N : Nat} {f : Nat → Int32} {i : Int32} {v : Int32} (hd : decode M.2.1 pc = .ok (.baload, 1)) (ha : h a = some (.inl (d.2 3, N, .inl f))) (hi : vp_in i N) (hv : f i.toNatClampNeg = v) (kk : tw_W d M Q (pc + 1) lv (.int v :: st) h c n) : tw_W d M Q pc lv (.int i :: .ref a :: st) h c n := by
  intro p l e R s m args below meth cd H locs ls cells slots X hl hh hS hc hn
  obtain ⟨hx, hb, hml, hr, hown, hts, hlocks, hname, hlt, hno, hRf, hRl, hK, hSt, hbase⟩ := id X
  obtain ⟨ws, hP, hD, hw2⟩ := id hh
  obtain ⟨q0, hq⟩ := hw2 a _ ha
  subst hv
  exact va_bald (D := d.1) (cl := vwCl) hx hb hK hP q0 3 hq rfl hi hd (kk p l e R s m args below meth cd H locs ls cells slots X hl hh hS hc hn)
theorem tw_iast {a N : Nat} {f : Nat → Int32} {i : Int32} {x : Int32} (hd : decode M.2.1 pc = .ok (.iastore, 1)) (ha : h a = some (.inl (d.2 0, N, .inl f))) (hi : vp_in i N) (kk : tw_W d M Q (pc + 1) lv st (tw_up h a (.inl (d.2 0, N, .inl (upd f i.toNatClampNeg x)))) c n) : tw_W d M Q pc lv (.int x :: .int i :: .ref a :: st) h c n := by
  intro p l e R s m args below meth cd H locs ls cells slots X hl hh hS hc hn
  obtain ⟨hx, hb, hml, hr, hown, hts, hlocks, hname, hlt, hno, hRf, hRl, hK, hSt, hbase⟩ := id X
  obtain ⟨ws, hP, hD, hw2⟩ := id hh
  obtain ⟨q0, hq⟩ := hw2 a _ ha
  exact va_iast (D := d.1) (cl := vwCl) hx hb hK hP hD hS q0 0 hq rfl hi hd (fun H1 locs1 hP1 hD1 hS1 => kk p l e R s m args below meth cd H1 locs1 ls cells slots X hl ⟨_, hP1, hD1, tw_set hw2 hq⟩ hS1 hc hn)
theorem tw_last {a N : Nat} {f : Nat → Int64} {i : Int32} {x : Int64} (hd : decode M.2.1 pc = .ok (.lastore, 1)) (ha : h a = some (.inl (d.2 1, N, .inr (.inl f)))) (hi : vp_in i N) (kk : tw_W d M Q (pc + 1) lv st (tw_up h a (.inl (d.2 1, N, .inr (.inl (vp_updL f i.toNatClampNeg x))))) c n) : tw_W d M Q pc lv (.long x :: .int i :: .ref a :: st) h c n := by
  intro p l e R s m args below meth cd H locs ls cells slots X hl hh hS hc hn
  obtain ⟨hx, hb, hml, hr, hown, hts, hlocks, hname, hlt, hno, hRf, hRl, hK, hSt, hbase⟩ := id X
  obtain ⟨ws, hP, hD, hw2⟩ := id hh
  obtain ⟨q0, hq⟩ := hw2 a _ ha
  exact va_last (D := d.1) (cl := vwCl) hx hb hK hP hD hS q0 1 hq rfl hi hd (fun H1 locs1 hP1 hD1 hS1 => kk p l e R s m args below meth cd H1 locs1 ls cells slots X hl ⟨_, hP1, hD1, tw_set hw2 hq⟩ hS1 hc hn)
theorem tw_zast {a N : Nat} {f : Nat → Int32} {i : Int32} {x : Int32} (hd : decode M.2.1 pc = .ok (.bastore, 1)) (ha : h a = some (.inl (d.2 2, N, .inl f))) (hi : vp_in i N) (kk : tw_W d M Q (pc + 1) lv st (tw_up h a (.inl (d.2 2, N, .inl (upd f i.toNatClampNeg (vp_nar .boolean x))))) c n) : tw_W d M Q pc lv (.int x :: .int i :: .ref a :: st) h c n := by
  intro p l e R s m args below meth cd H locs ls cells slots X hl hh hS hc hn
  obtain ⟨hx, hb, hml, hr, hown, hts, hlocks, hname, hlt, hno, hRf, hRl, hK, hSt, hbase⟩ := id X
  obtain ⟨ws, hP, hD, hw2⟩ := id hh
  obtain ⟨q0, hq⟩ := hw2 a _ ha
  exact va_zast (D := d.1) (cl := vwCl) hx hb hK hP hD hS q0 2 hq rfl hi hd (fun H1 locs1 hP1 hD1 hS1 => kk p l e R s m args below meth cd H1 locs1 ls cells slots X hl ⟨_, hP1, hD1, tw_set hw2 hq⟩ hS1 hc hn)
theorem tw_bast {a N : Nat} {f : Nat → Int32} {i : Int32} {x : Int32} (hd : decode M.2.1 pc = .ok (.bastore, 1)) (ha : h a = some (.inl (d.2 3, N, .inl f))) (hi : vp_in i N) (kk : tw_W d M Q (pc + 1) lv st (tw_up h a (.inl (d.2 3, N, .inl (upd f i.toNatClampNeg (vp_nar .byte x))))) c n) : tw_W d M Q pc lv (.int x :: .int i :: .ref a :: st) h c n := by
  intro p l e R s m args below meth cd H locs ls cells slots X hl hh hS hc hn
  obtain ⟨hx, hb, hml, hr, hown, hts, hlocks, hname, hlt, hno, hRf, hRl, hK, hSt, hbase⟩ := id X
  obtain ⟨ws, hP, hD, hw2⟩ := id hh
  obtain ⟨q0, hq⟩ := hw2 a _ ha
  exact va_bast (D := d.1) (cl := vwCl) hx hb hK hP hD hS q0 3 hq rfl hi hd (fun H1 locs1 hP1 hD1 hS1 => kk p l e R s m args below meth cd H1 locs1 ls cells slots X hl ⟨_, hP1, hD1, tw_set hw2 hq⟩ hS1 hc hn)
theorem tw_aald {a N : Nat} {cA : ClassId} {ty : FieldType} {f : Nat → Option Nat} {i : Int32} {v : Value} (t0 : Nat) (ht : (tw_tys d)[t0]? = some (cA, ty)) (hrf : ty.isReference = true) (hd : decode M.2.1 pc = .ok (.aaload, 1)) (ha : h a = some (.inl (cA, N, .inr (.inr (.inr (.inr f)))))) (hi : vp_in i N) (hv : va_rf (f i.toNatClampNeg) = v) (kk : tw_W d M Q (pc + 1) lv (v :: st) h c n) : tw_W d M Q pc lv (.int i :: .ref a :: st) h c n := by
  intro p l e R s m args below meth cd H locs ls cells slots X hl hh hS hc hn
  obtain ⟨hx, hb, hml, hr, hown, hts, hlocks, hname, hlt, hno, hRf, hRl, hK, hSt, hbase⟩ := id X
  obtain ⟨ws, hP, hD, hw2⟩ := id hh
  obtain ⟨q0, hq⟩ := hw2 a _ ha
  subst hv
  have hlt2 : i.toNatClampNeg < N := Nat.not_le.mp fun q => hi (Or.inr q)
  exact W.aald (v := va_rf (f i.toNatClampNeg)) (ty := ty) hx hb (hP q0 _ hq) ((hK.2 t0 _ ht).1 N (fun j => va_rf (f j))) hrf (fun q => by cases q) (by show ¬ (i < 0 ∨ (arrV _ _ _).slots.size ≤ _); rw [arrV_size]; exact hi) (by show (arrV _ _ _).slots[_]? = _; rw [arrV_read _ _ hlt2]) rfl rfl hd (kk p l e R s m args below meth cd H locs ls cells slots X hl hh hS hc hn)
theorem tw_aast {a b N ci : Nat} {cA : ClassId} {r : vw_C} {fs : List Value} {f : Nat → Option Nat} {i : Int32} (t0 : Nat) (ht : (tw_tys d)[t0]? = some (cA, .object r.1)) (hcl : vwCl[ci]? = some r) (hd : decode M.2.1 pc = .ok (.aastore, 1)) (ha : h a = some (.inl (cA, N, .inr (.inr (.inr (.inr f)))))) (hb2 : h b = some (.inr (ci, fs))) (hi : vp_in i N) (kk : tw_W d M Q (pc + 1) lv st (tw_up h a (.inl (cA, N, .inr (.inr (.inr (.inr (va_up f i.toNatClampNeg (some b)))))))) c n) : tw_W d M Q pc lv (.ref b :: .int i :: .ref a :: st) h c n := by
  intro p l e R s m args below meth cd H locs ls cells slots X hl hh hS hc hn
  obtain ⟨hx, hb, hml, hr, hown, hts, hlocks, hname, hlt, hno, hRf, hRl, hK, hSt, hbase⟩ := id X
  obtain ⟨ws, hP, hD, hw2⟩ := id hh
  obtain ⟨q0, hq⟩ := hw2 a _ ha
  obtain ⟨q1, hq1⟩ := hw2 b _ hb2
  exact va_astq (D := d.1) (cl := vwCl) hx hb hK hP hD hS q0 t0 q1 ci hq ht hq1 hcl hi hd (fun H1 locs1 hP1 hD1 hS1 => kk p l e R s m args below meth cd H1 locs1 ls cells slots X hl ⟨_, hP1, hD1, tw_set hw2 hq⟩ hS1 hc hn)
theorem tw_alen {a : Nat} {cA : ClassId} {ty : FieldType} {x : vp_A} {v : Int32} (t0 : Nat) (ht : (tw_tys d)[t0]? = some (cA, ty)) (hd : decode M.2.1 pc = .ok (.arraylength, 1)) (ha : h a = some (.inl (cA, x))) (hv : Int32.ofNat x.1 = v) (kk : tw_W d M Q (pc + 1) lv (.int v :: st) h c n) : tw_W d M Q pc lv (.ref a :: st) h c n := by
  intro p l e R s m args below meth cd H locs ls cells slots X hl hh hS hc hn
  obtain ⟨hx, hb, hml, hr, hown, hts, hlocks, hname, hlt, hno, hRf, hRl, hK, hSt, hbase⟩ := id X
  obtain ⟨ws, hP, hD, hw2⟩ := id hh
  obtain ⟨q0, hq⟩ := hw2 a _ ha
  exact va_alen (D := d.1) (cl := vwCl) hx hb hK hP q0 t0 hq ht hv hd (kk p l e R s m args below meth cd H locs ls cells slots X hl hh hS hc hn)
theorem tw_newa {ty : FieldType} {atype : ArrayType} {cA : ClassId} {k : Int32} {N : Nat} {a0 : vp_A} (t0 : Nat) (ht : (tw_tys d)[t0]? = some (cA, ty)) (hd : decode M.2.1 pc = .ok (.newarray atype, 2)) (hy : newarray.typeOf atype = ty) (hw : Cond.arrayClass ty ∈ TW) (ha0 : ∀ cA : ClassId, vp_cell cA a0 = arrV cA N (fun _ => defaultValue ty)) (hk : ¬ k < 0) (hN : k.toNatClampNeg = N) (hby : N * componentBytes ty ≤ 536870912) (c2 n2 : Nat) (hc2 : c2 + 1 ≤ c) (hn2 : n2 + N ≤ n)
    (kk : ∀ q : Nat, h q = none → d.2 100 ≤ q → tw_W d M Q (pc + 2) lv (.ref q :: st) (tw_up h q (.inl (cA, a0))) c2 n2) : tw_W d M Q pc lv (.int k :: st) h c n := by
  intro p l e R s m args below meth cd H locs ls cells slots X hl hh hS hc hn
  obtain ⟨hx, hb, hml, hr, hown, hts, hlocks, hname, hlt, hno, hRf, hRl, hK, hSt, hbase⟩ := id X
  obtain ⟨ws, hP, hD, hw9⟩ := id hh
  refine va_newa (D := d.1) (cl := vwCl) hx hb (by rw [hy]; exact (hts _ (List.mem_cons_of_mem _ hw))) hy hK hP hD hS (fun q hq => Nat.le_trans hbase hq) ha0 hk hN hby (by omega) (by omega) hd (fun q cB H1 hK1 hP1 hD1 hS1 => ?_)
  have hcA : cB = cA := by
    have h1 := (hK1.2 (tw_tys d).length (cB, ty) (by simp)).2
    have h2 := (hK.2 t0 _ ht).2
    subst hy
    cases atype <;> exact Option.some.inj (Eq.trans (Eq.symm h1) h2)
  subst hcA
  have hf := tw_fresh hw9 hD1
  have hA : tw_A d q := tw_lastA hD1
  exact kk q hf hA p l e R s m args below meth cd H1 locs ls (cells + 1) (slots + N) X hl ⟨_, hP1, hD1, tw_add hw9⟩ hS1 (by omega) (by omega)
theorem tw_newq {C : String} {ix : Nat} {cA : ClassId} {k : Int32} {N : Nat} (t0 : Nat) (ht : (tw_tys d)[t0]? = some (cA, .object C)) (hAO : ∀ (s : State) (H : Heap), tw_St d s H → va_AO C s) (hd : decode M.2.1 pc = .ok (.anewarray ix, 3)) (hw : Cond.classLink M.1.cls ix C ∈ TW) (hk : ¬ k < 0) (hN : k.toNatClampNeg = N) (hby : N * 4 ≤ 536870912) (c2 n2 : Nat) (hc2 : c2 + 1 ≤ c) (hn2 : n2 + N ≤ n)
    (kk : ∀ q : Nat, h q = none → d.2 100 ≤ q → tw_W d M Q (pc + 3) lv (.ref q :: st) (tw_up h q (.inl (cA, N, .inr (.inr (.inr (.inr (fun _ => none))))))) c2 n2) : tw_W d M Q pc lv (.int k :: st) h c n := by
  intro p l e R s m args below meth cd H locs ls cells slots X hl hh hS hc hn
  obtain ⟨hx, hb, hml, hr, hown, hts, hlocks, hname, hlt, hno, hRf, hRl, hK, hSt, hbase⟩ := id X
  obtain ⟨ws, hP, hD, hw9⟩ := id hh
  refine va_newq (D := d.1) (cl := vwCl) hx hb hown (hts _ (List.mem_cons_of_mem _ hw)) (hAO s _ hSt) hK hP hD hS (fun q hq => Nat.le_trans hbase hq) hk hN hby (by omega) (by omega) hd (fun q cB H1 hK1 hP1 hD1 hS1 => ?_)
  have hcA : cB = cA := by
    obtain ⟨kA, comp, h1, h2, h3, h4⟩ := (hK1.2 (tw_tys d).length (cB, .object C) (by simp)).2
    exact tw_cls hK ht h4
  subst hcA
  have hf := tw_fresh hw9 hD1
  have hA : tw_A d q := tw_lastA hD1
  exact kk q hf hA p l e R s m args below meth cd H1 locs ls (cells + 1) (slots + N) X hl ⟨_, hP1, hD1, tw_add hw9⟩ hS1 (by omega) (by omega)
theorem tw_gets {C fn fd ref : String} {ix : Nat} {v : Value} (hZ : ∀ (s : State) (H : Heap), tw_St d s H → va_Z C fn fd v (tw_A d) s H) (hs : ref = C) (hd : decode M.2.1 pc = .ok (.getstatic ix, 3)) (hw : Cond.fieldLink M.1.cls ix ref fn fd ∈ TW) (kk : tw_W d M Q (pc + 3) lv (v :: st) h c n) : tw_W d M Q pc lv st h c n := by
  intro p l e R s m args below meth cd H locs ls cells slots X hl hh hS hc hn
  obtain ⟨hx, hb, hml, hr, hown, hts, hlocks, hname, hlt, hno, hRf, hRl, hK, hSt, hbase⟩ := id X
  exact va_gets hx hb (hZ s _ hSt) hS hown (hts _ (List.mem_cons_of_mem _ hw)) (fun x q => by rw [hs]; exact q) hd (kk p l e R s m args below meth cd H locs ls cells slots X hl hh hS hc hn)
theorem tw_ti {t N : Nat} {f : Nat → Value} {i : Int32} {v : Value} (hT : ∀ (s : State) (H : Heap), tw_St d s H → va_T .int t N f (tw_A d) s H) (hd : decode M.2.1 pc = .ok (.iaload, 1)) (hi : vp_in i N) (hv : f i.toNatClampNeg = v) (kk : tw_W d M Q (pc + 1) lv (v :: st) h c n) : tw_W d M Q pc lv (.int i :: .ref t :: st) h c n := by
  intro p l e R s m args below meth cd H locs ls cells slots X hl hh hS hc hn
  obtain ⟨hx, hb, hml, hr, hown, hts, hlocks, hname, hlt, hno, hRf, hRl, hK, hSt, hbase⟩ := id X
  exact va_ti hx hb (hT s _ hSt) hS hi hv hd (kk p l e R s m args below meth cd H locs ls cells slots X hl hh hS hc hn)
theorem tw_cast {C nm : String} {T : u_T} {N ci ix a : Nat} {fs : List Value} (hcl : vwCl[ci]? = some (C, T, N)) (hd : decode M.2.1 pc = .ok (.checkcast ix, 3)) (hw : Cond.classLink M.1.cls ix nm ∈ TW) (hc9 : Cond.castable C nm ∈ tw_NG) (ha : h a = some (.inr (ci, fs))) (kk : tw_W d M Q (pc + 3) lv (.ref a :: st) h c n) : tw_W d M Q pc lv (.ref a :: st) h c n := by
  intro p l e R s m args below meth cd H locs ls cells slots X hl hh hS hc hn
  obtain ⟨hx, hb, hml, hr, hown, hts, hlocks, hname, hlt, hno, hRf, hRl, hK, hSt, hbase⟩ := id X
  obtain ⟨ws, hP, hD, hw2⟩ := id hh
  obtain ⟨q0, hq⟩ := hw2 a _ ha
  exact va_castY hx hb hown (hts _ (List.mem_cons_of_mem _ hw)) (hSt.1 _ hc9) (va_recv hK hP hcl hq) hd (kk p l e R s m args below meth cd H locs ls cells slots X hl hh hS hc hn)
theorem tw_iret {v : Int32} (hd : decode M.2.1 pc = .ok (.ireturn, 1)) (hy : M.2.2.2.1 = some .int) (hq : Q (.inl (some (.int v))) h) : tw_W d M Q pc lv [.int v] h c n := by
  intro p l e R s m args below meth cd H locs ls cells slots X hl hh hS hc hn
  obtain ⟨hx, hb, hml, hr, hown, hts, hlocks, hname, hlt, hno, hRf, hRl, hK, hSt, hbase⟩ := id X
  refine vx_ret (W.widen (k := R.cells) (n := R.slots) (by omega) (by omega) ?_)
  exact W.iret (v := v) hx hb (by rw [hr, hy]) (fun t ht hW => ⟨_, h, rfl, hq, by rw [ht]; exact hh, hS.F ht⟩) hS.2.2 hd hlocks
theorem tw_zret {v : Int32} (hd : decode M.2.1 pc = .ok (.ireturn, 1)) (hy : M.2.2.2.1 = some .boolean) (hv : narrow .boolean (.int v) = .int v) (hq : Q (.inl (some (.int v))) h) : tw_W d M Q pc lv [.int v] h c n := by
  intro p l e R s m args below meth cd H locs ls cells slots X hl hh hS hc hn
  obtain ⟨hx, hb, hml, hr, hown, hts, hlocks, hname, hlt, hno, hRf, hRl, hK, hSt, hbase⟩ := id X
  refine vx_ret (W.widen (k := R.cells) (n := R.slots) (by omega) (by omega) ?_)
  exact W.zret (v := v) hx hb (by rw [hr, hy]) hv (fun t ht hW => ⟨_, h, rfl, hq, by rw [ht]; exact hh, hS.F ht⟩) hS.2.2 hd hlocks
theorem tw_lret {v : Int64} (hd : decode M.2.1 pc = .ok (.lreturn, 1)) (hy : M.2.2.2.1 = some .long) (hq : Q (.inl (some (.long v))) h) : tw_W d M Q pc lv [.long v] h c n := by
  intro p l e R s m args below meth cd H locs ls cells slots X hl hh hS hc hn
  obtain ⟨hx, hb, hml, hr, hown, hts, hlocks, hname, hlt, hno, hRf, hRl, hK, hSt, hbase⟩ := id X
  refine vx_ret (W.widen (k := R.cells) (n := R.slots) (by omega) (by omega) ?_)
  exact W.lret (v := v) hx hb (by rw [hr, hy]) (fun t ht hW => ⟨_, h, rfl, hq, by rw [ht]; exact hh, hS.F ht⟩) hS.2.2 hd hlocks
theorem tw_vret  (hd : decode M.2.1 pc = .ok (.return_, 1)) (hy : M.2.2.2.1 = none) (hq : Q (.inl none) h) : tw_W d M Q pc lv [] h c n := by
  intro p l e R s m args below meth cd H locs ls cells slots X hl hh hS hc hn
  obtain ⟨hx, hb, hml, hr, hown, hts, hlocks, hname, hlt, hno, hRf, hRl, hK, hSt, hbase⟩ := id X
  refine vx_ret (W.widen (k := R.cells) (n := R.slots) (by omega) (by omega) ?_)
  exact W.vret hx hb (by rw [hr, hy]) (fun t ht hW => ⟨_, h, rfl, hq, by rw [ht]; exact hh, hS.F ht⟩) hS.2.2 hd hlocks
theorem tw_aret {r : Nat} {rt : FieldType} (hd : decode M.2.1 pc = .ok (.areturn, 1)) (hy : M.2.2.2.1 = some rt) (hrt : (∃ n, rt = .object n) ∨ ∃ t, rt = .array t) (hq : Q (.inl (some (.ref r))) h) : tw_W d M Q pc lv [.ref r] h c n := by
  intro p l e R s m args below meth cd H locs ls cells slots X hl hh hS hc hn
  obtain ⟨hx, hb, hml, hr, hown, hts, hlocks, hname, hlt, hno, hRf, hRl, hK, hSt, hbase⟩ := id X
  refine vx_ret (W.widen (k := R.cells) (n := R.slots) (by omega) (by omega) ?_)
  exact W.aret (v := .ref r) hx hb (by rw [hr, hy]) hrt (Or.inr ⟨_, rfl⟩) (fun t ht hW => ⟨_, h, rfl, hq, by rw [ht]; exact hh, hS.F ht⟩) hS.2.2 hd hlocks
theorem tw_aretN {rt : FieldType} (hd : decode M.2.1 pc = .ok (.areturn, 1)) (hy : M.2.2.2.1 = some rt) (hrt : (∃ n, rt = .object n) ∨ ∃ t, rt = .array t) (hq : Q (.inl (some .null)) h) : tw_W d M Q pc lv [.null] h c n := by
  intro p l e R s m args below meth cd H locs ls cells slots X hl hh hS hc hn
  obtain ⟨hx, hb, hml, hr, hown, hts, hlocks, hname, hlt, hno, hRf, hRl, hK, hSt, hbase⟩ := id X
  refine vx_ret (W.widen (k := R.cells) (n := R.slots) (by omega) (by omega) ?_)
  exact W.aret (v := .null) hx hb (by rw [hr, hy]) hrt (Or.inl rfl) (fun t ht hW => ⟨_, h, rfl, hq, by rw [ht]; exact hh, hS.F ht⟩) hS.2.2 hd hlocks
/-- less is left than is there -/
theorem tw_less {c2 n2 : Nat} (hc2 : c2 ≤ c) (hn2 : n2 ≤ n) (k : tw_W d M Q pc lv st h c2 n2) : tw_W d M Q pc lv st h c n := by
  intro p l e R s m args below meth cd H locs ls cells slots X hl hh hS hc hn
  exact k p l e R s m args below meth cd H locs ls cells slots X hl hh hS (by omega) (by omega)
/-- a part of the world is enough -/
theorem tw_weak {h2 : tw_H} (hs : ∀ a e, h2 a = some e → h a = some e) (k : tw_W d M Q pc lv st h2 c n) : tw_W d M Q pc lv st h c n := by
  intro p l e R s m args below meth cd H locs ls cells slots X hl hh hS hc hn
  exact k p l e R s m args below meth cd H locs ls cells slots X hl (hh.weak hs) hS hc hn
/-- other facts of the locals, fewer -/
theorem tw_lv {lv2 : List (Nat × Value)} (ks : List Nat) (hz : lv_pick lv ks = lv2) (k : tw_W d M Q pc lv2 st h c n) : tw_W d M Q pc lv st h c n := by
  intro p l e R s m args below meth cd H locs ls cells slots X hl hh hS hc hn
  exact k p l e R s m args below meth cd H locs ls cells slots X (lv_sub hl ks hz) hh hS hc hn
theorem tw_Q {Q2 : tw_O → tw_H → Prop} (hq : ∀ o h1, Q2 o h1 → Q o h1) (k : tw_W d M Q2 pc lv st h c n) : tw_W d M Q pc lv st h c n := by
  intro p l e R s m args below meth cd H locs ls cells slots X hl hh hS hc hn T hT Xs
  obtain ⟨t, a1, o, b1, b2, b3⟩ := k p l e R s m args below meth cd H locs ls cells slots X hl hh hS hc hn T hT Xs
  refine ⟨t, a1, o, b1, b2, ?_⟩
  rcases b3 with ⟨⟨v, h1, e1, e2, e3, e4⟩, b4⟩ | ⟨q, e1, E, ce, L, ⟨h1, e2, e3, e4⟩, b4⟩
  · exact Or.inl ⟨⟨v, h1, e1, hq _ _ e2, e3, e4⟩, b4⟩
  · exact Or.inr ⟨q, e1, E, ce, L, ⟨h1, hq _ _ e2, e3, e4⟩, b4⟩
end

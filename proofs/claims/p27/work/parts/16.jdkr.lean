/-! rules for calls by an interface, casts to the own class, stores into an Object array, the length of a static array -/
section
variable {d : tw_D} {M : tw_M} {Q : tw_O → tw_H → Prop} {pc : Nat} {lv : List (Nat × Value)} {st : List Value} {h : tw_H} {c n : Nat}
theorem tw_callF {N : tw_M} {Qn : tw_O → tw_H → Prop} {ix cnt n9 b ci K mc ms : Nat} {T : u_T} {fs : List Value} (x9 : MethodName) (ok : tw_ok N n9) (hin : Cond.instanceMethod N.1 ∈ TW) (hsel : Cond.selects N.1.cls x9 N.1 ∈ TW) (hFw : ∀ (s : State) (H : Heap), tw_St d s H → va_Fw N.1.cls x9 N.1 s)
    (hx9 : x9.cls ≠ "java/lang/invoke/MethodHandle" ∧ x9.cls ≠ "java/lang/invoke/VarHandle" ∧ (parseMethodDescriptor x9.desc).map (fun d => d.parameters.length) = some n9) (hd : decode M.2.1 pc = .ok (.invokeinterface ix cnt, 5)) (hw : Cond.methodLink M.1.cls ix x9 ∈ TW) (hcl : vwCl[ci]? = some (N.1.cls, T, K)) (hb9 : h b = some (.inr (ci, fs))) (As rest : List Value) (hst : st = As.reverse ++ .ref b :: rest) (hn9 : As.length = n9)
    (hR : N.2.2.2.2.1 + 1 ≤ M.2.2.2.2.1 ∧ 8 + (N.2.2.1 + 11) + N.2.2.2.2.2 ≤ M.2.2.2.2.2) (hW : (rest.map fun v => v.category).sum ≤ 8) (hC : tw_Ct d N mc ms (.ref b :: As) h Qn) (c2 n2 : Nat) (hc2 : c2 + mc ≤ c) (hn2 : n2 + ms ≤ n) : tw_Call d M Q Qn 5 pc lv st rest h c n c2 n2 := by
  intro kr kx
  intro p l e R s m args below meth cd H locs ls cells slots X hl hh hS hc hn
  obtain ⟨hx, hb, hml, hr, hown, hts, hlocks, hname, hlt, hno, hRf, hRl, hK, hSt, hbase⟩ := id X
  subst hst
  have hfx : CallFix p m cd M.2.1 M.2.2.1 s args (tw_ws M) M.1.cls := ⟨hx, hb, hml, hown, hts⟩
  obtain ⟨ws, hP, hD, hw2⟩ := id hh
  obtain ⟨q0, hq⟩ := hw2 b _ hb9
  have hpv : PreV s H N.1.cls b (tw_Pc d (.ref b :: As) h) As := ⟨tw_blind, va_recv hK hP hcl hq, fun U hU hW9 => ⟨rfl, tw_pre X hh hS hU hW9⟩⟩
  have hgi : GoodIn (tw_ws M) (va_wsF M.1.cls ix N.1.cls x9 N.1 (tw_ws N)) := by
    unfold va_wsF
    refine goodIn_app ?_ (tw_goodIn ok.2.1)
    intro w hw9
    simp only [List.mem_cons, List.not_mem_nil, or_false] at hw9
    rcases hw9 with rfl | rfl | rfl | rfl
    · exact ⟨List.mem_cons_of_mem _ hw, good_of_word (TW_good hw)⟩
    · exact ⟨List.mem_cons_of_mem _ hsel, good_of_word (TW_good hsel)⟩
    · exact ⟨List.mem_cons_of_mem _ hin, good_of_word (TW_good hin)⟩
    · exact ⟨List.mem_cons_of_mem _ ok.2.2.1, good_of_word (TW_good ok.2.2.1)⟩
  have cw := va_cwF (R := R) (rm := { frames := N.2.2.2.2.1, cells := mc, slots := ms, locals := N.2.2.2.2.2 }) (mc := mc) (ms := ms) n9 hts hgi rfl rfl rfl (hFw s _ hSt) hx9 ⟨by rw [hRf]; exact hR.1, by rw [hRl]; exact hR.2⟩
  have hat : ClassAt s N.1.cls (d.1.1 ci) := (hK.1 ci _ hcl).2
  exact tw_run5 X hl hS (by omega) (by omega) (vx_runF hat hfx (hC l hlt) cw hpv rfl hn9 hl.1 rfl (lv_room hW) hd ⟨by omega, by omega⟩) kr kx
theorem tw_castS {C : String} {T : u_T} {N ci ix a : Nat} {fs : List Value} (hcl : vwCl[ci]? = some (C, T, N)) (hd : decode M.2.1 pc = .ok (.checkcast ix, 3)) (hw : Cond.classLink M.1.cls ix C ∈ TW) (ha : h a = some (.inr (ci, fs))) (kk : tw_W d M Q (pc + 3) lv (.ref a :: st) h c n) : tw_W d M Q pc lv (.ref a :: st) h c n := by
  intro p l e R s m args below meth cd H locs ls cells slots X hl hh hS hc hn
  obtain ⟨hx, hb, hml, hr, hown, hts, hlocks, hname, hlt, hno, hRf, hRl, hK, hSt, hbase⟩ := id X
  obtain ⟨ws, hP, hD, hw2⟩ := id hh
  obtain ⟨q0, hq⟩ := hw2 a _ ha
  exact va_castS hx hb hown (hts _ (List.mem_cons_of_mem _ hw)) (hK.1 ci _ hcl).2 (va_recv hK hP hcl hq) hd (kk p l e R s m args below meth cd H locs ls cells slots X hl hh hS hc hn)
theorem tw_aastO {a b N ci : Nat} {cA : ClassId} {r : vw_C} {E : String} {fs : List Value} {f : Nat → Option Nat} {i : Int32} (t0 : Nat) (ht : (tw_tys d)[t0]? = some (cA, .object E)) (hcl : vwCl[ci]? = some r) (hc9 : Cond.castable r.1 E ∈ tw_NG) (hd : decode M.2.1 pc = .ok (.aastore, 1)) (ha : h a = some (.inl (cA, N, .inr (.inr (.inr (.inr f)))))) (hb2 : h b = some (.inr (ci, fs))) (hi : vp_in i N) (kk : tw_W d M Q (pc + 1) lv st (tw_up h a (.inl (cA, N, .inr (.inr (.inr (.inr (va_up f i.toNatClampNeg (some b)))))))) c n) : tw_W d M Q pc lv (.ref b :: .int i :: .ref a :: st) h c n := by
  intro p l e R s m args below meth cd H locs ls cells slots X hl hh hS hc hn
  obtain ⟨hx, hb, hml, hr, hown, hts, hlocks, hname, hlt, hno, hRf, hRl, hK, hSt, hbase⟩ := id X
  obtain ⟨ws, hP, hD, hw2⟩ := id hh
  obtain ⟨q0, hq⟩ := hw2 a _ ha
  obtain ⟨q1, hq1⟩ := hw2 b _ hb2
  exact va_astqO (D := d.1) (cl := vwCl) hx hb hK hP hD hS q0 t0 q1 ci hq ht (hSt.1 _ hc9) hq1 hcl hi hd (fun H1 locs1 hP1 hD1 hS1 => kk p l e R s m args below meth cd H1 locs1 ls cells slots X hl ⟨_, hP1, hD1, tw_set hw2 hq⟩ hS1 hc hn)
theorem tw_tlen {t N : Nat} {f : Nat → Value} {ty : FieldType} (hT : ∀ (s : State) (H : Heap), tw_St d s H → va_T ty t N f (tw_A d) s H) (hd : decode M.2.1 pc = .ok (.arraylength, 1)) (kk : tw_W d M Q (pc + 1) lv (.int (Int32.ofNat N) :: st) h c n) : tw_W d M Q pc lv (.ref t :: st) h c n := by
  intro p l e R s m args below meth cd H locs ls cells slots X hl hh hS hc hn
  obtain ⟨hx, hb, hml, hr, hown, hts, hlocks, hname, hlt, hno, hRf, hRl, hK, hSt, hbase⟩ := id X
  obtain ⟨cell, h1, h2, h3, h4, h5, h6, h7⟩ := (hT s _ hSt).kept hS.2.1
  exact W.alen hx hb h1 h2 h5 rfl rfl hd (kk p l e R s m args below meth cd H locs ls cells slots X hl hh hS hc hn)
end
/-- the element of a list at j, as the heap has it; the first number of a thing -/
def tw_el (h : tw_H) (x j : Nat) : Nat := match h x with
  | some (.inr (_, [_, .ref a, _])) => (match h a with
    | some (.inl (_, _, .inr (.inr (.inr (.inr f))))) => (f j).getD 0
    | _ => 0)
  | _ => 0
theorem tw_el_e {h : tw_H} {x a j y ci cap : Nat} {cA : ClassId} {m z : Value} {f : Nat → Option Nat} (h1 : h x = some (.inr (ci, [m, .ref a, z]))) (h2 : h a = some (.inl (cA, cap, .inr (.inr (.inr (.inr f)))))) (h3 : f j = some y) : tw_el h x j = y := by
  unfold tw_el
  rw [h1]
  dsimp only
  rw [h2]
  dsimp only
  rw [h3]
  rfl
def tw_th : Option va_E → Int32 := fun o => match o with
  | some (.inr (_, .int v :: _)) => v
  | _ => 0
theorem tw_up_id {h : tw_H} {a : Nat} {e : va_E} (q : h a = some e) : tw_up h a e = h := by
  funext b
  unfold tw_up
  by_cases z : b = a
  · rw [if_pos z, z, q]
  · rw [if_neg z]
theorem tw_nIj {a b : Nat} (e : nI a = nI b) (ha : a < 2 ^ 31) (hb : b < 2 ^ 31) : a = b := by
  have := congrArg Int32.toInt e
  rw [nI_toInt ha, nI_toInt hb] at this
  omega
theorem tw_el24_up {d : tw_D} {g : tw_G} {τ : tw_K} {h : tw_H} (hw : tw_wt d g τ h) {x j z : Nat} {e : va_E} (kx : τ x = 24) (hj : j < g.2 3) (h4 : τ z ≠ 24) (h7 : τ z ≠ 27) : tw_el (tw_up h z e) x j = tw_el h x j := by
  obtain ⟨e1, h1, ⟨a, rfl, p⟩, -⟩ := hw x 24 kx (by decide)
  have ka : τ a = 27 := p.resolve_left (fun q => absurd hj (by rw [q.2.1]; exact Nat.not_lt_zero _))
  obtain ⟨e2, h2, ⟨f, rfl, -, h5⟩, -⟩ := hw a 27 ka (by decide)
  obtain ⟨y, hy, -⟩ := h5 j hj
  rw [tw_el_e h1 h2 hy, tw_el_e (by rw [tw_up_n (fun q => h4 (by rw [← q]; exact kx))]; exact h1) (by rw [tw_up_n (fun q => h7 (by rw [← q]; exact ka))]; exact h2) hy]
theorem tw_lim24 {d : tw_D} {g : tw_G} {τ : tw_K} {h : tw_H} (hw : tw_wt d g τ h) {x : Nat} (kx : τ x = 24) : g.2 3 ≤ 10 := by
  obtain ⟨e1, h1, ⟨a, rfl, p⟩, -⟩ := hw x 24 kx (by decide)
  rcases p with p | ka
  · rw [p.2.1]; exact Nat.zero_le _
  · obtain ⟨e2, h2, ⟨f, rfl, h5, -⟩, -⟩ := hw a 27 ka (by decide)
    exact h5
theorem tw_el25_up {d : tw_D} {g : tw_G} {τ : tw_K} {h : tw_H} (hw : tw_wt d g τ h) {x j z : Nat} {e : va_E} (kx : τ x = 25) (hj : j < g.2 4) (h4 : τ z ≠ 25) (h7 : τ z ≠ 28) : tw_el (tw_up h z e) x j = tw_el h x j := by
  obtain ⟨e1, h1, ⟨a, rfl, p⟩, -⟩ := hw x 25 kx (by decide)
  have ka : τ a = 28 := p.resolve_left (fun q => absurd hj (by rw [q.2.1]; exact Nat.not_lt_zero _))
  obtain ⟨e2, h2, ⟨f, rfl, -, h5⟩, -⟩ := hw a 28 ka (by decide)
  obtain ⟨y, hy, -⟩ := h5 j hj
  rw [tw_el_e h1 h2 hy, tw_el_e (by rw [tw_up_n (fun q => h4 (by rw [← q]; exact kx))]; exact h1) (by rw [tw_up_n (fun q => h7 (by rw [← q]; exact ka))]; exact h2) hy]
theorem tw_lim25 {d : tw_D} {g : tw_G} {τ : tw_K} {h : tw_H} (hw : tw_wt d g τ h) {x : Nat} (kx : τ x = 25) : g.2 4 ≤ 10 := by
  obtain ⟨e1, h1, ⟨a, rfl, p⟩, -⟩ := hw x 25 kx (by decide)
  rcases p with p | ka
  · rw [p.2.1]; exact Nat.zero_le _
  · obtain ⟨e2, h2, ⟨f, rfl, h5, -⟩, -⟩ := hw a 28 ka (by decide)
    exact h5
theorem tw_el26_up {d : tw_D} {g : tw_G} {τ : tw_K} {h : tw_H} (hw : tw_wt d g τ h) {x j z : Nat} {e : va_E} (kx : τ x = 26) (hj : j < g.2 5) (h4 : τ z ≠ 26) (h7 : τ z ≠ 29) : tw_el (tw_up h z e) x j = tw_el h x j := by
  obtain ⟨e1, h1, ⟨a, rfl, p⟩, -⟩ := hw x 26 kx (by decide)
  have ka : τ a = 29 := p.resolve_left (fun q => absurd hj (by rw [q.2.1]; exact Nat.not_lt_zero _))
  obtain ⟨e2, h2, ⟨f, rfl, -, h5⟩, -⟩ := hw a 29 ka (by decide)
  obtain ⟨y, hy, -⟩ := h5 j hj
  rw [tw_el_e h1 h2 hy, tw_el_e (by rw [tw_up_n (fun q => h4 (by rw [← q]; exact kx))]; exact h1) (by rw [tw_up_n (fun q => h7 (by rw [← q]; exact ka))]; exact h2) hy]
theorem tw_lim26 {d : tw_D} {g : tw_G} {τ : tw_K} {h : tw_H} (hw : tw_wt d g τ h) {x : Nat} (kx : τ x = 26) : g.2 5 ≤ 10 := by
  obtain ⟨e1, h1, ⟨a, rfl, p⟩, -⟩ := hw x 26 kx (by decide)
  rcases p with p | ka
  · rw [p.2.1]; exact Nat.zero_le _
  · obtain ⟨e2, h2, ⟨f, rfl, h5, -⟩, -⟩ := hw a 29 ka (by decide)
    exact h5
theorem tw_kle {k N : Nat} (c : ¬ nI (N - 1) < nI k) (hk : k ≤ N) (hN : N < 2 ^ 31) (h0 : 1 ≤ N := by decide) : k < N := by
  rcases Nat.lt_or_ge k N with q | q
  · exact q
  · exact absurd ((nI_ltI (by omega) (by omega)).mpr (by omega)) c
theorem tw_isc {k v : Int32} {n : Nat} (h1 : 0 ≤ k) (h2 : k ≤ v) (e : v = nI n - 1) (hn : n ≤ 10) : ∃ j, j < n ∧ k = nI j := by
  obtain ⟨j, hj, rfl⟩ := nI_of (Int32.not_lt.mpr h1)
  refine ⟨j, ?_, rfl⟩
  have a := Int32.le_iff_toInt_le.mp h2
  rw [nI_toInt hj, e, Int32.toInt_sub, nI_toInt (by omega), show (1 : Int32).toInt = 1 by decide] at a
  have b : ((n : Int) - 1).bmod (2 ^ 32) = (n : Int) - 1 := by apply Int.bmod_eq_of_le_mul_two <;> omega
  rw [b] at a
  omega
theorem tw_1m {m v : Int32} (h : m = 0 ∨ m = 1) (e : v = 1 - m) : v = 0 ∨ v = 1 := by
  rcases h with rfl | rfl
  · exact Or.inr (by rw [e]; rfl)
  · exact Or.inl (by rw [e]; rfl)
theorem tw_irng {x : Int32} {N : Nat} (h1 : 0 ≤ x) (h2 : x ≤ nI (N - 1)) (hN : 1 ≤ N) (hM : N < 2 ^ 31) : vp_in x N := by
  obtain ⟨j, hj, rfl⟩ := nI_of (Int32.not_lt.mpr h1)
  have a := Int32.le_iff_toInt_le.mp h2
  rw [nI_toInt hj, nI_toInt (by omega)] at a
  exact vp_in_nI (by omega) hM
theorem tw_m01 {m : Int32} (h1 : 0 ≤ m) (h2 : m ≤ 1) : m = 0 ∨ m = 1 := by
  obtain ⟨j, hj, rfl⟩ := nI_of (Int32.not_lt.mpr h1)
  have a := Int32.le_iff_toInt_le.mp h2
  rw [nI_toInt hj, show (1 : Int32).toInt = 1 by decide] at a
  rcases (show j = 0 ∨ j = 1 by omega) with rfl | rfl
  · exact Or.inl rfl
  · exact Or.inr rfl
theorem tw_tk {f : Nat → Int32} {k : Nat} {v : Int32} (hf : ∀ j, 0 ≤ f j ∧ f j ≤ 9) (h1 : 0 ≤ v) (h2 : v ≤ 9) : ∀ j, 0 ≤ upd f k v j ∧ upd f k v j ≤ 9 := by
  intro j
  unfold upd
  by_cases q : j = k
  · rw [if_pos q]; exact ⟨h1, h2⟩
  · rw [if_neg q]; exact hf j
theorem tw_1le {r : Int32} (h : 100 ≤ r) : 1 ≤ r := Int32.le_trans (by decide) h
/-! a list grows by one: the world's numbers go on. -/
def tw_ga (g g1 : tw_G) : Prop := g1.1 0 = g.1 0 ∧ g1.1 1 = g.1 1
def tw_gL (g : tw_G) (i a : Nat) : tw_G := (fun k => if k = i then g.1 i + 1 else g.1 k, fun k => if k = i then g.2 i + 1 else if k = i + 12 then a else if k = i + 22 then 1 else g.2 k)
theorem tw_elk {τ : tw_K} {a k : Nat} (hk : τ a = k) : tw_ku τ a k = τ := by
  funext b
  unfold tw_ku
  by_cases q : b = a
  · rw [if_pos q, q, hk]
  · rw [if_neg q]
theorem tw_dL1_24 {k i : Nat} (n : k ≠ 24) (h : i ∈ tw_d1 k) : i ≠ 3 := by
  unfold tw_d1 at h
  split at h <;> simp at h <;> first | omega | exact absurd rfl n
theorem tw_dL2_24 {k i : Nat} (n : k ≠ 24 ∧ k ≠ 27 ∧ k ≠ 36 ∧ k ≠ 23) (h : i ∈ tw_d2 k) : i ≠ 3 ∧ i ≠ 15 ∧ i ≠ 25 := by
  unfold tw_d2 at h
  split at h <;> simp at h <;> omega
theorem tw_gL24_1 {g : tw_G} {a i : Nat} (n : i ≠ 3) : (tw_gL g 3 a).1 i = g.1 i := if_neg n
theorem tw_gL24_2 {g : tw_G} {a i : Nat} (n1 : i ≠ 3) (n2 : i ≠ 15) (n3 : i ≠ 25) : (tw_gL g 3 a).2 i = g.2 i := by
  show (if i = 3 then _ else if i = 3 + 12 then _ else if i = 3 + 22 then _ else g.2 i) = _
  rw [if_neg n1, if_neg n2, if_neg n3]
theorem tw_gL24_h {g : tw_G} {a : Nat} : tw_hi g (tw_gL g 3 a) := ⟨fun i hi => tw_gL24_1 (by omega), fun i hi => tw_gL24_2 (by omega) (by omega) (by omega), rfl, rfl⟩
theorem tw_gsh24 {d : tw_D} {g : tw_G} {τ : tw_K} {x k a : Nat} {e : va_E} (hx : τ x ≠ 0) (hb : g.2 3 + 1 ≤ 4) (n1 : k ≠ 24) (n2 : k ≠ 27) (h3 : tw_sh d g τ x k e) : tw_sh d (tw_gL g 3 a) τ x k e := by
  by_cases q6 : k = 36
  · subst q6
    obtain ⟨th, td, ds, fr, ca, us, wo, cm, lc, lh, ld, h9, k1, k2, k3, k4, k5, k6, k7, k8, k9, b3, b4, b5, u9, t9, t0, t1, r1, r2, r3, r4, r5, r6⟩ := h3
    exact ⟨th, td, ds, fr, ca, us, wo, cm, lc, lh, ld, h9, k1, k2, k3, k4, k5, k6, k7, k8, k9, hb, b4, b5, u9, t9, t0, t1, (tw_gL24_h.2.1 _ (by omega)).trans r1, (tw_gL24_h.2.1 _ (by omega)).trans r2, (tw_gL24_h.2.1 _ (by omega)).trans r3, (tw_gL24_h.2.1 _ (by omega)).trans r4, (tw_gL24_h.2.1 _ (by omega)).trans r5, (tw_gL24_h.2.1 _ (by omega)).trans r6⟩
  by_cases q3 : k = 23
  · subst q3
    obtain ⟨x9, y9, dy9, p9, a1, a2, a3, a4, j, o, f1, f2, f3, f4⟩ := h3
    obtain ⟨o1, w⟩ := tw_gL24_h.ow (g' := tw_gL g 3 a) o
    exact ⟨x9, y9, dy9, p9, a1, a2, a3.imp id (fun ⟨i, q, r⟩ => ⟨i, Nat.lt_succ_of_lt q, r⟩), a4.imp id (fun ⟨i, q, r⟩ => ⟨i, Nat.lt_succ_of_lt q, r⟩), j, o1, f1.trans (w 0 (by decide)).symm, f2.trans (w 1 (by decide)).symm, f3.trans (w 2 (by decide)).symm, (tw_gL24_h.2.1 _ (by omega)).trans f4⟩
  exact tw_sh_hi tw_gL24_h (fun j hj => tw_gL24_1 (tw_dL1_24 n1 hj)) (fun j hj => by have z := tw_dL2_24 ⟨n1, n2, q6, q3⟩ hj; exact tw_gL24_2 z.1 z.2.1 z.2.2) hx h3
theorem tw_gadd24 {d : tw_D} {g : tw_G} {τ : tw_K} {h h1 : tw_H} {x e a : Nat} {F : Nat → Option Nat} (hw : tw_wt d g τ h) (kx : τ x = 24) (ke : τ e = 21) (hb : g.2 3 + 1 ≤ 4) (hid : g.2 (4096 + e) = 480 + 64 * g.2 3) (hF : ∀ j, j < g.2 3 → ∃ y, F j = some y ∧ τ y = 21 ∧ g.2 (4096 + y) = 480 + 64 * j) (hc : τ a = 27 ∨ h a = none ∧ g.2 25 = 0)
    (h1x : h1 x = some (.inr (3, [.int (g.1 3 + 1), .ref a, .int (nI (g.2 3 + 1))]))) (h1a : h1 a = some (.inl (d.2 7, 10, .inr (.inr (.inr (.inr (va_up F (g.2 3) (some e)))))))) (ho : ∀ b, b ≠ x → b ≠ a → h1 b = h b) :
    ∃ g1 τ1, (tw_ga g g1 ∧ g1.2 3 = g.2 3 + 1 ∧ (∀ i, (i < 10 ∨ i = 21 ∨ i = 22 ∨ i = 24 ∨ 128 ≤ i) → i ≠ 3 → g1.2 i = g.2 i) ∧ ∀ i, 128 ≤ i → g1.1 i = g.1 i) ∧ tw_sp d τ h g1 τ1 h1 := by
  have hle : tw_le τ (tw_ku τ a 27) := by
    rcases hc with q | q
    · rw [tw_elk q]; exact tw_le.rf
    · exact tw_ku_le (hw.none q.1)
  obtain ⟨e0, h0, -, ux⟩ := hw x 24 kx (by decide)
  have hax : x ≠ a := fun q => by
    rcases hc with z | z
    · rw [← q, kx] at z; cases z
    · rw [← q, h0] at z; cases z.1
  refine ⟨tw_gL g 3 a, tw_ku τ a 27, ⟨⟨rfl, rfl⟩, rfl, fun i i6 i3 => tw_gL24_2 i3 (by omega) (by omega), fun i hi => tw_gL24_1 (by omega)⟩, ?_, hle, ?_⟩
  · intro b k hk k0
    by_cases qa : b = a
    · subst qa
      rw [tw_ku_s] at hk
      subst hk
      refine ⟨_, h1a, ⟨_, rfl, ?_, ?_⟩, rfl, rfl, fun cA N f e1 j y hj hy => ?_⟩
      · show g.2 3 + 1 ≤ 10
        omega
      · intro j hj
        have hj : j < g.2 3 + 1 := hj
        unfold va_up
        by_cases q : j = g.2 3
        · rw [if_pos q]; exact ⟨_, rfl, hle.k ke (by decide)⟩
        · rw [if_neg q]
          obtain ⟨y, z1, z2, -⟩ := hF j (by omega)
          exact ⟨y, z1, hle.k z2 (by decide)⟩
      · have e3 : va_up F (g.2 3) (some e) = f := by injection e1 with e2; injection e2 with _ e2; injection e2 with _ e2; injection e2 with e2; injection e2 with e2; injection e2 with e2; injection e2
        have hj : j < g.2 3 + 1 := hj
        refine (tw_gL24_h.2.1 _ (by omega)).trans ?_
        rw [← e3] at hy
        unfold va_up at hy
        by_cases q : j = g.2 3
        · rw [if_pos q] at hy
          injection hy with hy
          rw [← hy, q]
          exact hid
        · rw [if_neg q] at hy
          obtain ⟨y1, z1, -, z3⟩ := hF j (by omega)
          rw [z1] at hy
          injection hy with hy
          rw [← hy]
          exact z3
    · by_cases qx : b = x
      · subst qx
        rw [hle.k kx (by decide)] at hk
        subst hk
        exact ⟨_, h1x, ⟨a, rfl, Or.inr tw_ku_s⟩, ux⟩
      · have hk2 : τ b = k := by rw [← hk, tw_ku_n qa]
        obtain ⟨e2, h2, h3⟩ := hw b k hk2 k0
        refine ⟨e2, by rw [ho b qx qa]; exact h2, tw_gsh24 (by rw [hle.k hk2 k0]; exact k0) hb ?_ ?_ (tw_sh_le hle h3)⟩
        · intro q
          subst q
          exact qx (h3.2.trans ux.symm)
        · intro q
          subst q
          rcases hc with z | z
          · obtain ⟨e5, h5, -, u5, -⟩ := hw a 27 z (by decide)
            exact qa (h3.2.1.trans u5.symm)
          · have := h3.2.2.1
            rw [z.2] at this
            cases this
  · intro b f hb2 hb0
    have q1 : b ≠ x := fun q => by rw [q, kx] at hb0; cases hb0
    have q2 : b ≠ a := fun q => by
      rcases hc with z | z
      · rw [q, z] at hb0; cases hb0
      · rw [q, z.1] at hb2; cases hb2
    exact ⟨by rw [ho b q1 q2]; exact hb2, by rw [tw_ku_n q2]; exact hb0⟩
theorem tw_elk24 {d : tw_D} {g : tw_G} {τ : tw_K} {h : tw_H} (hw : tw_wt d g τ h) {x j : Nat} (kx : τ x = 24) (hj : j < g.2 3) : τ (tw_el h x j) = 21 := by
  obtain ⟨e1, h1, ⟨a, rfl, p⟩, -⟩ := hw x 24 kx (by decide)
  have ka : τ a = 27 := p.resolve_left (fun q => absurd hj (by rw [q.2.1]; exact Nat.not_lt_zero _))
  obtain ⟨e2, h2, ⟨f, rfl, -, h5⟩, -⟩ := hw a 27 ka (by decide)
  obtain ⟨y, hy, ky⟩ := h5 j hj
  rw [tw_el_e h1 h2 hy]
  exact ky
theorem tw_eli24 {d : tw_D} {g : tw_G} {τ : tw_K} {h : tw_H} (hw : tw_wt d g τ h) {x j : Nat} (kx : τ x = 24) (hj : j < g.2 3) : g.2 (4096 + tw_el h x j) = 480 + 64 * j := by
  obtain ⟨e1, h1, ⟨a, rfl, p⟩, -⟩ := hw x 24 kx (by decide)
  have ka : τ a = 27 := p.resolve_left (fun q => absurd hj (by rw [q.2.1]; exact Nat.not_lt_zero _))
  obtain ⟨e2, h2, ⟨f, rfl, -, h5⟩, -, -, h6⟩ := hw a 27 ka (by decide)
  obtain ⟨y, hy, ky⟩ := h5 j hj
  rw [tw_el_e h1 h2 hy]
  exact h6 _ _ f rfl j y hj hy
theorem tw_dL1_25 {k i : Nat} (n : k ≠ 25) (h : i ∈ tw_d1 k) : i ≠ 4 := by
  unfold tw_d1 at h
  split at h <;> simp at h <;> first | omega | exact absurd rfl n
theorem tw_dL2_25 {k i : Nat} (n : k ≠ 25 ∧ k ≠ 28 ∧ k ≠ 36 ∧ k ≠ 22) (h : i ∈ tw_d2 k) : i ≠ 4 ∧ i ≠ 16 ∧ i ≠ 26 := by
  unfold tw_d2 at h
  split at h <;> simp at h <;> omega
theorem tw_gL25_1 {g : tw_G} {a i : Nat} (n : i ≠ 4) : (tw_gL g 4 a).1 i = g.1 i := if_neg n
theorem tw_gL25_2 {g : tw_G} {a i : Nat} (n1 : i ≠ 4) (n2 : i ≠ 16) (n3 : i ≠ 26) : (tw_gL g 4 a).2 i = g.2 i := by
  show (if i = 4 then _ else if i = 4 + 12 then _ else if i = 4 + 22 then _ else g.2 i) = _
  rw [if_neg n1, if_neg n2, if_neg n3]
theorem tw_gL25_h {g : tw_G} {a : Nat} : tw_hi g (tw_gL g 4 a) := ⟨fun i hi => tw_gL25_1 (by omega), fun i hi => tw_gL25_2 (by omega) (by omega) (by omega), rfl, rfl⟩
theorem tw_gsh25 {d : tw_D} {g : tw_G} {τ : tw_K} {x k a : Nat} {e : va_E} (hx : τ x ≠ 0) (hb : g.2 4 + 1 ≤ 6) (n1 : k ≠ 25) (n2 : k ≠ 28) (h3 : tw_sh d g τ x k e) : tw_sh d (tw_gL g 4 a) τ x k e := by
  by_cases q6 : k = 36
  · subst q6
    obtain ⟨th, td, ds, fr, ca, us, wo, cm, lc, lh, ld, h9, k1, k2, k3, k4, k5, k6, k7, k8, k9, b3, b4, b5, u9, t9, t0, t1, r1, r2, r3, r4, r5, r6⟩ := h3
    exact ⟨th, td, ds, fr, ca, us, wo, cm, lc, lh, ld, h9, k1, k2, k3, k4, k5, k6, k7, k8, k9, b3, hb, b5, u9, t9, t0, t1, (tw_gL25_h.2.1 _ (by omega)).trans r1, (tw_gL25_h.2.1 _ (by omega)).trans r2, (tw_gL25_h.2.1 _ (by omega)).trans r3, (tw_gL25_h.2.1 _ (by omega)).trans r4, (tw_gL25_h.2.1 _ (by omega)).trans r5, (tw_gL25_h.2.1 _ (by omega)).trans r6⟩
  by_cases q3 : k = 22
  · subst q3
    obtain ⟨v9, dy9, pd9, i9, j9, a1, a2, a3, a4, k, o, f1, f2, f3, f4, f5⟩ := h3
    obtain ⟨o1, w⟩ := tw_gL25_h.ow (g' := tw_gL g 4 a) o
    exact ⟨v9, dy9, pd9, i9, j9, a1, Nat.lt_succ_of_lt a2, Nat.lt_succ_of_lt a3, a4, k, o1, f1.trans (w 0 (by decide)).symm, f2.trans (w 1 (by decide)).symm, f3.trans (w 2 (by decide)).symm, f4.trans (w 3 (by decide)).symm, f5.trans (w 4 (by decide)).symm⟩
  exact tw_sh_hi tw_gL25_h (fun j hj => tw_gL25_1 (tw_dL1_25 n1 hj)) (fun j hj => by have z := tw_dL2_25 ⟨n1, n2, q6, q3⟩ hj; exact tw_gL25_2 z.1 z.2.1 z.2.2) hx h3
theorem tw_gadd25 {d : tw_D} {g : tw_G} {τ : tw_K} {h h1 : tw_H} {x e a : Nat} {F : Nat → Option Nat} (hw : tw_wt d g τ h) (kx : τ x = 25) (ke : τ e = 23) (hb : g.2 4 + 1 ≤ 6) (hid : g.2 (4096 + e) = 960 + 32 * g.2 4) (hF : ∀ j, j < g.2 4 → ∃ y, F j = some y ∧ τ y = 23 ∧ g.2 (4096 + y) = 960 + 32 * j) (hc : τ a = 28 ∨ h a = none ∧ g.2 26 = 0)
    (h1x : h1 x = some (.inr (3, [.int (g.1 4 + 1), .ref a, .int (nI (g.2 4 + 1))]))) (h1a : h1 a = some (.inl (d.2 7, 10, .inr (.inr (.inr (.inr (va_up F (g.2 4) (some e)))))))) (ho : ∀ b, b ≠ x → b ≠ a → h1 b = h b) :
    ∃ g1 τ1, (tw_ga g g1 ∧ g1.2 4 = g.2 4 + 1 ∧ (∀ i, (i < 10 ∨ i = 21 ∨ i = 22 ∨ i = 24 ∨ 128 ≤ i) → i ≠ 4 → g1.2 i = g.2 i) ∧ ∀ i, 128 ≤ i → g1.1 i = g.1 i) ∧ tw_sp d τ h g1 τ1 h1 := by
  have hle : tw_le τ (tw_ku τ a 28) := by
    rcases hc with q | q
    · rw [tw_elk q]; exact tw_le.rf
    · exact tw_ku_le (hw.none q.1)
  obtain ⟨e0, h0, -, ux⟩ := hw x 25 kx (by decide)
  have hax : x ≠ a := fun q => by
    rcases hc with z | z
    · rw [← q, kx] at z; cases z
    · rw [← q, h0] at z; cases z.1
  refine ⟨tw_gL g 4 a, tw_ku τ a 28, ⟨⟨rfl, rfl⟩, rfl, fun i i6 i3 => tw_gL25_2 i3 (by omega) (by omega), fun i hi => tw_gL25_1 (by omega)⟩, ?_, hle, ?_⟩
  · intro b k hk k0
    by_cases qa : b = a
    · subst qa
      rw [tw_ku_s] at hk
      subst hk
      refine ⟨_, h1a, ⟨_, rfl, ?_, ?_⟩, rfl, rfl, fun cA N f e1 j y hj hy => ?_⟩
      · show g.2 4 + 1 ≤ 10
        omega
      · intro j hj
        have hj : j < g.2 4 + 1 := hj
        unfold va_up
        by_cases q : j = g.2 4
        · rw [if_pos q]; exact ⟨_, rfl, hle.k ke (by decide)⟩
        · rw [if_neg q]
          obtain ⟨y, z1, z2, -⟩ := hF j (by omega)
          exact ⟨y, z1, hle.k z2 (by decide)⟩
      · have e3 : va_up F (g.2 4) (some e) = f := by injection e1 with e2; injection e2 with _ e2; injection e2 with _ e2; injection e2 with e2; injection e2 with e2; injection e2 with e2; injection e2
        have hj : j < g.2 4 + 1 := hj
        refine (tw_gL25_h.2.1 _ (by omega)).trans ?_
        rw [← e3] at hy
        unfold va_up at hy
        by_cases q : j = g.2 4
        · rw [if_pos q] at hy
          injection hy with hy
          rw [← hy, q]
          exact hid
        · rw [if_neg q] at hy
          obtain ⟨y1, z1, -, z3⟩ := hF j (by omega)
          rw [z1] at hy
          injection hy with hy
          rw [← hy]
          exact z3
    · by_cases qx : b = x
      · subst qx
        rw [hle.k kx (by decide)] at hk
        subst hk
        exact ⟨_, h1x, ⟨a, rfl, Or.inr tw_ku_s⟩, ux⟩
      · have hk2 : τ b = k := by rw [← hk, tw_ku_n qa]
        obtain ⟨e2, h2, h3⟩ := hw b k hk2 k0
        refine ⟨e2, by rw [ho b qx qa]; exact h2, tw_gsh25 (by rw [hle.k hk2 k0]; exact k0) hb ?_ ?_ (tw_sh_le hle h3)⟩
        · intro q
          subst q
          exact qx (h3.2.trans ux.symm)
        · intro q
          subst q
          rcases hc with z | z
          · obtain ⟨e5, h5, -, u5, -⟩ := hw a 28 z (by decide)
            exact qa (h3.2.1.trans u5.symm)
          · have := h3.2.2.1
            rw [z.2] at this
            cases this
  · intro b f hb2 hb0
    have q1 : b ≠ x := fun q => by rw [q, kx] at hb0; cases hb0
    have q2 : b ≠ a := fun q => by
      rcases hc with z | z
      · rw [q, z] at hb0; cases hb0
      · rw [q, z.1] at hb2; cases hb2
    exact ⟨by rw [ho b q1 q2]; exact hb2, by rw [tw_ku_n q2]; exact hb0⟩
theorem tw_elk25 {d : tw_D} {g : tw_G} {τ : tw_K} {h : tw_H} (hw : tw_wt d g τ h) {x j : Nat} (kx : τ x = 25) (hj : j < g.2 4) : τ (tw_el h x j) = 23 := by
  obtain ⟨e1, h1, ⟨a, rfl, p⟩, -⟩ := hw x 25 kx (by decide)
  have ka : τ a = 28 := p.resolve_left (fun q => absurd hj (by rw [q.2.1]; exact Nat.not_lt_zero _))
  obtain ⟨e2, h2, ⟨f, rfl, -, h5⟩, -⟩ := hw a 28 ka (by decide)
  obtain ⟨y, hy, ky⟩ := h5 j hj
  rw [tw_el_e h1 h2 hy]
  exact ky
theorem tw_eli25 {d : tw_D} {g : tw_G} {τ : tw_K} {h : tw_H} (hw : tw_wt d g τ h) {x j : Nat} (kx : τ x = 25) (hj : j < g.2 4) : g.2 (4096 + tw_el h x j) = 960 + 32 * j := by
  obtain ⟨e1, h1, ⟨a, rfl, p⟩, -⟩ := hw x 25 kx (by decide)
  have ka : τ a = 28 := p.resolve_left (fun q => absurd hj (by rw [q.2.1]; exact Nat.not_lt_zero _))
  obtain ⟨e2, h2, ⟨f, rfl, -, h5⟩, -, -, h6⟩ := hw a 28 ka (by decide)
  obtain ⟨y, hy, ky⟩ := h5 j hj
  rw [tw_el_e h1 h2 hy]
  exact h6 _ _ f rfl j y hj hy
theorem tw_dL1_26 {k i : Nat} (n : k ≠ 26) (h : i ∈ tw_d1 k) : i ≠ 5 := by
  unfold tw_d1 at h
  split at h <;> simp at h <;> first | omega | exact absurd rfl n
theorem tw_dL2_26 {k i : Nat} (n : k ≠ 26 ∧ k ≠ 29 ∧ k ≠ 36) (h : i ∈ tw_d2 k) : i ≠ 5 ∧ i ≠ 17 ∧ i ≠ 27 := by
  unfold tw_d2 at h
  split at h <;> simp at h <;> omega
theorem tw_gL26_1 {g : tw_G} {a i : Nat} (n : i ≠ 5) : (tw_gL g 5 a).1 i = g.1 i := if_neg n
theorem tw_gL26_2 {g : tw_G} {a i : Nat} (n1 : i ≠ 5) (n2 : i ≠ 17) (n3 : i ≠ 27) : (tw_gL g 5 a).2 i = g.2 i := by
  show (if i = 5 then _ else if i = 5 + 12 then _ else if i = 5 + 22 then _ else g.2 i) = _
  rw [if_neg n1, if_neg n2, if_neg n3]
theorem tw_gL26_h {g : tw_G} {a : Nat} : tw_hi g (tw_gL g 5 a) := ⟨fun i hi => tw_gL26_1 (by omega), fun i hi => tw_gL26_2 (by omega) (by omega) (by omega), rfl, rfl⟩
theorem tw_gsh26 {d : tw_D} {g : tw_G} {τ : tw_K} {x k a : Nat} {e : va_E} (hx : τ x ≠ 0) (hb : g.2 5 + 1 ≤ 10) (n1 : k ≠ 26) (n2 : k ≠ 29) (h3 : tw_sh d g τ x k e) : tw_sh d (tw_gL g 5 a) τ x k e := by
  by_cases q6 : k = 36
  · subst q6
    obtain ⟨th, td, ds, fr, ca, us, wo, cm, lc, lh, ld, h9, k1, k2, k3, k4, k5, k6, k7, k8, k9, b3, b4, b5, u9, t9, t0, t1, r1, r2, r3, r4, r5, r6⟩ := h3
    exact ⟨th, td, ds, fr, ca, us, wo, cm, lc, lh, ld, h9, k1, k2, k3, k4, k5, k6, k7, k8, k9, b3, b4, hb, u9, t9, t0, t1, (tw_gL26_h.2.1 _ (by omega)).trans r1, (tw_gL26_h.2.1 _ (by omega)).trans r2, (tw_gL26_h.2.1 _ (by omega)).trans r3, (tw_gL26_h.2.1 _ (by omega)).trans r4, (tw_gL26_h.2.1 _ (by omega)).trans r5, (tw_gL26_h.2.1 _ (by omega)).trans r6⟩
  exact tw_sh_hi tw_gL26_h (fun j hj => tw_gL26_1 (tw_dL1_26 n1 hj)) (fun j hj => by have z := tw_dL2_26 ⟨n1, n2, q6⟩ hj; exact tw_gL26_2 z.1 z.2.1 z.2.2) hx h3
theorem tw_gadd26 {d : tw_D} {g : tw_G} {τ : tw_K} {h h1 : tw_H} {x e a : Nat} {F : Nat → Option Nat} (hw : tw_wt d g τ h) (kx : τ x = 26) (ke : τ e = 22) (hb : g.2 5 + 1 ≤ 10) (hid : g.2 (4096 + e) = 1232 + 8 * g.2 5) (hF : ∀ j, j < g.2 5 → ∃ y, F j = some y ∧ τ y = 22 ∧ g.2 (4096 + y) = 1232 + 8 * j) (hc : τ a = 29 ∨ h a = none ∧ g.2 27 = 0)
    (h1x : h1 x = some (.inr (3, [.int (g.1 5 + 1), .ref a, .int (nI (g.2 5 + 1))]))) (h1a : h1 a = some (.inl (d.2 7, 10, .inr (.inr (.inr (.inr (va_up F (g.2 5) (some e)))))))) (ho : ∀ b, b ≠ x → b ≠ a → h1 b = h b) :
    ∃ g1 τ1, (tw_ga g g1 ∧ g1.2 5 = g.2 5 + 1 ∧ (∀ i, (i < 10 ∨ i = 21 ∨ i = 22 ∨ i = 24 ∨ 128 ≤ i) → i ≠ 5 → g1.2 i = g.2 i) ∧ ∀ i, 128 ≤ i → g1.1 i = g.1 i) ∧ tw_sp d τ h g1 τ1 h1 := by
  have hle : tw_le τ (tw_ku τ a 29) := by
    rcases hc with q | q
    · rw [tw_elk q]; exact tw_le.rf
    · exact tw_ku_le (hw.none q.1)
  obtain ⟨e0, h0, -, ux⟩ := hw x 26 kx (by decide)
  have hax : x ≠ a := fun q => by
    rcases hc with z | z
    · rw [← q, kx] at z; cases z
    · rw [← q, h0] at z; cases z.1
  refine ⟨tw_gL g 5 a, tw_ku τ a 29, ⟨⟨rfl, rfl⟩, rfl, fun i i6 i3 => tw_gL26_2 i3 (by omega) (by omega), fun i hi => tw_gL26_1 (by omega)⟩, ?_, hle, ?_⟩
  · intro b k hk k0
    by_cases qa : b = a
    · subst qa
      rw [tw_ku_s] at hk
      subst hk
      refine ⟨_, h1a, ⟨_, rfl, ?_, ?_⟩, rfl, rfl, fun cA N f e1 j y hj hy => ?_⟩
      · show g.2 5 + 1 ≤ 10
        omega
      · intro j hj
        have hj : j < g.2 5 + 1 := hj
        unfold va_up
        by_cases q : j = g.2 5
        · rw [if_pos q]; exact ⟨_, rfl, hle.k ke (by decide)⟩
        · rw [if_neg q]
          obtain ⟨y, z1, z2, -⟩ := hF j (by omega)
          exact ⟨y, z1, hle.k z2 (by decide)⟩
      · have e3 : va_up F (g.2 5) (some e) = f := by injection e1 with e2; injection e2 with _ e2; injection e2 with _ e2; injection e2 with e2; injection e2 with e2; injection e2 with e2; injection e2
        have hj : j < g.2 5 + 1 := hj
        refine (tw_gL26_h.2.1 _ (by omega)).trans ?_
        rw [← e3] at hy
        unfold va_up at hy
        by_cases q : j = g.2 5
        · rw [if_pos q] at hy
          injection hy with hy
          rw [← hy, q]
          exact hid
        · rw [if_neg q] at hy
          obtain ⟨y1, z1, -, z3⟩ := hF j (by omega)
          rw [z1] at hy
          injection hy with hy
          rw [← hy]
          exact z3
    · by_cases qx : b = x
      · subst qx
        rw [hle.k kx (by decide)] at hk
        subst hk
        exact ⟨_, h1x, ⟨a, rfl, Or.inr tw_ku_s⟩, ux⟩
      · have hk2 : τ b = k := by rw [← hk, tw_ku_n qa]
        obtain ⟨e2, h2, h3⟩ := hw b k hk2 k0
        refine ⟨e2, by rw [ho b qx qa]; exact h2, tw_gsh26 (by rw [hle.k hk2 k0]; exact k0) hb ?_ ?_ (tw_sh_le hle h3)⟩
        · intro q
          subst q
          exact qx (h3.2.trans ux.symm)
        · intro q
          subst q
          rcases hc with z | z
          · obtain ⟨e5, h5, -, u5, -⟩ := hw a 29 z (by decide)
            exact qa (h3.2.1.trans u5.symm)
          · have := h3.2.2.1
            rw [z.2] at this
            cases this
  · intro b f hb2 hb0
    have q1 : b ≠ x := fun q => by rw [q, kx] at hb0; cases hb0
    have q2 : b ≠ a := fun q => by
      rcases hc with z | z
      · rw [q, z] at hb0; cases hb0
      · rw [q, z.1] at hb2; cases hb2
    exact ⟨by rw [ho b q1 q2]; exact hb2, by rw [tw_ku_n q2]; exact hb0⟩
theorem tw_elk26 {d : tw_D} {g : tw_G} {τ : tw_K} {h : tw_H} (hw : tw_wt d g τ h) {x j : Nat} (kx : τ x = 26) (hj : j < g.2 5) : τ (tw_el h x j) = 22 := by
  obtain ⟨e1, h1, ⟨a, rfl, p⟩, -⟩ := hw x 26 kx (by decide)
  have ka : τ a = 29 := p.resolve_left (fun q => absurd hj (by rw [q.2.1]; exact Nat.not_lt_zero _))
  obtain ⟨e2, h2, ⟨f, rfl, -, h5⟩, -⟩ := hw a 29 ka (by decide)
  obtain ⟨y, hy, ky⟩ := h5 j hj
  rw [tw_el_e h1 h2 hy]
  exact ky
theorem tw_eli26 {d : tw_D} {g : tw_G} {τ : tw_K} {h : tw_H} (hw : tw_wt d g τ h) {x j : Nat} (kx : τ x = 26) (hj : j < g.2 5) : g.2 (4096 + tw_el h x j) = 1232 + 8 * j := by
  obtain ⟨e1, h1, ⟨a, rfl, p⟩, -⟩ := hw x 26 kx (by decide)
  have ka : τ a = 29 := p.resolve_left (fun q => absurd hj (by rw [q.2.1]; exact Nat.not_lt_zero _))
  obtain ⟨e2, h2, ⟨f, rfl, -, h5⟩, -, -, h6⟩ := hw a 29 ka (by decide)
  obtain ⟨y, hy, ky⟩ := h5 j hj
  rw [tw_el_e h1 h2 hy]
  exact h6 _ _ f rfl j y hj hy
theorem tw_lt401 {x : Int32} (h1 : 1 ≤ x) (h2 : x ≤ 400) : (x.toInt - (0 : Int32).toInt).toNat < 401 := by
  have a := Int32.le_iff_toInt_le.mp h2
  rw [show (400 : Int32).toInt = 400 by decide] at a
  rw [show (0 : Int32).toInt = 0 by decide]
  omega
theorem ok_itHas : tw_ok mJx35411_hasNext_aae02 0 := ⟨⟨by decide +kernel, by decide +kernel, by decide +kernel⟩, w_1414, w_101, by decide +kernel⟩
theorem ok_itNext : tw_ok mJx35411_next_0502b 0 := ⟨⟨by decide +kernel, by decide +kernel, by decide +kernel⟩, w_1423, w_101, by decide +kernel⟩
theorem tw_m2 {k : Nat} (h : k < 2) : nI k = 0 ∨ nI k = 1 := by
  rcases (show k = 0 ∨ k = 1 by omega) with rfl | rfl
  · exact Or.inl rfl
  · exact Or.inr rfl
def tw_pnd (j : Nat) : Int32 := if j = 0 then 20 else if j = 1 then 10 else if j = 2 then 5 else if j = 3 then 2 else 1
theorem tw_n4 {n N : Nat} (c : ¬ nI n = nI N) (h : n ≤ N) (hN : N < 2 ^ 31) : n + 1 ≤ N := by
  rcases Nat.lt_or_ge n N with q | q
  · omega
  · exact absurd (by rw [show n = N by omega]) c
theorem ng_11 : Cond.castable RX7 "java/lang/Object" ∈ tw_NG := by decide +kernel
theorem ng_12 : Cond.castable RX8 "java/lang/Object" ∈ tw_NG := by decide +kernel
theorem ng_13 : Cond.castable RX9 "java/lang/Object" ∈ tw_NG := by decide +kernel
/-- what kind 36 alone sees is changed: the reference's market -/
theorem tw_d1_36 {k i : Nat} (n : k ≠ 36) (h : i ∈ tw_d1 k) : i ≠ 1 := by
  unfold tw_d1 at h
  split at h <;> simp at h <;> first | omega | exact absurd rfl n
theorem tw_d2_36 {k i : Nat} (n : k ≠ 36) (h : i ∈ tw_d2 k) : i ≠ 22 := by
  unfold tw_d2 at h
  split at h <;> simp at h <;> first | omega | exact absurd rfl n
theorem tw_sp.m36 {d : tw_D} {g : tw_G} {τ τ1 : tw_K} {h h1 : tw_H} (s : tw_sp d τ h g τ1 h1) {x : Nat} {e : va_E} {p : Int32} (hx : τ1 x = 36) (hs : tw_sh d (tw_g1 g 1 p) τ1 x 36 e) : tw_sp d τ h (tw_g1 g 1 p) τ1 (tw_up h1 x e) := by
  refine ⟨?_, s.2.1, fun b f hb hb0 => ⟨by rw [tw_up_n (fun q => by have z := (s.2.2 b f hb hb0).2; rw [q, hx] at z; cases z)]; exact (s.2.2 b f hb hb0).1, (s.2.2 b f hb hb0).2⟩⟩
  intro b j hj h0
  by_cases q : b = x
  · subst q
    rw [hx] at hj
    subst hj
    exact ⟨e, tw_up_s, hs⟩
  · obtain ⟨e2, h3, h4⟩ := s.1 b j hj h0
    refine ⟨e2, by rw [tw_up_n q]; exact h3, ?_⟩
    by_cases q36 : j = 36
    · subst q36
      obtain ⟨_, _, _, _, _, _, _, _, _, _, _, _, _, _, _, _, _, _, _, _, _, _, _, _, hb, _⟩ := h4
      obtain ⟨_, _, _, _, _, _, _, _, _, _, _, _, _, _, _, _, _, _, _, _, _, _, _, _, hx2, _⟩ := hs
      exact absurd (hb.trans hx2.symm) q
    · exact tw_sh_hi (g := g) ⟨fun i hi => if_neg (by omega), fun _ _ => rfl, rfl, rfl⟩ (fun i hi => if_neg (tw_d1_36 q36 hi)) (fun _ _ => rfl) (by rw [hj]; exact h0) h4
theorem tw_sp.m36d {d : tw_D} {g : tw_G} {τ τ1 : tw_K} {h h1 : tw_H} (s : tw_sp d τ h g τ1 h1) {x : Nat} {e : va_E} {p : Nat} (hx : τ1 x = 36) (hs : tw_sh d (tw_g2 g 22 p) τ1 x 36 e) : tw_sp d τ h (tw_g2 g 22 p) τ1 (tw_up h1 x e) := by
  refine ⟨?_, s.2.1, fun b f hb hb0 => ⟨by rw [tw_up_n (fun q => by have z := (s.2.2 b f hb hb0).2; rw [q, hx] at z; cases z)]; exact (s.2.2 b f hb hb0).1, (s.2.2 b f hb hb0).2⟩⟩
  intro b j hj h0
  by_cases q : b = x
  · subst q
    rw [hx] at hj
    subst hj
    exact ⟨e, tw_up_s, hs⟩
  · obtain ⟨e2, h3, h4⟩ := s.1 b j hj h0
    refine ⟨e2, by rw [tw_up_n q]; exact h3, ?_⟩
    by_cases q36 : j = 36
    · subst q36
      obtain ⟨_, _, _, _, _, _, _, _, _, _, _, _, _, _, _, _, _, _, _, _, _, _, _, _, hb, _⟩ := h4
      obtain ⟨_, _, _, _, _, _, _, _, _, _, _, _, _, _, _, _, _, _, _, _, _, _, _, _, hx2, _⟩ := hs
      exact absurd (hb.trans hx2.symm) q
    · exact tw_sh_hi (g := g) ⟨fun _ _ => rfl, fun i hi => if_neg (by omega), tw_g2_ne (by decide), tw_g2_ne (by decide)⟩ (fun _ _ => rfl) (fun i hi => if_neg (tw_d2_36 q36 hi)) (by rw [hj]; exact h0) h4

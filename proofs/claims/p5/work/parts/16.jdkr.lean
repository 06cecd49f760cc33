/-! rules for calls by an interface, casts to the own class, stores into an Object array, the length of a static array -/
section
variable {d : tw_D} {M : tw_M} {Q : tw_O → tw_H → Prop} {pc : Nat} {lv : List (Nat × Value)} {st : List Value} {h : tw_H} {c n : Nat}
theorem tw_callF {N : tw_M} {Qn : tw_O → tw_H → Prop} {ix cnt n9 b ci K mc ms : Nat} {T : u_T} {fs : List Value} (x9 : MethodName) (ok : tw_ok N n9) (hin : Cond.instanceMethod N.1 ∈ TW) (hsel : Cond.selects N.1.cls x9 N.1 ∈ TW) (hFw : ∀ (s : State) (H : Heap), tw_St d s H → va_Fw N.1.cls x9 N.1 s)
    (hx9 : x9.cls ≠ "java/lang/invoke/MethodHandle" ∧ x9.cls ≠ "java/lang/invoke/VarHandle" ∧ (parseMethodDescriptor x9.desc).map (fun d => d.parameters.length) = some n9) (hd : decode M.2.1 pc = .ok (.invokeinterface ix cnt, 5)) (hw : Cond.methodLink M.1.cls ix x9 ∈ TW) (hcl : vwCl[ci]? = some (N.1.cls, T, K)) (hb9 : h b = some (.inr (ci, fs))) (As rest : List Value) (hst : st = As.reverse ++ .ref b :: rest) (hn9 : As.length = n9)
    (hR : N.2.2.2.2.1 + 1 ≤ M.2.2.2.2.1 ∧ 8 + (N.2.2.1 + 11) + N.2.2.2.2.2 ≤ M.2.2.2.2.2) (hW : (rest.map fun v => v.category).sum ≤ 8) (hC : tw_Ct d N mc ms (.ref b :: As) h Qn) (c2 n2 : Nat) (hc2 : c2 + mc ≤ c) (hn2 : n2 + ms ≤ n) : tw_Call d M Q Qn 5 pc lv st rest h c n c2 n2 := by
  intro kr kx
  intro p l e R s m args below meth cd H locs ls cells slots X hl hh hS hc hn
  obtain ⟨hx, hb, hml, hr, hown, hts, hlocks, hname, hlt, hno, hRf, hRl, hK, hSt, hbase⟩ := id X
  subst hst
  have hfx : CallFix p m cd M.2.1 M.2.2.1 s args (tw_ws M) M.1.cls := ⟨hx, hb, hml, hown, hts⟩
  obtain ⟨ws, hP, hD, hw2⟩ := id hh
  obtain ⟨q0, hq⟩ := hw2 b _ hb9
  have hpv : PreV s H N.1.cls b (tw_Pc d (.ref b :: As) h) As := ⟨tw_blind, va_recv hK hP hcl hq, fun U hU hW9 => ⟨rfl, tw_pre X hh hS hU hW9⟩⟩
  have hgi : GoodIn (tw_ws M) (va_wsF M.1.cls ix N.1.cls x9 N.1 (tw_ws N)) := by
    unfold va_wsF
    refine goodIn_app ?_ (tw_goodIn ok.2.1)
    intro w hw9
    simp only [List.mem_cons, List.not_mem_nil, or_false] at hw9
    rcases hw9 with rfl | rfl | rfl | rfl
    · exact ⟨List.mem_cons_of_mem _ hw, good_of_word (TW_good hw)⟩
    · exact ⟨List.mem_cons_of_mem _ hsel, good_of_word (TW_good hsel)⟩
    · exact ⟨List.mem_cons_of_mem _ hin, good_of_word (TW_good hin)⟩
    · exact ⟨List.mem_cons_of_mem _ ok.2.2.1, good_of_word (TW_good ok.2.2.1)⟩
  have cw := va_cwF (R := R) (rm := { frames := N.2.2.2.2.1, cells := mc, slots := ms, locals := N.2.2.2.2.2 }) (mc := mc) (ms := ms) n9 hts hgi rfl rfl rfl (hFw s _ hSt) hx9 ⟨by rw [hRf]; exact hR.1, by rw [hRl]; exact hR.2⟩
  have hat : ClassAt s N.1.cls (d.1.1 ci) := (hK.1 ci _ hcl).2
  exact tw_run5 X hl hS (by omega) (by omega) (vx_runF hat hfx (hC l hlt) cw hpv rfl hn9 hl.1 rfl (lv_room hW) hd ⟨by omega, by omega⟩) kr kx
theorem tw_castS {C : String} {T : u_T} {N ci ix a : Nat} {fs : List Value} (hcl : vwCl[ci]? = some (C, T, N)) (hd : decode M.2.1 pc = .ok (.checkcast ix, 3)) (hw : Cond.classLink M.1.cls ix C ∈ TW) (ha : h a = some (.inr (ci, fs))) (kk : tw_W d M Q (pc + 3) lv (.ref a :: st) h c n) : tw_W d M Q pc lv (.ref a :: st) h c n := by
  intro p l e R s m args below meth cd H locs ls cells slots X hl hh hS hc hn
  obtain ⟨hx, hb, hml, hr, hown, hts, hlocks, hname, hlt, hno, hRf, hRl, hK, hSt, hbase⟩ := id X
  obtain ⟨ws, hP, hD, hw2⟩ := id hh
  obtain ⟨q0, hq⟩ := hw2 a _ ha
  exact va_castS hx hb hown (hts _ (List.mem_cons_of_mem _ hw)) (hK.1 ci _ hcl).2 (va_recv hK hP hcl hq) hd (kk p l e R s m args below meth cd H locs ls cells slots X hl hh hS hc hn)
theorem tw_aastO {a b N ci : Nat} {cA : ClassId} {r : vw_C} {E : String} {fs : List Value} {f : Nat → Option Nat} {i : Int32} (t0 : Nat) (ht : (tw_tys d)[t0]? = some (cA, .object E)) (hcl : vwCl[ci]? = some r) (hc9 : Cond.castable r.1 E ∈ tw_NG) (hd : decode M.2.1 pc = .ok (.aastore, 1)) (ha : h a = some (.inl (cA, N, .inr (.inr (.inr (.inr f)))))) (hb2 : h b = some (.inr (ci, fs))) (hi : vp_in i N) (kk : tw_W d M Q (pc + 1) lv st (tw_up h a (.inl (cA, N, .inr (.inr (.inr (.inr (va_up f i.toNatClampNeg (some b)))))))) c n) : tw_W d M Q pc lv (.ref b :: .int i :: .ref a :: st) h c n := by
  intro p l e R s m args below meth cd H locs ls cells slots X hl hh hS hc hn
  obtain ⟨hx, hb, hml, hr, hown, hts, hlocks, hname, hlt, hno, hRf, hRl, hK, hSt, hbase⟩ := id X
  obtain ⟨ws, hP, hD, hw2⟩ := id hh
  obtain ⟨q0, hq⟩ := hw2 a _ ha
  obtain ⟨q1, hq1⟩ := hw2 b _ hb2
  exact va_astqO (D := d.1) (cl := vwCl) hx hb hK hP hD hS q0 t0 q1 ci hq ht (hSt.1 _ hc9) hq1 hcl hi hd (fun H1 locs1 hP1 hD1 hS1 => kk p l e R s m args below meth cd H1 locs1 ls cells slots X hl ⟨_, hP1, hD1, tw_set hw2 hq⟩ hS1 hc hn)
theorem tw_tlen {t N : Nat} {f : Nat → Value} {ty : FieldType} (hT : ∀ (s : State) (H : Heap), tw_St d s H → va_T ty t N f (tw_A d) s H) (hd : decode M.2.1 pc = .ok (.arraylength, 1)) (kk : tw_W d M Q (pc + 1) lv (.int (Int32.ofNat N) :: st) h c n) : tw_W d M Q pc lv (.ref t :: st) h c n := by
  intro p l e R s m args below meth cd H locs ls cells slots X hl hh hS hc hn
  obtain ⟨hx, hb, hml, hr, hown, hts, hlocks, hname, hlt, hno, hRf, hRl, hK, hSt, hbase⟩ := id X
  obtain ⟨cell, h1, h2, h3, h4, h5, h6, h7⟩ := (hT s _ hSt).kept hS.2.1
  exact W.alen hx hb h1 h2 h5 rfl rfl hd (kk p l e R s m args below meth cd H locs ls cells slots X hl hh hS hc hn)
end
/-- the element of a list at j, as the heap has it; the first number of a thing -/
def tw_el (h : tw_H) (x j : Nat) : Nat := match h x with
  | some (.inr (_, [_, .ref a, _])) => (match h a with
    | some (.inl (_, _, .inr (.inr (.inr (.inr f))))) => (f j).getD 0
    | _ => 0)
  | _ => 0
theorem tw_el_e {h : tw_H} {x a j y ci cap : Nat} {cA : ClassId} {m z : Value} {f : Nat → Option Nat} (h1 : h x = some (.inr (ci, [m, .ref a, z]))) (h2 : h a = some (.inl (cA, cap, .inr (.inr (.inr (.inr f)))))) (h3 : f j = some y) : tw_el h x j = y := by
  unfold tw_el
  rw [h1]
  dsimp only
  rw [h2]
  dsimp only
  rw [h3]
  rfl
def tw_th : Option va_E → Int32 := fun o => match o with
  | some (.inr (_, .int v :: _)) => v
  | _ => 0
theorem tw_up_id {h : tw_H} {a : Nat} {e : va_E} (q : h a = some e) : tw_up h a e = h := by
  funext b
  unfold tw_up
  by_cases z : b = a
  · rw [if_pos z, z, q]
  · rw [if_neg z]
theorem tw_nIj {a b : Nat} (e : nI a = nI b) (ha : a < 2 ^ 31) (hb : b < 2 ^ 31) : a = b := by
  have := congrArg Int32.toInt e
  rw [nI_toInt ha, nI_toInt hb] at this
  omega
theorem tw_el24_up {d : tw_D} {g : tw_G} {τ : tw_K} {h : tw_H} (hw : tw_wt d g τ h) {x j z : Nat} {e : va_E} (kx : τ x = 24) (hj : j < g.2 3) (h4 : τ z ≠ 24) (h7 : τ z ≠ 27) : tw_el (tw_up h z e) x j = tw_el h x j := by
  obtain ⟨e1, h1, ⟨a, rfl, p⟩, -⟩ := hw x 24 kx (by decide)
  have ka : τ a = 27 := p.resolve_left (fun q => absurd hj (by rw [q.2]; exact Nat.not_lt_zero _))
  obtain ⟨e2, h2, ⟨f, rfl, -, h5⟩, -⟩ := hw a 27 ka (by decide)
  obtain ⟨y, hy, -⟩ := h5 j hj
  rw [tw_el_e h1 h2 hy, tw_el_e (by rw [tw_up_n (fun q => h4 (by rw [← q]; exact kx))]; exact h1) (by rw [tw_up_n (fun q => h7 (by rw [← q]; exact ka))]; exact h2) hy]
theorem tw_lim24 {d : tw_D} {g : tw_G} {τ : tw_K} {h : tw_H} (hw : tw_wt d g τ h) {x : Nat} (kx : τ x = 24) : g.2 3 ≤ 10 := by
  obtain ⟨e1, h1, ⟨a, rfl, p⟩, -⟩ := hw x 24 kx (by decide)
  rcases p with p | ka
  · rw [p.2]; exact Nat.zero_le _
  · obtain ⟨e2, h2, ⟨f, rfl, h5, -⟩, -⟩ := hw a 27 ka (by decide)
    exact h5
theorem tw_el25_up {d : tw_D} {g : tw_G} {τ : tw_K} {h : tw_H} (hw : tw_wt d g τ h) {x j z : Nat} {e : va_E} (kx : τ x = 25) (hj : j < g.2 4) (h4 : τ z ≠ 25) (h7 : τ z ≠ 28) : tw_el (tw_up h z e) x j = tw_el h x j := by
  obtain ⟨e1, h1, ⟨a, rfl, p⟩, -⟩ := hw x 25 kx (by decide)
  have ka : τ a = 28 := p.resolve_left (fun q => absurd hj (by rw [q.2]; exact Nat.not_lt_zero _))
  obtain ⟨e2, h2, ⟨f, rfl, -, h5⟩, -⟩ := hw a 28 ka (by decide)
  obtain ⟨y, hy, -⟩ := h5 j hj
  rw [tw_el_e h1 h2 hy, tw_el_e (by rw [tw_up_n (fun q => h4 (by rw [← q]; exact kx))]; exact h1) (by rw [tw_up_n (fun q => h7 (by rw [← q]; exact ka))]; exact h2) hy]
theorem tw_lim25 {d : tw_D} {g : tw_G} {τ : tw_K} {h : tw_H} (hw : tw_wt d g τ h) {x : Nat} (kx : τ x = 25) : g.2 4 ≤ 10 := by
  obtain ⟨e1, h1, ⟨a, rfl, p⟩, -⟩ := hw x 25 kx (by decide)
  rcases p with p | ka
  · rw [p.2]; exact Nat.zero_le _
  · obtain ⟨e2, h2, ⟨f, rfl, h5, -⟩, -⟩ := hw a 28 ka (by decide)
    exact h5
theorem tw_el26_up {d : tw_D} {g : tw_G} {τ : tw_K} {h : tw_H} (hw : tw_wt d g τ h) {x j z : Nat} {e : va_E} (kx : τ x = 26) (hj : j < g.2 5) (h4 : τ z ≠ 26) (h7 : τ z ≠ 29) : tw_el (tw_up h z e) x j = tw_el h x j := by
  obtain ⟨e1, h1, ⟨a, rfl, p⟩, -⟩ := hw x 26 kx (by decide)
  have ka : τ a = 29 := p.resolve_left (fun q => absurd hj (by rw [q.2]; exact Nat.not_lt_zero _))
  obtain ⟨e2, h2, ⟨f, rfl, -, h5⟩, -⟩ := hw a 29 ka (by decide)
  obtain ⟨y, hy, -⟩ := h5 j hj
  rw [tw_el_e h1 h2 hy, tw_el_e (by rw [tw_up_n (fun q => h4 (by rw [← q]; exact kx))]; exact h1) (by rw [tw_up_n (fun q => h7 (by rw [← q]; exact ka))]; exact h2) hy]
theorem tw_lim26 {d : tw_D} {g : tw_G} {τ : tw_K} {h : tw_H} (hw : tw_wt d g τ h) {x : Nat} (kx : τ x = 26) : g.2 5 ≤ 10 := by
  obtain ⟨e1, h1, ⟨a, rfl, p⟩, -⟩ := hw x 26 kx (by decide)
  rcases p with p | ka
  · rw [p.2]; exact Nat.zero_le _
  · obtain ⟨e2, h2, ⟨f, rfl, h5, -⟩, -⟩ := hw a 29 ka (by decide)
    exact h5

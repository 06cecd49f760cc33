section
variable {d : tw_D} {M : tw_M} {Q : tw_O → tw_H → Prop} {pc : Nat} {lv : List (Nat × Value)} {st : List Value} {h : tw_H} {c n : Nat}
theorem tw_throwSW {E tx : String} {ik is ic i : Nat} (hcls : Bundle.fit E = true) (hw1 : Cond.classLink M.1.cls ik E ∈ TW) (hw2 : Cond.initialized E ∈ TW) (hst : tw_strs[i]? = some (M.1.cls, is, tx))
    (hg1 : ∀ w ∈ vx_atS M.1.cls ic E ["java/lang/RuntimeException", "java/lang/Exception"], (goodWord w = true → w ∈ TW) ∧ (goodWord w = false → w ∈ tw_NG))
    (d0 : decode M.2.1 pc = .ok (.new ik, 3)) (d3 : decode M.2.1 (pc + 3) = .ok (.dup, 1)) (d4 : decode M.2.1 (pc + 4) = .ok (.ldc_w is, 3)) (d6 : decode M.2.1 (pc + 7) = .ok (.invokespecial ic, 3)) (d9 : decode M.2.1 (pc + 10) = .ok (.athrow, 1))
    (hR : 5 < M.2.2.2.2.1 ∧ (st.map fun v => v.category).sum + 82 ≤ M.2.2.2.2.2) (hc2 : 1 ≤ c) (hn2 : 6 ≤ n) (hq : Q (.inr E) h) : tw_W d M Q pc lv st h c n := by
  intro p l e R s m args below meth cd H locs ls cells slots X hl hh hS hc hn
  obtain ⟨hx, hb, hml, hr, hown, hts, hlocks, hname, hlt, hno, hRf, hRl, hK, hSt, hbase⟩ := id X
  have hgw : ∀ w ∈ vx_atS M.1.cls ic E ["java/lang/RuntimeException", "java/lang/Exception"], w.before args s = true ∧ vx_ot w = true := by
    intro w hw
    obtain ⟨g1, g2⟩ := hg1 w hw
    cases hgd : goodWord w with
    | true => exact ⟨hts _ (List.mem_cons_of_mem _ (g1 hgd)), by simp [vx_ot, hgd]⟩
    | false => exact ⟨va_Nw.use (tw_ngt (g2 hgd)) (hSt.1 _ (g2 hgd)), by simp [vx_ot, tw_ngt (g2 hgd)]⟩
  refine vx_throwSW (A := tw_A d) (names := ["java/lang/RuntimeException", "java/lang/Exception"]) hx hb hlt hown hcls (by decide +kernel) (hts _ (List.mem_cons_of_mem _ hw1)) (hts _ (List.mem_cons_of_mem _ hw2)) (hSt.2.1 i _ hst) (fun w hw => (hgw w hw).1) ?_ hSt.2.2.1 hSt.2.2.2.1 hS (by rw [hml]; exact hl.1) d0 d3 d4 d6 d9 (fun x z => (hno x z).elim) (by rw [hRf]; exact hR.1) (by rw [hRl]; have := hR.2; simp only [List.length_cons, List.length_nil]; omega) (by omega) (by omega) hlocks ?_ hS.2.2 (by omega) (by omega)
  · intro w hw
    rcases List.mem_cons.mp hw with rfl | hw
    · simp [vx_ot, TW_good hw1]
    · rcases List.mem_cons.mp hw with rfl | hw
      · simp [vx_ot, TW_good hw2]
      · exact (hgw w hw).2
  · intro t ht hz hk
    refine ⟨h, hq, ?_, ?_⟩
    · obtain ⟨ws, hP, hD, hw2⟩ := hh
      exact ⟨ws, hP.kept (fun k q hk9 => hk q.1 (hP k q hk9).lt), hD, hw2⟩
    · exact ⟨Nat.le_trans hS.1 hz, fun q h1 h2 => (hk q (Nat.lt_of_lt_of_le h1 hS.1)).trans (hS.2.1 q h1 h2)⟩
end
section
variable {d : tw_D} {M : tw_M} {Q : tw_O → tw_H → Prop} {pc : Nat} {lv : List (Nat × Value)} {st : List Value} {h : tw_H} {c n : Nat}
theorem tw_mmin {ix : Nat} {x y : Int32} (hd : decode M.2.1 pc = .ok (.invokestatic ix, 3)) (hw1 : Cond.methodLink M.1.cls ix Lib.Math.min.name ∈ TW) (hw2 : Cond.static Lib.Math.min.name ∈ TW) (hw3 : Cond.initialized "java/lang/Math" ∈ TW) (hw4 : Cond.code Lib.Math.min.name Lib.Math.min.code 2 (some .int) ∈ TW) (hR : 1 ≤ M.2.2.2.2.1 ∧ (st.map fun v => v.category).sum + 13 ≤ M.2.2.2.2.2) (kk : tw_W d M Q (pc + 3) lv (.int (if y < x then y else x) :: st) h c n) : tw_W d M Q pc lv (.int y :: .int x :: st) h c n := by
  intro p l e R s m args below meth cd H locs ls cells slots X hl hh hS hc hn
  obtain ⟨hx, hb, hml, hr, hown, hts, hlocks, hname, hlt, hno, hRf, hRl, hK, hSt, hbase⟩ := id X
  exact va_mmin hx hb (hml.trans hl.1.symm) hown (hts _ (List.mem_cons_of_mem _ hw1)) (hts _ (List.mem_cons_of_mem _ hw2)) (hts _ (List.mem_cons_of_mem _ hw3)) (hts _ (List.mem_cons_of_mem _ hw4)) (by rw [hRf]; exact hR.1) (by rw [hRl]; exact hR.2) (by omega) (by omega) hd (kk p l e R s m args below meth cd H locs ls cells slots X hl hh hS hc hn)
theorem tw_mmax {ix : Nat} {x y : Int32} (hd : decode M.2.1 pc = .ok (.invokestatic ix, 3)) (hw1 : Cond.methodLink M.1.cls ix Lib.Math.max.name ∈ TW) (hw2 : Cond.static Lib.Math.max.name ∈ TW) (hw3 : Cond.initialized "java/lang/Math" ∈ TW) (hw4 : Cond.code Lib.Math.max.name Lib.Math.max.code 2 (some .int) ∈ TW) (hR : 1 ≤ M.2.2.2.2.1 ∧ (st.map fun v => v.category).sum + 13 ≤ M.2.2.2.2.2) (kk : tw_W d M Q (pc + 3) lv (.int (if x < y then y else x) :: st) h c n) : tw_W d M Q pc lv (.int y :: .int x :: st) h c n := by
  intro p l e R s m args below meth cd H locs ls cells slots X hl hh hS hc hn
  obtain ⟨hx, hb, hml, hr, hown, hts, hlocks, hname, hlt, hno, hRf, hRl, hK, hSt, hbase⟩ := id X
  exact va_mmax hx hb (hml.trans hl.1.symm) hown (hts _ (List.mem_cons_of_mem _ hw1)) (hts _ (List.mem_cons_of_mem _ hw2)) (hts _ (List.mem_cons_of_mem _ hw3)) (hts _ (List.mem_cons_of_mem _ hw4)) (by rw [hRf]; exact hR.1) (by rw [hRl]; exact hR.2) (by omega) (by omega) hd (kk p l e R s m args below meth cd H locs ls cells slots X hl hh hS hc hn)
end

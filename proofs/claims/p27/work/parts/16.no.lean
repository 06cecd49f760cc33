/-- no kind yet that the lists' numbers matter to -/
def tw_no (τ : tw_K) : Prop := ∀ a, τ a < 22 ∨ 30 < τ a ∧ τ a < 36
theorem tw_no.ku {τ : tw_K} (h : tw_no τ) {a k : Nat} (hk : k < 22 ∨ 30 < k ∧ k < 36) : tw_no (tw_ku τ a k) := fun b => by
  unfold tw_ku
  by_cases q : b = a
  · rw [if_pos q]; exact hk
  · rw [if_neg q]; exact h b
theorem tw_no.d {k i : Nat} (h : k < 22 ∨ 30 < k ∧ k < 36) (hi : i ∈ tw_d2 k) : i = 0 ∨ i = 1 ∨ i = 2 ∨ i = 10 ∨ i = 21 ∨ 6 ≤ i ∧ i < 9 ∨ 18 ≤ i ∧ i < 21 := by
  unfold tw_d2 at hi
  split at hi <;> simp at hi <;> omega
theorem tw_no.d1 {k i : Nat} (h : k < 22 ∨ 30 < k ∧ k < 36) (hi : i ∈ tw_d1 k) : i = 0 := by
  unfold tw_d1 at hi
  split at hi <;> simp at hi <;> omega
theorem tw_sp.gch {d : tw_D} {g g1 : tw_G} {τ τ1 : tw_K} {h h1 : tw_H} (s : tw_sp d τ h g τ1 h1) (hn : tw_no τ1) (a : g1.1 0 = g.1 0) (b0 : g1.2 0 = g.2 0) (b1 : g1.2 1 = g.2 1) (b2 : g1.2 2 = g.2 2) (b3 : g1.2 10 = g.2 10) (b6 : g1.2 21 = g.2 21) (b4 : ∀ i, 6 ≤ i → i < 9 → g1.2 i = g.2 i) (b5 : ∀ i, 18 ≤ i → i < 21 → g1.2 i = g.2 i) (O : ∀ y b, τ1 y ≠ 0 → tw_ow g y b → tw_ow g1 y b ∧ ∀ i, i < 8 → g1.1 (b + i) = g.1 (b + i)) (R : ∀ q, τ1 q ≠ 0 → g1.2 (4096 + q) = g.2 (4096 + q)) : tw_sp d τ h g1 τ1 h1 := by
  refine ⟨fun b k hk h0 => ?_, s.2.1, s.2.2⟩
  obtain ⟨e, h2, h3⟩ := s.1 b k hk h0
  have hb := hn b
  rw [hk] at hb
  have hb0 : τ1 b ≠ 0 := by rw [hk]; exact h0
  refine ⟨e, h2, tw_sh_g (fun i hi => ?_) (fun i hi => ?_) (fun c o => O b c hb0 o) R hb0 h3⟩
  · rw [tw_no.d1 hb hi, a]
  · rcases tw_no.d hb hi with rfl | rfl | rfl | rfl | rfl | ⟨q1, q2⟩ | ⟨q1, q2⟩
    · exact b0
    · exact b1
    · exact b2
    · exact b3
    · exact b6
    · exact b4 i q1 q2
    · exact b5 i q1 q2

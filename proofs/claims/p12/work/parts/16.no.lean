/-- no kind yet that the lists' numbers matter to -/
def tw_no (τ : tw_K) : Prop := ∀ a, τ a < 22 ∨ 30 < τ a ∧ τ a < 36
theorem tw_no.ku {τ : tw_K} (h : tw_no τ) {a k : Nat} (hk : k < 22 ∨ 30 < k ∧ k < 36) : tw_no (tw_ku τ a k) := fun b => by
  unfold tw_ku
  by_cases q : b = a
  · rw [if_pos q]; exact hk
  · rw [if_neg q]; exact h b
theorem tw_sp.gch {d : tw_D} {g g1 : tw_G} {τ τ1 : tw_K} {h h1 : tw_H} (s : tw_sp d τ h g τ1 h1) (hn : tw_no τ1) (a : g1.1 0 = g.1 0) (b0 : g1.2 0 = g.2 0) (b1 : g1.2 1 = g.2 1) (b2 : g1.2 2 = g.2 2) (b3 : g1.2 10 = g.2 10) (b6 : g1.2 21 = g.2 21) (b4 : ∀ i, 6 ≤ i → i < 9 → g1.2 i = g.2 i) (b5 : ∀ i, 18 ≤ i → i < 21 → g1.2 i = g.2 i) : tw_sp d τ h g1 τ1 h1 := by
  refine ⟨fun b k hk h0 => ?_, s.2.1, s.2.2⟩
  obtain ⟨e, h2, h3⟩ := s.1 b k hk h0
  refine ⟨e, h2, ?_⟩
  have hb := hn b
  rw [hk] at hb
  unfold tw_sh at h3 ⊢
  split at h3 <;> first | exact h3 | (rw [a, b0, b1, b2, b3, b6]; exact h3) | (rw [b4 6 (by decide) (by decide), b5 18 (by decide) (by decide)]; exact h3) | (rw [b4 7 (by decide) (by decide), b5 19 (by decide) (by decide)]; exact h3) | (rw [b4 8 (by decide) (by decide), b5 20 (by decide) (by decide)]; exact h3) | (exfalso; omega)

/-! the class's methods over the typed heap. Laid by wip/p5/mkclass.py. -/
theorem tw_nsc {k v : Int32} {n : Nat} (z : ¬ (0 ≤ k ∧ k ≤ v)) (e : v = nI n - 1) (hn : n ≤ 10) : ¬ tw_ix n k := by
  rintro ⟨j, hj, rfl⟩
  obtain ⟨m, rfl⟩ : ∃ m, n = m + 1 := ⟨n - 1, by omega⟩
  rw [e, nI_pred] at z
  exact z ⟨nI_le (a := 0) (Nat.zero_le _) (by omega), nI_le (by omega) (by omega)⟩
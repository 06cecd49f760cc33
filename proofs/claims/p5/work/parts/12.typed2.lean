/-! small facts for walks over the typed heap -/
theorem tw_up_up {h : tw_H} {a : Nat} {e f : va_E} : tw_up (tw_up h a e) a f = tw_up h a f := by
  funext q
  unfold tw_up
  by_cases z : q = a <;> simp [z]
theorem tw_sp.wl {d : tw_D} {g1 : tw_G} {τ τ1 : tw_K} {h h1 : tw_H} (s : tw_sp d τ h g1 τ1 h1) {a : Nat} {e : va_E} (hn : h a = none) (hz : τ1 a = 0) : tw_sp d τ h g1 τ1 (tw_up h1 a e) :=
  ⟨s.1.loc hz, s.2.1, fun b e2 hb hb0 => ⟨by rw [tw_up_n (fun q => by rw [q, hn] at hb; cases hb)]; exact (s.2.2 b e2 hb hb0).1, (s.2.2 b e2 hb hb0).2⟩⟩
theorem tw_sp.nn {d : tw_D} {g1 : tw_G} {τ τ1 : tw_K} {h h1 : tw_H} (s : tw_sp d τ h g1 τ1 h1) {a : Nat} (hn : h1 a = none) : h a = none := by
  cases hh : h a with
  | none => rfl
  | some e =>
    by_cases q : τ a = 0
    · have := (s.2.2 a e hh q).1
      rw [hn] at this
      cases this
    · obtain ⟨e2, h2, -⟩ := s.1 a _ rfl (by rw [s.2.1 a q]; exact q)
      rw [hn] at h2
      cases h2
theorem tw_ib2 {x : Int32} {N : Nat} (h1 : ¬ x < 0) (h2 : ¬ nI N ≤ x) (hN : N < 2 ^ 31) : vp_in x N := by
  obtain ⟨j, hj, rfl⟩ := nI_of h1
  have : j < N := by
    rcases Nat.lt_or_ge j N with q | q
    · exact q
    · exact absurd (nI_le q hj) h2
  exact vp_in_nI this hN
theorem tw_ib3 {x : Int32} {N : Nat} (h1 : 0 ≤ x) (h2 : ¬ nI N ≤ x) (hN : N < 2 ^ 31) : vp_in x N := tw_ib2 (Int32.not_lt.mpr h1) h2 hN
theorem tw_in01 {x : Int32} {N : Nat} (h : x = 0 ∨ x = 1) (hN : 2 ≤ N) : vp_in x N := by
  rcases h with rfl | rfl
  · exact fun q => by
      rcases q with q | q
      · exact absurd q (by decide)
      · have : (0 : Int32).toNatClampNeg = 0 := by decide
        omega
  · exact fun q => by
      rcases q with q | q
      · exact absurd q (by decide)
      · have : (1 : Int32).toNatClampNeg = 1 := by decide
        omega
theorem tw_inlt {x : Int32} {N : Nat} (h : vp_in x N) : x.toNatClampNeg < N := Nat.not_le.mp fun q => h (Or.inr q)
theorem tw_nar01 {x : Int32} (h : tw_01 x) : narrow .boolean (.int x) = .int x := by
  rcases h with rfl | rfl <;> rfl
theorem tw_vp01 {x : Int32} (h : tw_01 x) : tw_01 (vp_nar .boolean x) := by
  rcases h with rfl | rfl <;> (unfold tw_01; decide)
theorem tw_01up {f : Nat → Int32} {k : Nat} {x : Int32} (hf : ∀ j, tw_01 (f j)) (hx : tw_01 x) : ∀ j, tw_01 (upd f k x j) := by
  intro j
  unfold upd
  by_cases q : j = k
  · rw [if_pos q]; exact hx
  · rw [if_neg q]; exact hf j
theorem tw_okup {f : Nat → Option Nat} {τ : tw_K} {k b n : Nat} (hf : ∀ j q, f j = some q → τ q = k) (hb : τ b = k) : ∀ j q, va_up f n (some b) j = some q → τ q = k := by
  intro j q hq
  unfold va_up at hq
  by_cases z : j = n
  · rw [if_pos z] at hq; cases hq; exact hb
  · rw [if_neg z] at hq; exact hf j q hq
def tw_IAE : String := "java/lang/IllegalArgumentException"
def tw_ISE : String := "java/lang/IllegalStateException"
def tw_IOE : String := "java/lang/IndexOutOfBoundsException"
theorem tw_klt {k N : Nat} (c : ¬ nI N ≤ nI k) (hk : k ≤ N) (hN : N < 2 ^ 31) : k < N := by
  rcases Nat.lt_or_ge k N with q | q
  · exact q
  · exact absurd (nI_le q (by omega)) c
theorem tw_mdn {x y : Int32} {r : Nat} (e : y = x + (-1)) (c : ¬ x < 0) (h : (x.toInt + 1).toNat < r + 1) : (y.toInt + 1).toNat < r := by
  obtain ⟨j, hj, rfl⟩ := nI_of c
  rw [nI_toInt hj] at h
  cases j with
  | zero =>
    have : y.toInt = -1 := by rw [e]; decide
    omega
  | succ j =>
    rw [e, pk_m1, nI_toInt (by omega)]
    omega
theorem tw_mup {x y N : Int32} {r : Nat} (e : y = x + 1) (c : ¬ N ≤ x) (h : (N.toInt - x.toInt).toNat < r + 1) : (N.toInt - y.toInt).toNat < r := by
  have h1 : x.toInt < N.toInt := Int32.lt_iff_toInt_lt.mp (Int32.not_le.mp c)
  have h2 : y.toInt = x.toInt + 1 := by
    rw [e, Int32.toInt_add, show (1 : Int32).toInt = 1 by decide]
    have a : -2147483648 ≤ x.toInt := (show Int32.minValue.toInt = -2147483648 by decide) ▸ x.minValue_le_toInt
    have b := N.toInt_lt
    apply Int.bmod_eq_of_le_mul_two <;> omega
  omega
theorem tw_nI3 {k : Nat} {x : Int32} (e : x = nI k + 1) : x = nI (k + 1) := by rw [e]; exact nI_1 k

/-! small facts for walks over the typed heap -/
theorem tw_up_up {h : tw_H} {a : Nat} {e f : va_E} : tw_up (tw_up h a e) a f = tw_up h a f := by
  funext q
  unfold tw_up
  by_cases z : q = a <;> simp [z]
theorem tw_sp.wl {d : tw_D} {g1 : tw_G} {τ τ1 : tw_K} {h h1 : tw_H} (s : tw_sp d τ h g1 τ1 h1) {a : Nat} {e : va_E} (hn : h a = none) (hz : τ1 a = 0) : tw_sp d τ h g1 τ1 (tw_up h1 a e) :=
  ⟨s.1.loc hz, s.2.1, fun b e2 hb hb0 => ⟨by rw [tw_up_n (fun q => by rw [q, hn] at hb; cases hb)]; exact (s.2.2 b e2 hb hb0).1, (s.2.2 b e2 hb hb0).2⟩⟩
theorem tw_sp.nn {d : tw_D} {g1 : tw_G} {τ τ1 : tw_K} {h h1 : tw_H} (s : tw_sp d τ h g1 τ1 h1) {a : Nat} (hn : h1 a = none) : h a = none := by
  cases hh : h a with
  | none => rfl
  | some e =>
    by_cases q : τ a = 0
    · have := (s.2.2 a e hh q).1
      rw [hn] at this
      cases this
    · obtain ⟨e2, h2, -⟩ := s.1 a _ rfl (by rw [s.2.1 a q]; exact q)
      rw [hn] at h2
      cases h2
theorem tw_ib2 {x : Int32} {N : Nat} (h1 : ¬ x < 0) (h2 : ¬ nI N ≤ x) (hN : N < 2 ^ 31) : vp_in x N := by
  obtain ⟨j, hj, rfl⟩ := nI_of h1
  have : j < N := by
    rcases Nat.lt_or_ge j N with q | q
    · exact q
    · exact absurd (nI_le q hj) h2
  exact vp_in_nI this hN
theorem tw_ib3 {x : Int32} {N : Nat} (h1 : 0 ≤ x) (h2 : ¬ nI N ≤ x) (hN : N < 2 ^ 31) : vp_in x N := tw_ib2 (Int32.not_lt.mpr h1) h2 hN
theorem tw_in01 {x : Int32} {N : Nat} (h : x = 0 ∨ x = 1) (hN : 2 ≤ N) : vp_in x N := by
  rcases h with rfl | rfl
  · exact fun q => by
      rcases q with q | q
      · exact absurd q (by decide)
      · have : (0 : Int32).toNatClampNeg = 0 := by decide
        omega
  · exact fun q => by
      rcases q with q | q
      · exact absurd q (by decide)
      · have : (1 : Int32).toNatClampNeg = 1 := by decide
        omega
theorem tw_inlt {x : Int32} {N : Nat} (h : vp_in x N) : x.toNatClampNeg < N := Nat.not_le.mp fun q => h (Or.inr q)
theorem tw_nar01 {x : Int32} (h : tw_01 x) : narrow .boolean (.int x) = .int x := by
  rcases h with rfl | rfl <;> rfl
theorem tw_vp01 {x : Int32} (h : tw_01 x) : tw_01 (vp_nar .boolean x) := by
  rcases h with rfl | rfl <;> (unfold tw_01; decide)
theorem tw_01up {f : Nat → Int32} {k : Nat} {x : Int32} (hf : ∀ j, tw_01 (f j)) (hx : tw_01 x) : ∀ j, tw_01 (upd f k x j) := by
  intro j
  unfold upd
  by_cases q : j = k
  · rw [if_pos q]; exact hx
  · rw [if_neg q]; exact hf j
theorem tw_okup {f : Nat → Option Nat} {τ : tw_K} {k b n : Nat} (hf : ∀ j q, f j = some q → τ q = k) (hb : τ b = k) : ∀ j q, va_up f n (some b) j = some q → τ q = k := by
  intro j q hq
  unfold va_up at hq
  by_cases z : j = n
  · rw [if_pos z] at hq; cases hq; exact hb
  · rw [if_neg z] at hq; exact hf j q hq
def tw_IAE : String := "java/lang/IllegalArgumentException"
def tw_ISE : String := "java/lang/IllegalStateException"
def tw_IOE : String := "java/lang/IndexOutOfBoundsException"
theorem tw_klt {k N : Nat} (c : ¬ nI N ≤ nI k) (hk : k ≤ N) (hN : N < 2 ^ 31) : k < N := by
  rcases Nat.lt_or_ge k N with q | q
  · exact q
  · exact absurd (nI_le q (by omega)) c
theorem tw_mdn {x y : Int32} {r : Nat} (e : y = x + (-1)) (c : ¬ x < 0) (h : (x.toInt + 1).toNat < r + 1) : (y.toInt + 1).toNat < r := by
  obtain ⟨j, hj, rfl⟩ := nI_of c
  rw [nI_toInt hj] at h
  cases j with
  | zero =>
    have : y.toInt = -1 := by rw [e]; decide
    omega
  | succ j =>
    rw [e, pk_m1, nI_toInt (by omega)]
    omega
theorem tw_mup {x y N : Int32} {r : Nat} (e : y = x + 1) (c : ¬ N ≤ x) (h : (N.toInt - x.toInt).toNat < r + 1) : (N.toInt - y.toInt).toNat < r := by
  have h1 : x.toInt < N.toInt := Int32.lt_iff_toInt_lt.mp (Int32.not_le.mp c)
  have h2 : y.toInt = x.toInt + 1 := by
    rw [e, Int32.toInt_add, show (1 : Int32).toInt = 1 by decide]
    have a : -2147483648 ≤ x.toInt := (show Int32.minValue.toInt = -2147483648 by decide) ▸ x.minValue_le_toInt
    have b := N.toInt_lt
    apply Int.bmod_eq_of_le_mul_two <;> omega
  omega
theorem tw_nI3 {k : Nat} {x : Int32} (e : x = nI k + 1) : x = nI (k + 1) := by rw [e]; exact nI_1 k
/-- the world without one thing -/
def tw_rm (h : tw_H) (x : Nat) : tw_H := fun b => if b = x then none else h b
theorem tw_rm_s {h : tw_H} {x : Nat} : tw_rm h x x = none := if_pos rfl
theorem tw_sp.rm {d : tw_D} {g : tw_G} {τ : tw_K} {h : tw_H} (hw : tw_wt d g τ h) (x : Nat) : tw_sp d τ (tw_rm h x) g τ h :=
  ⟨hw, tw_le.rf, fun b e hb h0 => ⟨by unfold tw_rm at hb; by_cases q : b = x; (rw [if_pos q] at hb; cases hb); (rw [if_neg q] at hb; exact hb), h0⟩⟩
/-- a constructor's work: x becomes a thing of kind k -/
def tw_ini (d : tw_D) (g : tw_G) (τ : tw_K) (h : tw_H) (x k : Nat) (τ1 : tw_K) (h1 : tw_H) : Prop := tw_wt d g τ1 h1 ∧ tw_le τ τ1 ∧ τ1 x = k ∧ ∀ b e, b ≠ x → h b = some e → τ b = 0 → h1 b = some e ∧ τ1 b = 0
theorem tw_sp.toini {d : tw_D} {g : tw_G} {τ τ1 : tw_K} {h h1 : tw_H} {x k : Nat} (s : tw_sp d τ (tw_rm h x) g τ1 h1) (hk : τ1 x = k) : tw_ini d g τ h x k τ1 h1 :=
  ⟨s.1, s.2.1, hk, fun b e hb h9 h0 => s.2.2 b e (by unfold tw_rm; rw [if_neg hb]; exact h9) h0⟩
theorem tw_sp.ini {d : tw_D} {g0 g : tw_G} {τ0 τ τ1 : tw_K} {h0 h h1 : tw_H} {x k : Nat} (s : tw_sp d τ0 h0 g0 τ h) (hn : h0 x = none) (i : tw_ini d g τ h x k τ1 h1) : tw_sp d τ0 h0 g τ1 h1 :=
  ⟨i.1, s.2.1.tr i.2.1, fun b e hb hb0 => i.2.2.2 b e (fun q => by rw [q, hn] at hb; cases hb) (s.2.2 b e hb hb0).1 (s.2.2 b e hb hb0).2⟩
theorem tw_ku_s {τ : tw_K} {a k : Nat} : tw_ku τ a k a = k := if_pos rfl
theorem tw_ku_n {τ : tw_K} {a b k : Nat} (n : b ≠ a) : tw_ku τ a k b = τ b := if_neg n
theorem tw_nzl {r : Int32} {v : Int64} (e : v = r.toInt64) (c : 1 ≤ r) : ¬ v = 0 := by
  intro q
  rw [q] at e
  have h1 : (0 : Int64).toInt = r.toInt := by rw [e, Int32.toInt_toInt64]
  have h2 := Int32.le_iff_toInt_le.mp c
  rw [show (0 : Int64).toInt = 0 by decide] at h1
  rw [show (1 : Int32).toInt = 1 by decide] at h2
  omega
theorem tw_d1_0 {k : Nat} (h : 0 ∈ tw_d1 k) : k = 11 := by
  unfold tw_d1 at h
  split at h <;> simp at h <;> rfl
theorem tw_d2_11 {k i : Nat} (n : k ≠ 11) (h : i ∈ tw_d2 k) : 3 ≤ i ∧ i ≠ 21 := by
  unfold tw_d2 at h
  split at h <;> simp at h <;> first | omega | exact absurd rfl n
/-- what kind 11 alone sees is changed, with its one cell -/
theorem tw_wt.g11 {d : tw_D} {g g2 : tw_G} {τ : tw_K} {h : tw_H} (hw : tw_wt d g τ h) {x : Nat} {e : va_E} (hx : τ x = 11) (hs : tw_sh d g2 τ x 11 e) (h1 : ∀ i, i ≠ 0 → g2.1 i = g.1 i) (h2 : ∀ i, 3 ≤ i → i ≠ 21 → g2.2 i = g.2 i) : tw_wt d g2 τ (tw_up h x e) := by
  intro b j hj h0
  by_cases q : b = x
  · subst q
    rw [hx] at hj
    subst hj
    exact ⟨e, tw_up_s, hs⟩
  · obtain ⟨e2, h3, h4⟩ := hw b j hj h0
    refine ⟨e2, by rw [tw_up_n q]; exact h3, ?_⟩
    by_cases q11 : j = 11
    · subst q11
      obtain ⟨_, _, _, _, _, _, _, _, _, _, _, _, _, _, _, _, _, _, _, hb, _⟩ := h4
      obtain ⟨_, _, _, _, _, _, _, _, _, _, _, _, _, _, _, _, _, _, _, hx2, _⟩ := hs
      exact absurd (by rw [hb, hx2, h2 10 (by decide) (by decide)]) q
    · exact tw_sh_hi ⟨fun i hi => h1 i (by omega), fun i hi => h2 i (by omega) (by omega), h2 24 (by decide) (by decide), h2 9 (by decide) (by decide)⟩ (fun i hi => h1 i (fun q => q11 (tw_d1_0 (q ▸ hi)))) (fun i hi => h2 i (tw_d2_11 q11 hi).1 (tw_d2_11 q11 hi).2) (by rw [hj]; exact h0) h4
def tw_g1 (g : tw_G) (i : Nat) (v : Int32) : tw_G := (fun j => if j = i then v else g.1 j, g.2)
def tw_g2 (g : tw_G) (i : Nat) (v : Nat) : tw_G := (g.1, fun j => if j = i then v else g.2 j)
/-- one number counts on, the rest stays -/
def tw_gr (g g2 : tw_G) : Prop := g2.1 = g.1 ∧ ∀ i, 3 ≤ i → g2.2 i = g.2 i
theorem tw_gr.rf {g : tw_G} : tw_gr g g := ⟨rfl, fun _ _ => rfl⟩
theorem tw_sp.g11 {d : tw_D} {g g2 : tw_G} {τ τ1 : tw_K} {h h1 : tw_H} (s : tw_sp d τ h g τ1 h1) {x : Nat} {e : va_E} (hx : τ1 x = 11) (hs : tw_sh d g2 τ1 x 11 e) (e1 : ∀ i, i ≠ 0 → g2.1 i = g.1 i) (e2 : ∀ i, 3 ≤ i → i ≠ 21 → g2.2 i = g.2 i) : tw_sp d τ h g2 τ1 (tw_up h1 x e) :=
  ⟨s.1.g11 hx hs e1 e2, s.2.1, fun b f hb hb0 => ⟨by rw [tw_up_n (fun q => by have z := (s.2.2 b f hb hb0).2; rw [q, hx] at z; cases z)]; exact (s.2.2 b f hb hb0).1, (s.2.2 b f hb hb0).2⟩⟩
theorem tw_fit01 {x : Int32} (h : tw_01 x) : fits .boolean (.int x) = true := by
  rcases h with rfl | rfl <;> rfl
theorem tw_klt2 {k N : Nat} (c : nI k < nI N) (hk : k ≤ N) (hN : N < 2 ^ 31) : k < N := (nI_ltI (by omega) hN).mp c
theorem tw_mle {x y : Int32} {r : Nat} (e : y = x + 1) (c : ¬ 3000 < x) (h : (3001 - x.toInt).toNat < r + 1) : (3001 - y.toInt).toNat < r := by
  have h1 : x.toInt ≤ 3000 := by
    have := Int32.le_iff_toInt_le.mp (Int32.not_lt.mp c)
    rwa [show (3000 : Int32).toInt = 3000 by decide] at this
  have h2 : y.toInt = x.toInt + 1 := by
    rw [e, Int32.toInt_add, show (1 : Int32).toInt = 1 by decide]
    have a : -2147483648 ≤ x.toInt := (show Int32.minValue.toInt = -2147483648 by decide) ▸ x.minValue_le_toInt
    apply Int.bmod_eq_of_le_mul_two <;> omega
  omega
theorem tw_sp.trm {d : tw_D} {g1 g2 : tw_G} {τ τ1 τ2 : tw_K} {h h1 h2 : tw_H} {x : Nat} (s1 : tw_sp d τ h g1 τ1 h1) (hn : h x = none) (s2 : tw_sp d τ1 (tw_rm h1 x) g2 τ2 h2) : tw_sp d τ h g2 τ2 h2 :=
  ⟨s2.1, s1.2.1.tr s2.2.1, fun a e ha h0 => s2.2.2 a e (by unfold tw_rm; rw [if_neg (fun q => by rw [q, hn] at ha; cases ha)]; exact (s1.2.2 a e ha h0).1) (s1.2.2 a e ha h0).2⟩
/-- what kind 8 alone sees is changed, with its one cell -/
theorem tw_d2_8 {k i : Nat} (n : k ≠ 8) (h : i ∈ tw_d2 k) : i ≠ 6 := by
  unfold tw_d2 at h
  split at h <;> simp at h <;> first | omega | exact absurd rfl n
theorem tw_sp.g8 {d : tw_D} {g g2 : tw_G} {τ τ1 : tw_K} {h h1 : tw_H} (s : tw_sp d τ h g τ1 h1) {x : Nat} {e : va_E} (hx : τ1 x = 8) (hs : tw_sh d g2 τ1 x 8 e) (e1 : g2.1 = g.1) (e2 : ∀ i, i ≠ 6 → g2.2 i = g.2 i) : tw_sp d τ h g2 τ1 (tw_up h1 x e) := by
  refine ⟨fun b j hj h0 => ?_, s.2.1, fun b f hb hb0 => ⟨by rw [tw_up_n (fun q => by have z := (s.2.2 b f hb hb0).2; rw [q, hx] at z; cases z)]; exact (s.2.2 b f hb hb0).1, (s.2.2 b f hb hb0).2⟩⟩
  by_cases q : b = x
  · subst q
    rw [hx] at hj
    subst hj
    exact ⟨e, tw_up_s, hs⟩
  · obtain ⟨e2', h3, h4⟩ := s.1 b j hj h0
    refine ⟨e2', by rw [tw_up_n q]; exact h3, ?_⟩
    by_cases qk : j = 8
    · subst qk
      obtain ⟨_, _, _, _, _, hb, _⟩ := h4
      obtain ⟨_, _, _, _, _, hx2, _⟩ := hs
      exact absurd (by rw [hb, hx2, e2 18 (by decide)]) q
    · have H : tw_hi g g2 := ⟨fun i _ => by rw [e1], fun i hi => e2 i (by omega), e2 24 (by decide), e2 9 (by decide)⟩
      exact tw_sh_hi H (fun i _ => by rw [e1]) (fun i hi => e2 i (tw_d2_8 qk hi)) (by rw [hj]; exact h0) h4
/-- what kind 9 alone sees is changed, with its one cell -/
theorem tw_d2_9 {k i : Nat} (n : k ≠ 9) (h : i ∈ tw_d2 k) : i ≠ 7 := by
  unfold tw_d2 at h
  split at h <;> simp at h <;> first | omega | exact absurd rfl n
theorem tw_sp.g9 {d : tw_D} {g g2 : tw_G} {τ τ1 : tw_K} {h h1 : tw_H} (s : tw_sp d τ h g τ1 h1) {x : Nat} {e : va_E} (hx : τ1 x = 9) (hs : tw_sh d g2 τ1 x 9 e) (e1 : g2.1 = g.1) (e2 : ∀ i, i ≠ 7 → g2.2 i = g.2 i) : tw_sp d τ h g2 τ1 (tw_up h1 x e) := by
  refine ⟨fun b j hj h0 => ?_, s.2.1, fun b f hb hb0 => ⟨by rw [tw_up_n (fun q => by have z := (s.2.2 b f hb hb0).2; rw [q, hx] at z; cases z)]; exact (s.2.2 b f hb hb0).1, (s.2.2 b f hb hb0).2⟩⟩
  by_cases q : b = x
  · subst q
    rw [hx] at hj
    subst hj
    exact ⟨e, tw_up_s, hs⟩
  · obtain ⟨e2', h3, h4⟩ := s.1 b j hj h0
    refine ⟨e2', by rw [tw_up_n q]; exact h3, ?_⟩
    by_cases qk : j = 9
    · subst qk
      obtain ⟨_, _, _, _, _, hb⟩ := h4
      obtain ⟨_, _, _, _, _, hx2⟩ := hs
      exact absurd (by rw [hb, hx2, e2 19 (by decide)]) q
    · have H : tw_hi g g2 := ⟨fun i _ => by rw [e1], fun i hi => e2 i (by omega), e2 24 (by decide), e2 9 (by decide)⟩
      exact tw_sh_hi H (fun i _ => by rw [e1]) (fun i hi => e2 i (tw_d2_9 qk hi)) (by rw [hj]; exact h0) h4
/-- what kind 10 alone sees is changed, with its one cell -/
theorem tw_d2_10 {k i : Nat} (n : k ≠ 10) (h : i ∈ tw_d2 k) : i ≠ 8 := by
  unfold tw_d2 at h
  split at h <;> simp at h <;> first | omega | exact absurd rfl n
theorem tw_sp.g10 {d : tw_D} {g g2 : tw_G} {τ τ1 : tw_K} {h h1 : tw_H} (s : tw_sp d τ h g τ1 h1) {x : Nat} {e : va_E} (hx : τ1 x = 10) (hs : tw_sh d g2 τ1 x 10 e) (e1 : g2.1 = g.1) (e2 : ∀ i, i ≠ 8 → g2.2 i = g.2 i) : tw_sp d τ h g2 τ1 (tw_up h1 x e) := by
  refine ⟨fun b j hj h0 => ?_, s.2.1, fun b f hb hb0 => ⟨by rw [tw_up_n (fun q => by have z := (s.2.2 b f hb hb0).2; rw [q, hx] at z; cases z)]; exact (s.2.2 b f hb hb0).1, (s.2.2 b f hb hb0).2⟩⟩
  by_cases q : b = x
  · subst q
    rw [hx] at hj
    subst hj
    exact ⟨e, tw_up_s, hs⟩
  · obtain ⟨e2', h3, h4⟩ := s.1 b j hj h0
    refine ⟨e2', by rw [tw_up_n q]; exact h3, ?_⟩
    by_cases qk : j = 10
    · subst qk
      obtain ⟨_, _, _, _, _, hb⟩ := h4
      obtain ⟨_, _, _, _, _, hx2⟩ := hs
      exact absurd (by rw [hb, hx2, e2 20 (by decide)]) q
    · have H : tw_hi g g2 := ⟨fun i _ => by rw [e1], fun i hi => e2 i (by omega), e2 24 (by decide), e2 9 (by decide)⟩
      exact tw_sh_hi H (fun i _ => by rw [e1]) (fun i hi => e2 i (tw_d2_10 qk hi)) (by rw [hj]; exact h0) h4
/-- the owner of a block writes: the block's numbers with its cell -/
theorem tw_sp.wb {d : tw_D} {g g2 : tw_G} {τ τ1 : tw_K} {h h1 : tw_H} {x k b : Nat} {e : va_E} (s : tw_sp d τ h g τ1 h1) (hx : τ1 x = k) (h0 : k ≠ 0) (ow : tw_ow g x b) (hs : tw_sh d g2 τ1 x k e) (e1 : ∀ i, i < b ∨ b + 8 ≤ i → g2.1 i = g.1 i) (e2 : g2.2 = g.2) : tw_sp d τ h g2 τ1 (tw_up h1 x e) := by
  have hb := ow.1
  refine ⟨fun y j hj j0 => ?_, s.2.1, fun y f hy hy0 => ⟨by rw [tw_up_n (fun q => by have z := (s.2.2 y f hy hy0).2; rw [q, hx] at z; exact h0 z)]; exact (s.2.2 y f hy hy0).1, (s.2.2 y f hy hy0).2⟩⟩
  by_cases q : y = x
  · subst q
    rw [hx] at hj
    subst hj
    exact ⟨e, tw_up_s, hs⟩
  · obtain ⟨e3, h3, h4⟩ := s.1 y j hj j0
    refine ⟨e3, by rw [tw_up_n q]; exact h3, tw_sh_g (fun i hi => e1 i (Or.inl (by have := tw_d1_lt hi; omega))) (fun i _ => by rw [e2]) (fun b2 o => ⟨?_, fun i hi => e1 _ ?_⟩) (fun _ _ => by rw [e2]) (by rw [hj]; exact j0) h4⟩
    · obtain ⟨o1, o2, o3, o4, o5⟩ := o
      unfold tw_ow tw_al
      rw [e2]
      exact ⟨o1, o2, o3, o4, o5⟩
    · have n : b ≠ b2 := fun z => q (by rw [o.2.2.2.1, ← z, ← ow.2.2.2.1])
      have m1 := ow.2.1
      have m2 := o.2.1
      omega
theorem tw_g1_ne {g : tw_G} {i j : Nat} {v : Int32} (n : j ≠ i) : (tw_g1 g i v).1 j = g.1 j := if_neg n
theorem tw_g2_ne {g : tw_G} {i j v : Nat} (n : j ≠ i) : (tw_g2 g i v).2 j = g.2 j := if_neg n
theorem tw_g1_eq {g : tw_G} {i : Nat} {v : Int32} : (tw_g1 g i v).1 i = v := if_pos rfl
theorem tw_f6.up {g : tw_G} {x N b k : Nat} {f : Nat → Int32} {v : Int32} (o : tw_ow g x b) (w : ∀ i, i < N → f i = g.1 (b + i)) : tw_f6 (tw_g1 g (b + k) v) x N (upd f k v) := by
  refine ⟨b, o, fun i hi => ?_⟩
  unfold upd
  by_cases q : i = k
  · rw [if_pos q, q]; exact tw_g1_eq.symm
  · rw [if_neg q, tw_g1_ne (by omega)]; exact w i hi
theorem tw_ow.b {g : tw_G} {x b b2 : Nat} (o : tw_ow g x b) (h : g.2 (4096 + x) = b2) : b = b2 := o.2.2.2.2.symm.trans h
/-! the class makes a country; the reference makes its rows and a country: the numbers of the new blocks. -/
def tw_gC (g : tw_G) (b x rd rf t m : Nat) (r c : Int32) : tw_G :=
  (fun i => if i = b then r else if i = b + 1 then c else if i = b + 2 ∨ i = b + 3 then 1 else if b + 8 ≤ i ∧ i < b + 12 then 3 else if b + 16 ≤ i ∧ i < b + 20 then 10 else if b + 32 ≤ i ∧ i < b + 37 then 0 else g.1 i,
   fun i => if i = 24 then b + 64 else if i = b then x else if i = b + 8 then rd else if i = b + 16 then rf else if i = b + 32 then m else if i = 4096 + x then b else if i = 4096 + rd then b + 8 else if i = 4096 + rf then b + 16 else if i = 4096 + m then b + 32 else if i = 4096 + t then b + 32 else g.2 i)
theorem tw_gC_1 {g : tw_G} {b x rd rf t m i : Nat} {r c : Int32} (h : i < b ∨ b + 40 ≤ i) : (tw_gC g b x rd rf t m r c).1 i = g.1 i := by
  unfold tw_gC
  dsimp only
  rw [if_neg (by omega), if_neg (by omega), if_neg (by omega), if_neg (by omega), if_neg (by omega), if_neg (by omega)]
theorem tw_gC_2 {g : tw_G} {b x rd rf t m i : Nat} {r c : Int32} (h0 : i ≠ 24) (h : i < b ∨ b + 40 ≤ i) (h2 : i < 4096 ∨ i ≠ 4096 + x ∧ i ≠ 4096 + rd ∧ i ≠ 4096 + rf ∧ i ≠ 4096 + m ∧ i ≠ 4096 + t) : (tw_gC g b x rd rf t m r c).2 i = g.2 i := by
  unfold tw_gC
  dsimp only
  rw [if_neg h0, if_neg (by omega), if_neg (by omega), if_neg (by omega), if_neg (by omega), if_neg (by omega), if_neg (by omega), if_neg (by omega), if_neg (by omega), if_neg (by omega)]
theorem tw_gC_w {g : tw_G} {τ : tw_K} {b j x rd rf t m : Nat} {r c : Int32} (hb : b = 160 + 64 * j) (hj : j < 4) (h24 : g.2 24 = b) (zx : τ x = 0) (zd : τ rd = 0) (zf : τ rf = 0) (zt : τ t = 0) (zm : τ m = 0) : tw_gw2 τ g (tw_gC g b x rd rf t m r c) := by
  refine ⟨fun i hi => tw_gC_1 (by omega), fun i hi _ h => tw_gC_2 h (by omega) (by omega), ?_, ?_⟩
  · rintro y b2 hy ⟨o1, o2, o3, o4, o5⟩
    have ny : y ≠ x ∧ y ≠ rd ∧ y ≠ rf ∧ y ≠ m ∧ y ≠ t := ⟨fun q => hy (by rw [q]; exact zx), fun q => hy (by rw [q]; exact zd), fun q => hy (by rw [q]; exact zf), fun q => hy (by rw [q]; exact zm), fun q => hy (by rw [q]; exact zt)⟩
    unfold tw_al at o3
    have h9 : (tw_gC g b x rd rf t m r c).2 9 = g.2 9 := tw_gC_2 (by decide) (by omega) (by omega)
    have h25 : (tw_gC g b x rd rf t m r c).2 24 = b + 64 := rfl
    refine ⟨⟨o1, o2, ?_, ?_, ?_⟩, fun i hi => tw_gC_1 (by omega)⟩
    · unfold tw_al
      rw [h9, h25]
      omega
    · rw [tw_gC_2 (by omega) (by omega) (by omega)]; exact o4
    · rw [tw_gC_2 (by omega) (by omega) (by omega)]; exact o5
  · intro q hq
    have ny : q ≠ x ∧ q ≠ rd ∧ q ≠ rf ∧ q ≠ m ∧ q ≠ t := ⟨fun z => hq (by rw [z]; exact zx), fun z => hq (by rw [z]; exact zd), fun z => hq (by rw [z]; exact zf), fun z => hq (by rw [z]; exact zm), fun z => hq (by rw [z]; exact zt)⟩
    exact tw_gC_2 (by omega) (by omega) (by omega)
theorem tw_gC_o {g : tw_G} {b j x rd rf t m : Nat} {r c : Int32} (hb : b = 160 + 64 * j) (hj : j < 4) (n1 : x ≠ rd) (n2 : x ≠ rf) (n3 : rd ≠ rf) : tw_ow (tw_gC g b x rd rf t m r c) x b ∧ tw_ow (tw_gC g b x rd rf t m r c) rd (b + 8) ∧ tw_ow (tw_gC g b x rd rf t m r c) rf (b + 16) := by
  have h25 : (tw_gC g b x rd rf t m r c).2 24 = b + 64 := rfl
  have a : ∀ b2, b2 + 8 ≤ b + 64 → tw_al (tw_gC g b x rd rf t m r c) b2 := fun b2 h => Or.inl ⟨by omega, by rw [h25]; omega⟩
  refine ⟨⟨by omega, by omega, a _ (by omega), ?_, ?_⟩, ⟨by omega, by omega, a _ (by omega), ?_, ?_⟩, ⟨by omega, by omega, a _ (by omega), ?_, ?_⟩⟩ <;> unfold tw_gC <;> dsimp only
  · rw [if_neg (by omega), if_pos rfl]
  · rw [if_neg (by omega), if_neg (by omega), if_neg (by omega), if_neg (by omega), if_neg (by omega), if_pos rfl]
  · rw [if_neg (by omega), if_neg (by omega), if_pos rfl]
  · rw [if_neg (by omega), if_neg (by omega), if_neg (by omega), if_neg (by omega), if_neg (by omega), if_neg (by omega), if_pos rfl]
  · rw [if_neg (by omega), if_neg (by omega), if_neg (by omega), if_pos rfl]
  · rw [if_neg (by omega), if_neg (by omega), if_neg (by omega), if_neg (by omega), if_neg (by omega), if_neg (by omega), if_neg (by omega), if_pos rfl]
theorem tw_gC_v5 {g : tw_G} {b x rd rf t m : Nat} {r c : Int32} (k : Nat) (hk : k < 5) : (tw_gC g b x rd rf t m r c).1 (b + 32 + k) = 0 := by
  unfold tw_gC
  dsimp only
  rw [if_neg (by omega), if_neg (by omega), if_neg (by omega), if_neg (by omega), if_neg (by omega), if_pos (by omega)]
theorem tw_gC_t {g : tw_G} {b j x rd rf t m : Nat} {r c : Int32} (hb : b = 160 + 64 * j) (hj : j < 4) (n1 : m ≠ x) (n2 : m ≠ rd) (n3 : m ≠ rf) (n4 : t ≠ x) (n5 : t ≠ rd) (n6 : t ≠ rf) (n7 : t ≠ m) : tw_ow (tw_gC g b x rd rf t m r c) m (b + 32) ∧ (tw_gC g b x rd rf t m r c).2 (4096 + t) = b + 32 ∧ ∀ k, k < 5 → (tw_gC g b x rd rf t m r c).1 (b + 32 + k) = 0 := by
  have h25 : (tw_gC g b x rd rf t m r c).2 24 = b + 64 := rfl
  have a : ∀ b2, b2 + 8 ≤ b + 64 → tw_al (tw_gC g b x rd rf t m r c) b2 := fun b2 h => Or.inl ⟨by omega, by rw [h25]; omega⟩
  refine ⟨⟨by omega, by omega, a _ (by omega), ?_, ?_⟩, ?_, fun k hk => ?_⟩ <;> unfold tw_gC <;> dsimp only
  · rw [if_neg (by omega), if_neg (by omega), if_neg (by omega), if_neg (by omega), if_pos rfl]
  · rw [if_neg (by omega), if_neg (by omega), if_neg (by omega), if_neg (by omega), if_neg (by omega), if_neg (by omega), if_neg (by omega), if_neg (by omega), if_pos rfl]
  · rw [if_neg (by omega), if_neg (by omega), if_neg (by omega), if_neg (by omega), if_neg (by omega), if_neg (by omega), if_neg (by omega), if_neg (by omega), if_neg (by omega), if_pos rfl]
  · rw [if_neg (by omega), if_neg (by omega), if_neg (by omega), if_neg (by omega), if_neg (by omega), if_pos (by omega)]
theorem tw_gC_v {g : tw_G} {b x rd rf t m : Nat} {r c : Int32} : (tw_gC g b x rd rf t m r c).1 b = r ∧ (tw_gC g b x rd rf t m r c).1 (b + 1) = c ∧ (tw_gC g b x rd rf t m r c).1 (b + 2) = 1 ∧ (tw_gC g b x rd rf t m r c).1 (b + 3) = 1 ∧ (∀ k, k < 4 → (tw_gC g b x rd rf t m r c).1 (b + 8 + k) = 3) ∧ ∀ k, k < 4 → (tw_gC g b x rd rf t m r c).1 (b + 16 + k) = 10 := by
  refine ⟨if_pos rfl, ?_, ?_, ?_, fun k hk => ?_, fun k hk => ?_⟩ <;> unfold tw_gC <;> dsimp only
  · rw [if_neg (by omega), if_pos rfl]
  · rw [if_neg (by omega), if_neg (by omega), if_pos (by omega)]
  · rw [if_neg (by omega), if_neg (by omega), if_pos (by omega)]
  · rw [if_neg (by omega), if_neg (by omega), if_neg (by omega), if_pos (by omega)]
  · rw [if_neg (by omega), if_neg (by omega), if_neg (by omega), if_neg (by omega), if_pos (by omega)]
def tw_gN (g : tw_G) (b x o t : Nat) (r c : Int32) : tw_G :=
  (fun i => if i = b then r else if i = b + 1 then c else if i = b + 8 ∨ i = b + 9 then 1 else if b + 24 ≤ i ∧ i < b + 29 then 0 else g.1 i,
   fun i => if i = 9 then b + 64 else if i = b then x else if i = b + 8 then o else if i = b + 24 then t else if i = 4096 + x then b else if i = 4096 + o then b + 8 else if i = 4096 + t then b + 24 else g.2 i)
theorem tw_gN_1 {g : tw_G} {b x o t i : Nat} {r c : Int32} (h : i < b ∨ b + 32 ≤ i) : (tw_gN g b x o t r c).1 i = g.1 i := by
  unfold tw_gN
  dsimp only
  rw [if_neg (by omega), if_neg (by omega), if_neg (by omega), if_neg (by omega)]
theorem tw_gN_2 {g : tw_G} {b x o t i : Nat} {r c : Int32} (h0 : i ≠ 9) (h : i < b ∨ b + 32 ≤ i) (h2 : i < 4096 ∨ i ≠ 4096 + x ∧ i ≠ 4096 + o ∧ i ≠ 4096 + t) : (tw_gN g b x o t r c).2 i = g.2 i := by
  unfold tw_gN
  dsimp only
  rw [if_neg h0, if_neg (by omega), if_neg (by omega), if_neg (by omega), if_neg (by omega), if_neg (by omega), if_neg (by omega)]
theorem tw_gN_w {g : tw_G} {τ : tw_K} {b j x o t : Nat} {r c : Int32} (hb : b = 480 + 64 * j) (hj : j < 4) (h9 : g.2 9 = b) (zx : τ x = 0) (zo : τ o = 0) (zt : τ t = 0) : tw_gw2 τ g (tw_gN g b x o t r c) := by
  refine ⟨fun i hi => tw_gN_1 (by omega), fun i hi h _ => tw_gN_2 h (by omega) (by omega), ?_, ?_⟩
  · rintro y b2 hy ⟨o1, o2, o3, o4, o5⟩
    have ny : y ≠ x ∧ y ≠ o ∧ y ≠ t := ⟨fun q => hy (by rw [q]; exact zx), fun q => hy (by rw [q]; exact zo), fun q => hy (by rw [q]; exact zt)⟩
    unfold tw_al at o3
    have h24 : (tw_gN g b x o t r c).2 24 = g.2 24 := tw_gN_2 (by decide) (by omega) (by omega)
    have h25 : (tw_gN g b x o t r c).2 9 = b + 64 := rfl
    refine ⟨⟨o1, o2, ?_, ?_, ?_⟩, fun i hi => tw_gN_1 (by omega)⟩
    · unfold tw_al
      rw [h24, h25]
      omega
    · rw [tw_gN_2 (by omega) (by omega) (by omega)]; exact o4
    · rw [tw_gN_2 (by omega) (by omega) (by omega)]; exact o5
  · intro q hq
    have ny : q ≠ x ∧ q ≠ o ∧ q ≠ t := ⟨fun z => hq (by rw [z]; exact zx), fun z => hq (by rw [z]; exact zo), fun z => hq (by rw [z]; exact zt)⟩
    exact tw_gN_2 (by omega) (by omega) (by omega)
theorem tw_gN_o {g : tw_G} {b j x o t : Nat} {r c : Int32} (hb : b = 480 + 64 * j) (hj : j < 4) (n1 : x ≠ o) : tw_ow (tw_gN g b x o t r c) x b ∧ tw_ow (tw_gN g b x o t r c) o (b + 8) := by
  have h25 : (tw_gN g b x o t r c).2 9 = b + 64 := rfl
  have a : ∀ b2, b2 + 8 ≤ b + 64 → b ≤ b2 → tw_al (tw_gN g b x o t r c) b2 := fun b2 h _ => Or.inr ⟨by omega, by omega, by rw [h25]; omega⟩
  refine ⟨⟨by omega, by omega, a _ (by omega) (by omega), ?_, ?_⟩, ⟨by omega, by omega, a _ (by omega) (by omega), ?_, ?_⟩⟩ <;> unfold tw_gN <;> dsimp only
  · rw [if_neg (by omega), if_pos rfl]
  · rw [if_neg (by omega), if_neg (by omega), if_neg (by omega), if_neg (by omega), if_pos rfl]
  · rw [if_neg (by omega), if_neg (by omega), if_pos rfl]
  · rw [if_neg (by omega), if_neg (by omega), if_neg (by omega), if_neg (by omega), if_neg (by omega), if_pos rfl]
theorem tw_gN_v5 {g : tw_G} {b x o t : Nat} {r c : Int32} (k : Nat) (hk : k < 5) : (tw_gN g b x o t r c).1 (b + 24 + k) = 0 := by
  unfold tw_gN
  dsimp only
  rw [if_neg (by omega), if_neg (by omega), if_neg (by omega), if_pos (by omega)]
theorem tw_gN_t {g : tw_G} {b j x o t : Nat} {r c : Int32} (hb : b = 480 + 64 * j) (hj : j < 4) (n1 : t ≠ x) (n2 : t ≠ o) : tw_ow (tw_gN g b x o t r c) t (b + 24) ∧ ∀ k, k < 5 → (tw_gN g b x o t r c).1 (b + 24 + k) = 0 := by
  have h25 : (tw_gN g b x o t r c).2 9 = b + 64 := rfl
  have a : ∀ b2, b2 + 8 ≤ b + 64 → b ≤ b2 → tw_al (tw_gN g b x o t r c) b2 := fun b2 h _ => Or.inr ⟨by omega, by omega, by rw [h25]; omega⟩
  refine ⟨⟨by omega, by omega, a _ (by omega) (by omega), ?_, ?_⟩, fun k hk => ?_⟩ <;> unfold tw_gN <;> dsimp only
  · rw [if_neg (by omega), if_neg (by omega), if_neg (by omega), if_pos rfl]
  · rw [if_neg (by omega), if_neg (by omega), if_neg (by omega), if_neg (by omega), if_neg (by omega), if_neg (by omega), if_pos rfl]
  · rw [if_neg (by omega), if_neg (by omega), if_neg (by omega), if_pos (by omega)]
theorem tw_gN_v {g : tw_G} {b x o t : Nat} {r c : Int32} : (tw_gN g b x o t r c).1 b = r ∧ (tw_gN g b x o t r c).1 (b + 1) = c ∧ ∀ k, k < 2 → (tw_gN g b x o t r c).1 (b + 8 + k) = 1 := by
  refine ⟨if_pos rfl, ?_, fun k hk => ?_⟩ <;> unfold tw_gN <;> dsimp only
  · rw [if_neg (by omega), if_pos rfl]
  · rw [if_neg (by omega), if_neg (by omega), if_pos (by omega)]
theorem tw_vpn {x : Int32} (h : tw_01 x) : vp_nar .boolean x = x := by
  rcases h with rfl | rfl <;> decide
/-! the reference's rows: their blocks -/
def tw_ix4 (r : Nat → Nat) (q : Nat) : Option Nat := if q = r 0 then some 0 else if q = r 1 then some 1 else if q = r 2 then some 2 else if q = r 3 then some 3 else none
theorem tw_ix4_s {r : Nat → Nat} (h : ∀ i j, i < 4 → j < 4 → r i = r j → i = j) {j : Nat} (hj : j < 4) : tw_ix4 r (r j) = some j := by
  have n : ∀ a, a < 4 → a ≠ j → r j ≠ r a := fun a ha n q => n (h j a hj ha q).symm
  unfold tw_ix4
  rcases (show j = 0 ∨ j = 1 ∨ j = 2 ∨ j = 3 by omega) with rfl | rfl | rfl | rfl
  · rw [if_pos rfl]
  · rw [if_neg (n 0 (by decide) (by decide)), if_pos rfl]
  · rw [if_neg (n 0 (by decide) (by decide)), if_neg (n 1 (by decide) (by decide)), if_pos rfl]
  · rw [if_neg (n 0 (by decide) (by decide)), if_neg (n 1 (by decide) (by decide)), if_neg (n 2 (by decide) (by decide)), if_pos rfl]
theorem tw_ix4_n {r : Nat → Nat} {q : Nat} (h : ∀ j, j < 4 → q ≠ r j) : tw_ix4 r q = none := by
  unfold tw_ix4
  rw [if_neg (h 0 (by decide)), if_neg (h 1 (by decide)), if_neg (h 2 (by decide)), if_neg (h 3 (by decide))]
def tw_gMh (g : tw_G) (ds fr : Nat) (r s : Nat → Nat) (q : Nat) : Nat := match tw_ix4 r q with
  | some j => 416 + 8 * j
  | none => match tw_ix4 s q with
    | some j => 448 + 8 * j
    | none => if q = ds then 416 else if q = fr then 448 else g.2 (4096 + q)
def tw_gM (g : tw_G) (x lc lh ld ds fr : Nat) (r s : Nat → Nat) : tw_G :=
  (fun k => if k = 0 then g.1 0 else if k = 1 then 155 else if 416 ≤ k ∧ k < 448 then 3 else if 448 ≤ k ∧ k < 480 then 10 else 0,
   fun k => if k < 4096 then (if k < 3 ∨ (6 ≤ k ∧ k < 9) ∨ (18 ≤ k ∧ k < 22) ∨ k = 24 ∨ k = 10 then g.2 k else if k = 9 then 480 else if k = 11 then x else if k = 12 then lc else if k = 13 then lh else if k = 14 then ld else if 416 ≤ k ∧ k < 448 then r ((k - 416) / 8) else if 448 ≤ k ∧ k < 480 then s ((k - 448) / 8) else 0) else tw_gMh g ds fr r s (k - 4096))
theorem tw_gM_h {g : tw_G} {x lc lh ld ds fr q : Nat} {r s : Nat → Nat} : (tw_gM g x lc lh ld ds fr r s).2 (4096 + q) = tw_gMh g ds fr r s q := by
  unfold tw_gM
  dsimp only
  rw [if_neg (by omega), show 4096 + q - 4096 = q by omega]
theorem tw_gM_r {g : tw_G} {x lc lh ld ds fr j : Nat} {r s : Nat → Nat} (hj : j < 4) : (tw_gM g x lc lh ld ds fr r s).2 (416 + 8 * j) = r j ∧ (tw_gM g x lc lh ld ds fr r s).2 (448 + 8 * j) = s j := by
  unfold tw_gM
  dsimp only
  constructor
  · rw [if_pos (by omega), if_neg (by omega), if_neg (by omega), if_neg (by omega), if_neg (by omega), if_neg (by omega), if_neg (by omega), if_pos (by omega), show (416 + 8 * j - 416) / 8 = j by omega]
  · rw [if_pos (by omega), if_neg (by omega), if_neg (by omega), if_neg (by omega), if_neg (by omega), if_neg (by omega), if_neg (by omega), if_neg (by omega), if_pos (by omega), show (448 + 8 * j - 448) / 8 = j by omega]
theorem tw_gM_c {g : tw_G} {x lc lh ld ds fr j k : Nat} {r s : Nat → Nat} (hj : j < 4) (hk : k < 4) : (tw_gM g x lc lh ld ds fr r s).1 (416 + 8 * j + k) = 3 ∧ (tw_gM g x lc lh ld ds fr r s).1 (448 + 8 * j + k) = 10 := by
  unfold tw_gM
  dsimp only
  constructor
  · rw [if_neg (by omega), if_neg (by omega), if_pos (by omega)]
  · rw [if_neg (by omega), if_neg (by omega), if_neg (by omega), if_pos (by omega)]
theorem tw_gM_o {g : tw_G} {x lc lh ld ds fr : Nat} {r s : Nat → Nat} (hr : ∀ i j, i < 4 → j < 4 → r i = r j → i = j) (hs : ∀ i j, i < 4 → j < 4 → s i = s j → i = j) (hrs : ∀ i j, i < 4 → j < 4 → r i ≠ s j) (hd : ∀ i, i < 4 → ds ≠ r i ∧ ds ≠ s i ∧ fr ≠ r i ∧ fr ≠ s i) (hdf : fr ≠ ds) :
    (∀ j, j < 4 → tw_ow (tw_gM g x lc lh ld ds fr r s) (r j) (416 + 8 * j) ∧ tw_ow (tw_gM g x lc lh ld ds fr r s) (s j) (448 + 8 * j)) ∧ (tw_gM g x lc lh ld ds fr r s).2 (4096 + ds) = 416 ∧ (tw_gM g x lc lh ld ds fr r s).2 (4096 + fr) = 448 := by
  have h9 : (tw_gM g x lc lh ld ds fr r s).2 9 = 480 := rfl
  refine ⟨fun j hj => ⟨⟨by omega, by omega, Or.inr ⟨by omega, by omega, by rw [h9]; omega⟩, (tw_gM_r hj).1.symm, ?_⟩, ⟨by omega, by omega, Or.inr ⟨by omega, by omega, by rw [h9]; omega⟩, (tw_gM_r hj).2.symm, ?_⟩⟩, ?_, ?_⟩ <;> rw [tw_gM_h] <;> unfold tw_gMh
  · rw [tw_ix4_s hr hj]
  · rw [tw_ix4_n (fun i hi q => hrs i j hi hj q.symm), tw_ix4_s hs hj]
  · rw [tw_ix4_n (fun i hi => (hd i hi).1), tw_ix4_n (fun i hi => (hd i hi).2.1)]
    exact if_pos rfl
  · rw [tw_ix4_n (fun i hi => (hd i hi).2.2.1), tw_ix4_n (fun i hi => (hd i hi).2.2.2)]
    dsimp only
    rw [if_neg hdf, if_pos rfl]
theorem tw_gM_R {g : tw_G} {x lc lh ld ds fr q : Nat} {r s : Nat → Nat} {τ : tw_K} (zr : ∀ i, i < 4 → τ (r i) = 0) (zs : ∀ i, i < 4 → τ (s i) = 0) (zd : τ ds = 0) (zf : τ fr = 0) (hq : τ q ≠ 0) : (tw_gM g x lc lh ld ds fr r s).2 (4096 + q) = g.2 (4096 + q) := by
  rw [tw_gM_h]
  unfold tw_gMh
  rw [tw_ix4_n (fun i hi z => hq (by rw [z]; exact zr i hi)), tw_ix4_n (fun i hi z => hq (by rw [z]; exact zs i hi))]
  dsimp only
  rw [if_neg (fun z => hq (by rw [z]; exact zd)), if_neg (fun z => hq (by rw [z]; exact zf))]
theorem tw_ow_no {g : tw_G} {y b : Nat} (h24 : g.2 24 ≤ 160) (h9 : g.2 9 ≤ 416) : ¬ tw_ow g y b := by
  rintro ⟨o1, o2, o3, o4, o5⟩
  unfold tw_al at o3
  omega
theorem tw_4 {p : Nat → Prop} (h0 : p 0) (h1 : p 1) (h2 : p 2) (h3 : p 3) : ∀ i, i < 4 → p i := by
  intro i hi
  rcases (show i = 0 ∨ i = 1 ∨ i = 2 ∨ i = 3 by omega) with rfl | rfl | rfl | rfl <;> assumption
theorem tw_gM_lo {g : tw_G} {x lc lh ld ds fr i : Nat} {r s : Nat → Nat} (h : i < 3 ∨ (6 ≤ i ∧ i < 9) ∨ (18 ≤ i ∧ i < 22) ∨ i = 24 ∨ i = 10) : (tw_gM g x lc lh ld ds fr r s).2 i = g.2 i := by
  unfold tw_gM
  dsimp only
  rw [if_pos (by omega), if_pos (by omega)]
theorem tw_gM_z {g : tw_G} {x lc lh ld ds fr i : Nat} {r s : Nat → Nat} (h1 : 3 ≤ i) (h2 : i < 6) : (tw_gM g x lc lh ld ds fr r s).2 i = 0 := by
  rcases (show i = 3 ∨ i = 4 ∨ i = 5 by omega) with rfl | rfl | rfl <;> rfl
theorem tw_4k {τ : tw_K} {r : Nat → Nat} {k : Nat} (h0 : τ (r 0) = k) (h1 : τ (r 1) = k) (h2 : τ (r 2) = k) (h3 : τ (r 3) = k) : ∀ i, i < 4 → τ (r i) = k := fun i hi => by
  rcases (show i = 0 ∨ i = 1 ∨ i = 2 ∨ i = 3 by omega) with rfl | rfl | rfl | rfl <;> assumption
theorem tw_rmN2 {h : tw_H} {x q b : Nat} (w : tw_rm h x q = none) (z : b = q) (n1 : b ≠ x) : h b = none := by
  subst z
  exact (if_neg n1).symm.trans w
/-- a till's coins, taken out -/
def tw_gT (g : tw_G) (b : Nat) (F : Nat → Nat) : tw_G := (fun i => if b ≤ i ∧ i < b + 5 then g.1 i - nI (F (i - b)) else g.1 i, g.2)

/-! small facts for walks over the typed heap -/
theorem tw_up_up {h : tw_H} {a : Nat} {e f : va_E} : tw_up (tw_up h a e) a f = tw_up h a f := by
  funext q
  unfold tw_up
  by_cases z : q = a <;> simp [z]
theorem tw_sp.wl {d : tw_D} {g1 : tw_G} {τ τ1 : tw_K} {h h1 : tw_H} (s : tw_sp d τ h g1 τ1 h1) {a : Nat} {e : va_E} (hn : h a = none) (hz : τ1 a = 0) : tw_sp d τ h g1 τ1 (tw_up h1 a e) :=
  ⟨s.1.loc hz, s.2.1, fun b e2 hb hb0 => ⟨by rw [tw_up_n (fun q => by rw [q, hn] at hb; cases hb)]; exact (s.2.2 b e2 hb hb0).1, (s.2.2 b e2 hb hb0).2⟩⟩
theorem tw_sp.nn {d : tw_D} {g1 : tw_G} {τ τ1 : tw_K} {h h1 : tw_H} (s : tw_sp d τ h g1 τ1 h1) {a : Nat} (hn : h1 a = none) : h a = none := by
  cases hh : h a with
  | none => rfl
  | some e =>
    by_cases q : τ a = 0
    · have := (s.2.2 a e hh q).1
      rw [hn] at this
      cases this
    · obtain ⟨e2, h2, -⟩ := s.1 a _ rfl (by rw [s.2.1 a q]; exact q)
      rw [hn] at h2
      cases h2
theorem tw_ib2 {x : Int32} {N : Nat} (h1 : ¬ x < 0) (h2 : ¬ nI N ≤ x) (hN : N < 2 ^ 31) : vp_in x N := by
  obtain ⟨j, hj, rfl⟩ := nI_of h1
  have : j < N := by
    rcases Nat.lt_or_ge j N with q | q
    · exact q
    · exact absurd (nI_le q hj) h2
  exact vp_in_nI this hN
theorem tw_ib3 {x : Int32} {N : Nat} (h1 : 0 ≤ x) (h2 : ¬ nI N ≤ x) (hN : N < 2 ^ 31) : vp_in x N := tw_ib2 (Int32.not_lt.mpr h1) h2 hN
theorem tw_in01 {x : Int32} {N : Nat} (h : x = 0 ∨ x = 1) (hN : 2 ≤ N) : vp_in x N := by
  rcases h with rfl | rfl
  · exact fun q => by
      rcases q with q | q
      · exact absurd q (by decide)
      · have : (0 : Int32).toNatClampNeg = 0 := by decide
        omega
  · exact fun q => by
      rcases q with q | q
      · exact absurd q (by decide)
      · have : (1 : Int32).toNatClampNeg = 1 := by decide
        omega
theorem tw_inlt {x : Int32} {N : Nat} (h : vp_in x N) : x.toNatClampNeg < N := Nat.not_le.mp fun q => h (Or.inr q)
theorem tw_nar01 {x : Int32} (h : tw_01 x) : narrow .boolean (.int x) = .int x := by
  rcases h with rfl | rfl <;> rfl
theorem tw_vp01 {x : Int32} (h : tw_01 x) : tw_01 (vp_nar .boolean x) := by
  rcases h with rfl | rfl <;> (unfold tw_01; decide)
theorem tw_01up {f : Nat → Int32} {k : Nat} {x : Int32} (hf : ∀ j, tw_01 (f j)) (hx : tw_01 x) : ∀ j, tw_01 (upd f k x j) := by
  intro j
  unfold upd
  by_cases q : j = k
  · rw [if_pos q]; exact hx
  · rw [if_neg q]; exact hf j
theorem tw_okup {f : Nat → Option Nat} {τ : tw_K} {k b n : Nat} (hf : ∀ j q, f j = some q → τ q = k) (hb : τ b = k) : ∀ j q, va_up f n (some b) j = some q → τ q = k := by
  intro j q hq
  unfold va_up at hq
  by_cases z : j = n
  · rw [if_pos z] at hq; cases hq; exact hb
  · rw [if_neg z] at hq; exact hf j q hq
def tw_IAE : String := "java/lang/IllegalArgumentException"
def tw_ISE : String := "java/lang/IllegalStateException"
def tw_IOE : String := "java/lang/IndexOutOfBoundsException"
theorem tw_klt {k N : Nat} (c : ¬ nI N ≤ nI k) (hk : k ≤ N) (hN : N < 2 ^ 31) : k < N := by
  rcases Nat.lt_or_ge k N with q | q
  · exact q
  · exact absurd (nI_le q (by omega)) c
theorem tw_mdn {x y : Int32} {r : Nat} (e : y = x + (-1)) (c : ¬ x < 0) (h : (x.toInt + 1).toNat < r + 1) : (y.toInt + 1).toNat < r := by
  obtain ⟨j, hj, rfl⟩ := nI_of c
  rw [nI_toInt hj] at h
  cases j with
  | zero =>
    have : y.toInt = -1 := by rw [e]; decide
    omega
  | succ j =>
    rw [e, pk_m1, nI_toInt (by omega)]
    omega
theorem tw_mup {x y N : Int32} {r : Nat} (e : y = x + 1) (c : ¬ N ≤ x) (h : (N.toInt - x.toInt).toNat < r + 1) : (N.toInt - y.toInt).toNat < r := by
  have h1 : x.toInt < N.toInt := Int32.lt_iff_toInt_lt.mp (Int32.not_le.mp c)
  have h2 : y.toInt = x.toInt + 1 := by
    rw [e, Int32.toInt_add, show (1 : Int32).toInt = 1 by decide]
    have a : -2147483648 ≤ x.toInt := (show Int32.minValue.toInt = -2147483648 by decide) ▸ x.minValue_le_toInt
    have b := N.toInt_lt
    apply Int.bmod_eq_of_le_mul_two <;> omega
  omega
theorem tw_nI3 {k : Nat} {x : Int32} (e : x = nI k + 1) : x = nI (k + 1) := by rw [e]; exact nI_1 k
/-- the world without one thing -/
def tw_rm (h : tw_H) (x : Nat) : tw_H := fun b => if b = x then none else h b
theorem tw_rm_s {h : tw_H} {x : Nat} : tw_rm h x x = none := if_pos rfl
theorem tw_sp.rm {d : tw_D} {g : tw_G} {τ : tw_K} {h : tw_H} (hw : tw_wt d g τ h) (x : Nat) : tw_sp d τ (tw_rm h x) g τ h :=
  ⟨hw, tw_le.rf, fun b e hb h0 => ⟨by unfold tw_rm at hb; by_cases q : b = x; (rw [if_pos q] at hb; cases hb); (rw [if_neg q] at hb; exact hb), h0⟩⟩
/-- a constructor's work: x becomes a thing of kind k -/
def tw_ini (d : tw_D) (g : tw_G) (τ : tw_K) (h : tw_H) (x k : Nat) (τ1 : tw_K) (h1 : tw_H) : Prop := tw_wt d g τ1 h1 ∧ tw_le τ τ1 ∧ τ1 x = k ∧ ∀ b e, b ≠ x → h b = some e → τ b = 0 → h1 b = some e ∧ τ1 b = 0
theorem tw_sp.toini {d : tw_D} {g : tw_G} {τ τ1 : tw_K} {h h1 : tw_H} {x k : Nat} (s : tw_sp d τ (tw_rm h x) g τ1 h1) (hk : τ1 x = k) : tw_ini d g τ h x k τ1 h1 :=
  ⟨s.1, s.2.1, hk, fun b e hb h9 h0 => s.2.2 b e (by unfold tw_rm; rw [if_neg hb]; exact h9) h0⟩
theorem tw_sp.ini {d : tw_D} {g0 g : tw_G} {τ0 τ τ1 : tw_K} {h0 h h1 : tw_H} {x k : Nat} (s : tw_sp d τ0 h0 g0 τ h) (hn : h0 x = none) (i : tw_ini d g τ h x k τ1 h1) : tw_sp d τ0 h0 g τ1 h1 :=
  ⟨i.1, s.2.1.tr i.2.1, fun b e hb hb0 => i.2.2.2 b e (fun q => by rw [q, hn] at hb; cases hb) (s.2.2 b e hb hb0).1 (s.2.2 b e hb hb0).2⟩
theorem tw_ku_s {τ : tw_K} {a k : Nat} : tw_ku τ a k a = k := if_pos rfl
theorem tw_ku_n {τ : tw_K} {a b k : Nat} (n : b ≠ a) : tw_ku τ a k b = τ b := if_neg n
theorem tw_nzl {r : Int32} {v : Int64} (e : v = r.toInt64) (c : 1 ≤ r) : ¬ v = 0 := by
  intro q
  rw [q] at e
  have h1 : (0 : Int64).toInt = r.toInt := by rw [e, Int32.toInt_toInt64]
  have h2 := Int32.le_iff_toInt_le.mp c
  rw [show (0 : Int64).toInt = 0 by decide] at h1
  rw [show (1 : Int32).toInt = 1 by decide] at h2
  omega
theorem tw_d1_0 {k : Nat} (h : 0 ∈ tw_d1 k) : k = 11 := by
  unfold tw_d1 at h
  split at h <;> simp at h <;> rfl
theorem tw_d2_11 {k i : Nat} (n : k ≠ 11) (h : i ∈ tw_d2 k) : 3 ≤ i ∧ i ≠ 21 := by
  unfold tw_d2 at h
  split at h <;> simp at h <;> first | omega | exact absurd rfl n
/-- what kind 11 alone sees is changed, with its one cell -/
theorem tw_wt.g11 {d : tw_D} {g g2 : tw_G} {τ : tw_K} {h : tw_H} (hw : tw_wt d g τ h) {x : Nat} {e : va_E} (hx : τ x = 11) (hs : tw_sh d g2 τ x 11 e) (h1 : ∀ i, i ≠ 0 → g2.1 i = g.1 i) (h2 : ∀ i, 3 ≤ i → i ≠ 21 → g2.2 i = g.2 i) : tw_wt d g2 τ (tw_up h x e) := by
  intro b j hj h0
  by_cases q : b = x
  · subst q
    rw [hx] at hj
    subst hj
    exact ⟨e, tw_up_s, hs⟩
  · obtain ⟨e2, h3, h4⟩ := hw b j hj h0
    refine ⟨e2, by rw [tw_up_n q]; exact h3, ?_⟩
    by_cases q11 : j = 11
    · subst q11
      obtain ⟨_, _, _, _, _, _, _, _, _, _, _, _, _, _, _, _, _, _, _, hb, _⟩ := h4
      obtain ⟨_, _, _, _, _, _, _, _, _, _, _, _, _, _, _, _, _, _, _, hx2, _⟩ := hs
      exact absurd (by rw [hb, hx2, h2 10 (by decide) (by decide)]) q
    · exact tw_sh_hi ⟨fun i hi => h1 i (by omega), fun i hi => h2 i (by omega) (by omega), h2 24 (by decide) (by decide), h2 9 (by decide) (by decide)⟩ (fun i hi => h1 i (fun q => q11 (tw_d1_0 (q ▸ hi)))) (fun i hi => h2 i (tw_d2_11 q11 hi).1 (tw_d2_11 q11 hi).2) (by rw [hj]; exact h0) h4
def tw_g1 (g : tw_G) (i : Nat) (v : Int32) : tw_G := (fun j => if j = i then v else g.1 j, g.2)
def tw_g2 (g : tw_G) (i : Nat) (v : Nat) : tw_G := (g.1, fun j => if j = i then v else g.2 j)
/-- one number counts on, the rest stays -/
def tw_gr (g g2 : tw_G) : Prop := g2.1 = g.1 ∧ ∀ i, 3 ≤ i → g2.2 i = g.2 i
theorem tw_gr.rf {g : tw_G} : tw_gr g g := ⟨rfl, fun _ _ => rfl⟩
theorem tw_sp.g11 {d : tw_D} {g g2 : tw_G} {τ τ1 : tw_K} {h h1 : tw_H} (s : tw_sp d τ h g τ1 h1) {x : Nat} {e : va_E} (hx : τ1 x = 11) (hs : tw_sh d g2 τ1 x 11 e) (e1 : ∀ i, i ≠ 0 → g2.1 i = g.1 i) (e2 : ∀ i, 3 ≤ i → i ≠ 21 → g2.2 i = g.2 i) : tw_sp d τ h g2 τ1 (tw_up h1 x e) :=
  ⟨s.1.g11 hx hs e1 e2, s.2.1, fun b f hb hb0 => ⟨by rw [tw_up_n (fun q => by have z := (s.2.2 b f hb hb0).2; rw [q, hx] at z; cases z)]; exact (s.2.2 b f hb hb0).1, (s.2.2 b f hb hb0).2⟩⟩
theorem tw_fit01 {x : Int32} (h : tw_01 x) : fits .boolean (.int x) = true := by
  rcases h with rfl | rfl <;> rfl
theorem tw_klt2 {k N : Nat} (c : nI k < nI N) (hk : k ≤ N) (hN : N < 2 ^ 31) : k < N := (nI_ltI (by omega) hN).mp c
theorem tw_mle {x y : Int32} {r : Nat} (e : y = x + 1) (c : ¬ 3000 < x) (h : (3001 - x.toInt).toNat < r + 1) : (3001 - y.toInt).toNat < r := by
  have h1 : x.toInt ≤ 3000 := by
    have := Int32.le_iff_toInt_le.mp (Int32.not_lt.mp c)
    rwa [show (3000 : Int32).toInt = 3000 by decide] at this
  have h2 : y.toInt = x.toInt + 1 := by
    rw [e, Int32.toInt_add, show (1 : Int32).toInt = 1 by decide]
    have a : -2147483648 ≤ x.toInt := (show Int32.minValue.toInt = -2147483648 by decide) ▸ x.minValue_le_toInt
    apply Int.bmod_eq_of_le_mul_two <;> omega
  omega
theorem tw_sp.trm {d : tw_D} {g1 g2 : tw_G} {τ τ1 τ2 : tw_K} {h h1 h2 : tw_H} {x : Nat} (s1 : tw_sp d τ h g1 τ1 h1) (hn : h x = none) (s2 : tw_sp d τ1 (tw_rm h1 x) g2 τ2 h2) : tw_sp d τ h g2 τ2 h2 :=
  ⟨s2.1, s1.2.1.tr s2.2.1, fun a e ha h0 => s2.2.2 a e (by unfold tw_rm; rw [if_neg (fun q => by rw [q, hn] at ha; cases ha)]; exact (s1.2.2 a e ha h0).1) (s1.2.2 a e ha h0).2⟩
/-- what kind 8 alone sees is changed, with its one cell -/
theorem tw_d2_8 {k i : Nat} (n : k ≠ 8) (h : i ∈ tw_d2 k) : i ≠ 6 := by
  unfold tw_d2 at h
  split at h <;> simp at h <;> first | omega | exact absurd rfl n
theorem tw_sp.g8 {d : tw_D} {g g2 : tw_G} {τ τ1 : tw_K} {h h1 : tw_H} (s : tw_sp d τ h g τ1 h1) {x : Nat} {e : va_E} (hx : τ1 x = 8) (hs : tw_sh d g2 τ1 x 8 e) (e1 : g2.1 = g.1) (e2 : ∀ i, i ≠ 6 → g2.2 i = g.2 i) : tw_sp d τ h g2 τ1 (tw_up h1 x e) := by
  refine ⟨fun b j hj h0 => ?_, s.2.1, fun b f hb hb0 => ⟨by rw [tw_up_n (fun q => by have z := (s.2.2 b f hb hb0).2; rw [q, hx] at z; cases z)]; exact (s.2.2 b f hb hb0).1, (s.2.2 b f hb hb0).2⟩⟩
  by_cases q : b = x
  · subst q
    rw [hx] at hj
    subst hj
    exact ⟨e, tw_up_s, hs⟩
  · obtain ⟨e2', h3, h4⟩ := s.1 b j hj h0
    refine ⟨e2', by rw [tw_up_n q]; exact h3, ?_⟩
    by_cases qk : j = 8
    · subst qk
      obtain ⟨_, _, _, _, _, hb, _⟩ := h4
      obtain ⟨_, _, _, _, _, hx2, _⟩ := hs
      exact absurd (by rw [hb, hx2, e2 18 (by decide)]) q
    · have H : tw_hi g g2 := ⟨fun i _ => by rw [e1], fun i hi => e2 i (by omega), e2 24 (by decide), e2 9 (by decide)⟩
      exact tw_sh_hi H (fun i _ => by rw [e1]) (fun i hi => e2 i (tw_d2_8 qk hi)) (by rw [hj]; exact h0) h4
/-- what kind 9 alone sees is changed, with its one cell -/
theorem tw_d2_9 {k i : Nat} (n : k ≠ 9) (h : i ∈ tw_d2 k) : i ≠ 7 := by
  unfold tw_d2 at h
  split at h <;> simp at h <;> first | omega | exact absurd rfl n
theorem tw_sp.g9 {d : tw_D} {g g2 : tw_G} {τ τ1 : tw_K} {h h1 : tw_H} (s : tw_sp d τ h g τ1 h1) {x : Nat} {e : va_E} (hx : τ1 x = 9) (hs : tw_sh d g2 τ1 x 9 e) (e1 : g2.1 = g.1) (e2 : ∀ i, i ≠ 7 → g2.2 i = g.2 i) : tw_sp d τ h g2 τ1 (tw_up h1 x e) := by
  refine ⟨fun b j hj h0 => ?_, s.2.1, fun b f hb hb0 => ⟨by rw [tw_up_n (fun q => by have z := (s.2.2 b f hb hb0).2; rw [q, hx] at z; cases z)]; exact (s.2.2 b f hb hb0).1, (s.2.2 b f hb hb0).2⟩⟩
  by_cases q : b = x
  · subst q
    rw [hx] at hj
    subst hj
    exact ⟨e, tw_up_s, hs⟩
  · obtain ⟨e2', h3, h4⟩ := s.1 b j hj h0
    refine ⟨e2', by rw [tw_up_n q]; exact h3, ?_⟩
    by_cases qk : j = 9
    · subst qk
      obtain ⟨_, _, _, _, _, hb, _⟩ := h4
      obtain ⟨_, _, _, _, _, hx2, _⟩ := hs
      exact absurd (by rw [hb, hx2, e2 19 (by decide)]) q
    · have H : tw_hi g g2 := ⟨fun i _ => by rw [e1], fun i hi => e2 i (by omega), e2 24 (by decide), e2 9 (by decide)⟩
      exact tw_sh_hi H (fun i _ => by rw [e1]) (fun i hi => e2 i (tw_d2_9 qk hi)) (by rw [hj]; exact h0) h4
/-- what kind 10 alone sees is changed, with its one cell -/
theorem tw_d2_10 {k i : Nat} (n : k ≠ 10) (h : i ∈ tw_d2 k) : i ≠ 8 := by
  unfold tw_d2 at h
  split at h <;> simp at h <;> first | omega | exact absurd rfl n
theorem tw_sp.g10 {d : tw_D} {g g2 : tw_G} {τ τ1 : tw_K} {h h1 : tw_H} (s : tw_sp d τ h g τ1 h1) {x : Nat} {e : va_E} (hx : τ1 x = 10) (hs : tw_sh d g2 τ1 x 10 e) (e1 : g2.1 = g.1) (e2 : ∀ i, i ≠ 8 → g2.2 i = g.2 i) : tw_sp d τ h g2 τ1 (tw_up h1 x e) := by
  refine ⟨fun b j hj h0 => ?_, s.2.1, fun b f hb hb0 => ⟨by rw [tw_up_n (fun q => by have z := (s.2.2 b f hb hb0).2; rw [q, hx] at z; cases z)]; exact (s.2.2 b f hb hb0).1, (s.2.2 b f hb hb0).2⟩⟩
  by_cases q : b = x
  · subst q
    rw [hx] at hj
    subst hj
    exact ⟨e, tw_up_s, hs⟩
  · obtain ⟨e2', h3, h4⟩ := s.1 b j hj h0
    refine ⟨e2', by rw [tw_up_n q]; exact h3, ?_⟩
    by_cases qk : j = 10
    · subst qk
      obtain ⟨_, _, _, _, _, hb, _⟩ := h4
      obtain ⟨_, _, _, _, _, hx2, _⟩ := hs
      exact absurd (by rw [hb, hx2, e2 20 (by decide)]) q
    · have H : tw_hi g g2 := ⟨fun i _ => by rw [e1], fun i hi => e2 i (by omega), e2 24 (by decide), e2 9 (by decide)⟩
      exact tw_sh_hi H (fun i _ => by rw [e1]) (fun i hi => e2 i (tw_d2_10 qk hi)) (by rw [hj]; exact h0) h4
/-- the owner of a block writes: the block's numbers with its cell -/
theorem tw_sp.wb {d : tw_D} {g g2 : tw_G} {τ τ1 : tw_K} {h h1 : tw_H} {x k b : Nat} {e : va_E} (s : tw_sp d τ h g τ1 h1) (hx : τ1 x = k) (h0 : k ≠ 0) (ow : tw_ow g x b) (hs : tw_sh d g2 τ1 x k e) (e1 : ∀ i, i < b ∨ b + 8 ≤ i → g2.1 i = g.1 i) (e2 : g2.2 = g.2) : tw_sp d τ h g2 τ1 (tw_up h1 x e) := by
  have hb := ow.1
  refine ⟨fun y j hj j0 => ?_, s.2.1, fun y f hy hy0 => ⟨by rw [tw_up_n (fun q => by have z := (s.2.2 y f hy hy0).2; rw [q, hx] at z; exact h0 z)]; exact (s.2.2 y f hy hy0).1, (s.2.2 y f hy hy0).2⟩⟩
  by_cases q : y = x
  · subst q
    rw [hx] at hj
    subst hj
    exact ⟨e, tw_up_s, hs⟩
  · obtain ⟨e3, h3, h4⟩ := s.1 y j hj j0
    refine ⟨e3, by rw [tw_up_n q]; exact h3, tw_sh_g (fun i hi => e1 i (Or.inl (by have := tw_d1_lt hi; omega))) (fun i _ => by rw [e2]) (fun b2 o => ⟨?_, fun i hi => e1 _ ?_⟩) (fun _ _ => by rw [e2]) (by rw [hj]; exact j0) h4⟩
    · obtain ⟨o1, o2, o3, o4, o5⟩ := o
      unfold tw_ow tw_al
      rw [e2]
      exact ⟨o1, o2, o3, o4, o5⟩
    · have n : b ≠ b2 := fun z => q (by rw [o.2.2.2.1, ← z, ← ow.2.2.2.1])
      have m1 := ow.2.1
      have m2 := o.2.1
      omega
theorem tw_g1_ne {g : tw_G} {i j : Nat} {v : Int32} (n : j ≠ i) : (tw_g1 g i v).1 j = g.1 j := if_neg n
theorem tw_g2_ne {g : tw_G} {i j v : Nat} (n : j ≠ i) : (tw_g2 g i v).2 j = g.2 j := if_neg n
theorem tw_g1_eq {g : tw_G} {i : Nat} {v : Int32} : (tw_g1 g i v).1 i = v := if_pos rfl
theorem tw_f6.up {g : tw_G} {x N b k : Nat} {f : Nat → Int32} {v : Int32} (o : tw_ow g x b) (w : ∀ i, i < N → f i = g.1 (b + i)) : tw_f6 (tw_g1 g (b + k) v) x N (upd f k v) := by
  refine ⟨b, o, fun i hi => ?_⟩
  unfold upd
  by_cases q : i = k
  · rw [if_pos q, q]; exact tw_g1_eq.symm
  · rw [if_neg q, tw_g1_ne (by omega)]; exact w i hi
theorem tw_ow.b {g : tw_G} {x b b2 : Nat} (o : tw_ow g x b) (h : g.2 (4096 + x) = b2) : b = b2 := o.2.2.2.2.symm.trans h
/-! the class makes a country; the reference makes its rows and a country: the numbers of the new blocks. -/
def tw_gC (g : tw_G) (b x rd rf t m v : Nat) (r c gd sv : Int32) : tw_G :=
  (fun i => if i = b then r else if i = b + 1 then c else if i = b + 2 ∨ i = b + 3 then 1 else if b + 8 ≤ i ∧ i < b + 12 then 3 else if b + 16 ≤ i ∧ i < b + 20 then 10 else if b + 32 ≤ i ∧ i < b + 37 then 0 else if i = b + 24 then gd else if i = b + 25 then sv else g.1 i,
   fun i => if i = 24 then b + 64 else if i = b then x else if i = b + 8 then rd else if i = b + 16 then rf else if i = b + 32 then m else if i = b + 24 then v else if i = 4096 + x then b else if i = 4096 + rd then b + 8 else if i = 4096 + rf then b + 16 else if i = 4096 + m then b + 32 else if i = 4096 + v then b + 24 else if i = 4096 + t then b + 32 else g.2 i)
theorem tw_gC_1 {g : tw_G} {b x rd rf t m v i : Nat} {r c gd sv : Int32} (h : i < b ∨ b + 40 ≤ i) : (tw_gC g b x rd rf t m v r c gd sv).1 i = g.1 i := by
  unfold tw_gC
  dsimp only
  rw [if_neg (by omega), if_neg (by omega), if_neg (by omega), if_neg (by omega), if_neg (by omega), if_neg (by omega), if_neg (by omega), if_neg (by omega)]
theorem tw_gC_2 {g : tw_G} {b x rd rf t m v i : Nat} {r c gd sv : Int32} (h0 : i ≠ 24) (h : i < b ∨ b + 40 ≤ i) (h2 : i < 4096 ∨ i ≠ 4096 + x ∧ i ≠ 4096 + rd ∧ i ≠ 4096 + rf ∧ i ≠ 4096 + m ∧ i ≠ 4096 + t ∧ i ≠ 4096 + v) : (tw_gC g b x rd rf t m v r c gd sv).2 i = g.2 i := by
  unfold tw_gC
  dsimp only
  rw [if_neg h0, if_neg (by omega), if_neg (by omega), if_neg (by omega), if_neg (by omega), if_neg (by omega), if_neg (by omega), if_neg (by omega), if_neg (by omega), if_neg (by omega), if_neg (by omega), if_neg (by omega)]
theorem tw_gC_w {g : tw_G} {τ : tw_K} {b j x rd rf t m v : Nat} {r c gd sv : Int32} (hb : b = 160 + 64 * j) (hj : j < 4) (h24 : g.2 24 = b) (zx : τ x = 0) (zd : τ rd = 0) (zf : τ rf = 0) (zt : τ t = 0) (zm : τ m = 0) (zv : τ v = 0) : tw_gw2 τ g (tw_gC g b x rd rf t m v r c gd sv) := by
  refine ⟨fun i hi => tw_gC_1 (by omega), fun i hi _ h => tw_gC_2 h (by omega) (by omega), ?_, ?_⟩
  · rintro y b2 hy ⟨o1, o2, o3, o4, o5⟩
    have ny : y ≠ x ∧ y ≠ rd ∧ y ≠ rf ∧ y ≠ m ∧ y ≠ t ∧ y ≠ v := ⟨fun q => hy (by rw [q]; exact zx), fun q => hy (by rw [q]; exact zd), fun q => hy (by rw [q]; exact zf), fun q => hy (by rw [q]; exact zm), fun q => hy (by rw [q]; exact zt), fun q => hy (by rw [q]; exact zv)⟩
    have o6 := o3
    unfold tw_al at o3
    refine ⟨⟨o1, o2, ?_, ?_, ?_⟩, fun i hi => tw_gC_1 (by omega)⟩
    · refine o6.le (fun i hi => ?_)
      by_cases q : i = 24
      · rw [q]; show g.2 24 ≤ b + 64; omega
      · rw [tw_gC_2 q (by omega) (by omega)]; exact Nat.le_refl _
    · rw [tw_gC_2 (by omega) (by omega) (by omega)]; exact o4
    · rw [tw_gC_2 (by omega) (by omega) (by omega)]; exact o5
  · intro q hq
    have ny : q ≠ x ∧ q ≠ rd ∧ q ≠ rf ∧ q ≠ m ∧ q ≠ t ∧ q ≠ v := ⟨fun z => hq (by rw [z]; exact zx), fun z => hq (by rw [z]; exact zd), fun z => hq (by rw [z]; exact zf), fun z => hq (by rw [z]; exact zm), fun z => hq (by rw [z]; exact zt), fun z => hq (by rw [z]; exact zv)⟩
    exact tw_gC_2 (by omega) (by omega) (by omega)
theorem tw_gC_o {g : tw_G} {b j x rd rf t m v : Nat} {r c gd sv : Int32} (hb : b = 160 + 64 * j) (hj : j < 4) (n1 : x ≠ rd) (n2 : x ≠ rf) (n3 : rd ≠ rf) : tw_ow (tw_gC g b x rd rf t m v r c gd sv) x b ∧ tw_ow (tw_gC g b x rd rf t m v r c gd sv) rd (b + 8) ∧ tw_ow (tw_gC g b x rd rf t m v r c gd sv) rf (b + 16) := by
  have h25 : (tw_gC g b x rd rf t m v r c gd sv).2 24 = b + 64 := rfl
  have a : ∀ b2, b2 + 8 ≤ b + 64 → tw_al (tw_gC g b x rd rf t m v r c gd sv) b2 := fun b2 h => Or.inl ⟨by omega, by rw [h25]; omega⟩
  refine ⟨⟨by omega, by omega, a _ (by omega), ?_, ?_⟩, ⟨by omega, by omega, a _ (by omega), ?_, ?_⟩, ⟨by omega, by omega, a _ (by omega), ?_, ?_⟩⟩ <;> unfold tw_gC <;> dsimp only
  · rw [if_neg (by omega), if_pos rfl]
  · rw [if_neg (by omega), if_neg (by omega), if_neg (by omega), if_neg (by omega), if_neg (by omega), if_neg (by omega), if_pos rfl]
  · rw [if_neg (by omega), if_neg (by omega), if_pos rfl]
  · rw [if_neg (by omega), if_neg (by omega), if_neg (by omega), if_neg (by omega), if_neg (by omega), if_neg (by omega), if_neg (by omega), if_pos rfl]
  · rw [if_neg (by omega), if_neg (by omega), if_neg (by omega), if_pos rfl]
  · rw [if_neg (by omega), if_neg (by omega), if_neg (by omega), if_neg (by omega), if_neg (by omega), if_neg (by omega), if_neg (by omega), if_neg (by omega), if_pos rfl]
theorem tw_gC_v5 {g : tw_G} {b x rd rf t m v : Nat} {r c gd sv : Int32} (k : Nat) (hk : k < 5) : (tw_gC g b x rd rf t m v r c gd sv).1 (b + 32 + k) = 0 := by
  unfold tw_gC
  dsimp only
  rw [if_neg (by omega), if_neg (by omega), if_neg (by omega), if_neg (by omega), if_neg (by omega), if_pos (by omega)]
theorem tw_gC_t {g : tw_G} {b j x rd rf t m v : Nat} {r c gd sv : Int32} (hb : b = 160 + 64 * j) (hj : j < 4) (n1 : m ≠ x) (n2 : m ≠ rd) (n3 : m ≠ rf) (n4 : t ≠ x) (n5 : t ≠ rd) (n6 : t ≠ rf) (n7 : t ≠ m) (n8 : t ≠ v) : tw_ow (tw_gC g b x rd rf t m v r c gd sv) m (b + 32) ∧ (tw_gC g b x rd rf t m v r c gd sv).2 (4096 + t) = b + 32 ∧ ∀ k, k < 5 → (tw_gC g b x rd rf t m v r c gd sv).1 (b + 32 + k) = 0 := by
  have h25 : (tw_gC g b x rd rf t m v r c gd sv).2 24 = b + 64 := rfl
  have a : ∀ b2, b2 + 8 ≤ b + 64 → tw_al (tw_gC g b x rd rf t m v r c gd sv) b2 := fun b2 h => Or.inl ⟨by omega, by rw [h25]; omega⟩
  refine ⟨⟨by omega, by omega, a _ (by omega), ?_, ?_⟩, ?_, fun k hk => ?_⟩ <;> unfold tw_gC <;> dsimp only
  · rw [if_neg (by omega), if_neg (by omega), if_neg (by omega), if_neg (by omega), if_pos rfl]
  · rw [if_neg (by omega), if_neg (by omega), if_neg (by omega), if_neg (by omega), if_neg (by omega), if_neg (by omega), if_neg (by omega), if_neg (by omega), if_neg (by omega), if_pos rfl]
  · rw [if_neg (by omega), if_neg (by omega), if_neg (by omega), if_neg (by omega), if_neg (by omega), if_neg (by omega), if_neg (by omega), if_neg (by omega), if_neg (by omega), if_neg (by omega), if_neg (by omega), if_pos rfl]
  · rw [if_neg (by omega), if_neg (by omega), if_neg (by omega), if_neg (by omega), if_neg (by omega), if_pos (by omega)]
theorem tw_gC_w9 {g : tw_G} {b j x rd rf t m v : Nat} {r c gd sv : Int32} (hb : b = 160 + 64 * j) (hj : j < 4) (n1 : v ≠ x) (n2 : v ≠ rd) (n3 : v ≠ rf) (n4 : v ≠ m) : tw_ow (tw_gC g b x rd rf t m v r c gd sv) v (b + 24) ∧ (tw_gC g b x rd rf t m v r c gd sv).1 (b + 24) = gd ∧ (tw_gC g b x rd rf t m v r c gd sv).1 (b + 25) = sv := by
  have h25 : (tw_gC g b x rd rf t m v r c gd sv).2 24 = b + 64 := rfl
  refine ⟨⟨by omega, by omega, Or.inl ⟨by omega, by rw [h25]; omega⟩, ?_, ?_⟩, ?_, ?_⟩ <;> unfold tw_gC <;> dsimp only
  · rw [if_neg (by omega), if_neg (by omega), if_neg (by omega), if_neg (by omega), if_neg (by omega), if_pos rfl]
  · rw [if_neg (by omega), if_neg (by omega), if_neg (by omega), if_neg (by omega), if_neg (by omega), if_neg (by omega), if_neg (by omega), if_neg (by omega), if_neg (by omega), if_neg (by omega), if_pos rfl]
  · rw [if_neg (by omega), if_neg (by omega), if_neg (by omega), if_neg (by omega), if_neg (by omega), if_neg (by omega), if_pos rfl]
  · rw [if_neg (by omega), if_neg (by omega), if_neg (by omega), if_neg (by omega), if_neg (by omega), if_neg (by omega), if_neg (by omega), if_pos rfl]
theorem tw_gC_v {g : tw_G} {b x rd rf t m v : Nat} {r c gd sv : Int32} : (tw_gC g b x rd rf t m v r c gd sv).1 b = r ∧ (tw_gC g b x rd rf t m v r c gd sv).1 (b + 1) = c ∧ (tw_gC g b x rd rf t m v r c gd sv).1 (b + 2) = 1 ∧ (tw_gC g b x rd rf t m v r c gd sv).1 (b + 3) = 1 ∧ (∀ k, k < 4 → (tw_gC g b x rd rf t m v r c gd sv).1 (b + 8 + k) = 3) ∧ ∀ k, k < 4 → (tw_gC g b x rd rf t m v r c gd sv).1 (b + 16 + k) = 10 := by
  refine ⟨if_pos rfl, ?_, ?_, ?_, fun k hk => ?_, fun k hk => ?_⟩ <;> unfold tw_gC <;> dsimp only
  · rw [if_neg (by omega), if_pos rfl]
  · rw [if_neg (by omega), if_neg (by omega), if_pos (by omega)]
  · rw [if_neg (by omega), if_neg (by omega), if_pos (by omega)]
  · rw [if_neg (by omega), if_neg (by omega), if_neg (by omega), if_pos (by omega)]
  · rw [if_neg (by omega), if_neg (by omega), if_neg (by omega), if_neg (by omega), if_pos (by omega)]
def tw_gN (g : tw_G) (b x o t v : Nat) (r c gd sv : Int32) : tw_G :=
  (fun i => if i = b then r else if i = b + 1 then c else if i = b + 8 ∨ i = b + 9 then 1 else if b + 24 ≤ i ∧ i < b + 29 then 0 else if i = b + 16 then gd else if i = b + 17 then sv else g.1 i,
   fun i => if i = 9 then b + 64 else if i = b then x else if i = b + 8 then o else if i = b + 24 then t else if i = b + 16 then v else if i = 4096 + x then b else if i = 4096 + o then b + 8 else if i = 4096 + t then b + 24 else if i = 4096 + v then b + 16 else g.2 i)
theorem tw_gN_1 {g : tw_G} {b x o t v i : Nat} {r c gd sv : Int32} (h : i < b ∨ b + 32 ≤ i) : (tw_gN g b x o t v r c gd sv).1 i = g.1 i := by
  unfold tw_gN
  dsimp only
  rw [if_neg (by omega), if_neg (by omega), if_neg (by omega), if_neg (by omega), if_neg (by omega), if_neg (by omega)]
theorem tw_gN_2 {g : tw_G} {b x o t v i : Nat} {r c gd sv : Int32} (h0 : i ≠ 9) (h : i < b ∨ b + 32 ≤ i) (h2 : i < 4096 ∨ i ≠ 4096 + x ∧ i ≠ 4096 + o ∧ i ≠ 4096 + t ∧ i ≠ 4096 + v) : (tw_gN g b x o t v r c gd sv).2 i = g.2 i := by
  unfold tw_gN
  dsimp only
  rw [if_neg h0, if_neg (by omega), if_neg (by omega), if_neg (by omega), if_neg (by omega), if_neg (by omega), if_neg (by omega), if_neg (by omega), if_neg (by omega)]
theorem tw_gN_w {g : tw_G} {τ : tw_K} {b j x o t v : Nat} {r c gd sv : Int32} (hb : b = 480 + 64 * j) (hj : j < 4) (h9 : g.2 9 = b) (zx : τ x = 0) (zo : τ o = 0) (zt : τ t = 0) (zv : τ v = 0) : tw_gw2 τ g (tw_gN g b x o t v r c gd sv) := by
  refine ⟨fun i hi => tw_gN_1 (by omega), fun i hi h _ => tw_gN_2 h (by omega) (by omega), ?_, ?_⟩
  · rintro y b2 hy ⟨o1, o2, o3, o4, o5⟩
    have ny : y ≠ x ∧ y ≠ o ∧ y ≠ t ∧ y ≠ v := ⟨fun q => hy (by rw [q]; exact zx), fun q => hy (by rw [q]; exact zo), fun q => hy (by rw [q]; exact zt), fun q => hy (by rw [q]; exact zv)⟩
    have o6 := o3
    unfold tw_al at o3
    refine ⟨⟨o1, o2, ?_, ?_, ?_⟩, fun i hi => tw_gN_1 (by omega)⟩
    · refine o6.le (fun i hi => ?_)
      by_cases q : i = 9
      · rw [q]; show g.2 9 ≤ b + 64; omega
      · rw [tw_gN_2 q (by omega) (by omega)]; exact Nat.le_refl _
    · rw [tw_gN_2 (by omega) (by omega) (by omega)]; exact o4
    · rw [tw_gN_2 (by omega) (by omega) (by omega)]; exact o5
  · intro q hq
    have ny : q ≠ x ∧ q ≠ o ∧ q ≠ t ∧ q ≠ v := ⟨fun z => hq (by rw [z]; exact zx), fun z => hq (by rw [z]; exact zo), fun z => hq (by rw [z]; exact zt), fun z => hq (by rw [z]; exact zv)⟩
    exact tw_gN_2 (by omega) (by omega) (by omega)
theorem tw_gN_o {g : tw_G} {b j x o t v : Nat} {r c gd sv : Int32} (hb : b = 480 + 64 * j) (hj : j < 4) (n1 : x ≠ o) : tw_ow (tw_gN g b x o t v r c gd sv) x b ∧ tw_ow (tw_gN g b x o t v r c gd sv) o (b + 8) := by
  have h25 : (tw_gN g b x o t v r c gd sv).2 9 = b + 64 := rfl
  have a : ∀ b2, b2 + 8 ≤ b + 64 → b ≤ b2 → tw_al (tw_gN g b x o t v r c gd sv) b2 := fun b2 h _ => Or.inr (Or.inl ⟨by omega, by omega, by rw [h25]; omega⟩)
  refine ⟨⟨by omega, by omega, a _ (by omega) (by omega), ?_, ?_⟩, ⟨by omega, by omega, a _ (by omega) (by omega), ?_, ?_⟩⟩ <;> unfold tw_gN <;> dsimp only
  · rw [if_neg (by omega), if_pos rfl]
  · rw [if_neg (by omega), if_neg (by omega), if_neg (by omega), if_neg (by omega), if_neg (by omega), if_pos rfl]
  · rw [if_neg (by omega), if_neg (by omega), if_pos rfl]
  · rw [if_neg (by omega), if_neg (by omega), if_neg (by omega), if_neg (by omega), if_neg (by omega), if_neg (by omega), if_pos rfl]
theorem tw_gN_v5 {g : tw_G} {b x o t v : Nat} {r c gd sv : Int32} (k : Nat) (hk : k < 5) : (tw_gN g b x o t v r c gd sv).1 (b + 24 + k) = 0 := by
  unfold tw_gN
  dsimp only
  rw [if_neg (by omega), if_neg (by omega), if_neg (by omega), if_pos (by omega)]
theorem tw_gN_t {g : tw_G} {b j x o t v : Nat} {r c gd sv : Int32} (hb : b = 480 + 64 * j) (hj : j < 4) (n1 : t ≠ x) (n2 : t ≠ o) : tw_ow (tw_gN g b x o t v r c gd sv) t (b + 24) ∧ ∀ k, k < 5 → (tw_gN g b x o t v r c gd sv).1 (b + 24 + k) = 0 := by
  have h25 : (tw_gN g b x o t v r c gd sv).2 9 = b + 64 := rfl
  have a : ∀ b2, b2 + 8 ≤ b + 64 → b ≤ b2 → tw_al (tw_gN g b x o t v r c gd sv) b2 := fun b2 h _ => Or.inr (Or.inl ⟨by omega, by omega, by rw [h25]; omega⟩)
  refine ⟨⟨by omega, by omega, a _ (by omega) (by omega), ?_, ?_⟩, fun k hk => ?_⟩ <;> unfold tw_gN <;> dsimp only
  · rw [if_neg (by omega), if_neg (by omega), if_neg (by omega), if_pos rfl]
  · rw [if_neg (by omega), if_neg (by omega), if_neg (by omega), if_neg (by omega), if_neg (by omega), if_neg (by omega), if_neg (by omega), if_pos rfl]
  · rw [if_neg (by omega), if_neg (by omega), if_neg (by omega), if_pos (by omega)]
theorem tw_gN_w9 {g : tw_G} {b j x o t v : Nat} {r c gd sv : Int32} (hb : b = 480 + 64 * j) (hj : j < 4) (n1 : v ≠ x) (n2 : v ≠ o) (n3 : v ≠ t) : tw_ow (tw_gN g b x o t v r c gd sv) v (b + 16) ∧ (tw_gN g b x o t v r c gd sv).1 (b + 16) = gd ∧ (tw_gN g b x o t v r c gd sv).1 (b + 17) = sv := by
  have h25 : (tw_gN g b x o t v r c gd sv).2 9 = b + 64 := rfl
  refine ⟨⟨by omega, by omega, Or.inr (Or.inl ⟨by omega, by omega, by rw [h25]; omega⟩), ?_, ?_⟩, ?_, ?_⟩ <;> unfold tw_gN <;> dsimp only
  · rw [if_neg (by omega), if_neg (by omega), if_neg (by omega), if_neg (by omega), if_pos rfl]
  · rw [if_neg (by omega), if_neg (by omega), if_neg (by omega), if_neg (by omega), if_neg (by omega), if_neg (by omega), if_neg (by omega), if_neg (by omega), if_pos rfl]
  · rw [if_neg (by omega), if_neg (by omega), if_neg (by omega), if_neg (by omega), if_pos rfl]
  · rw [if_neg (by omega), if_neg (by omega), if_neg (by omega), if_neg (by omega), if_neg (by omega), if_pos rfl]
theorem tw_gN_v {g : tw_G} {b x o t v : Nat} {r c gd sv : Int32} : (tw_gN g b x o t v r c gd sv).1 b = r ∧ (tw_gN g b x o t v r c gd sv).1 (b + 1) = c ∧ ∀ k, k < 2 → (tw_gN g b x o t v r c gd sv).1 (b + 8 + k) = 1 := by
  refine ⟨if_pos rfl, ?_, fun k hk => ?_⟩ <;> unfold tw_gN <;> dsimp only
  · rw [if_neg (by omega), if_pos rfl]
  · rw [if_neg (by omega), if_neg (by omega), if_pos (by omega)]
theorem tw_vpn {x : Int32} (h : tw_01 x) : vp_nar .boolean x = x := by
  rcases h with rfl | rfl <;> decide
/-! the reference's rows: their blocks -/
def tw_ix4 (r : Nat → Nat) (q : Nat) : Option Nat := if q = r 0 then some 0 else if q = r 1 then some 1 else if q = r 2 then some 2 else if q = r 3 then some 3 else none
theorem tw_ix4_s {r : Nat → Nat} (h : ∀ i j, i < 4 → j < 4 → r i = r j → i = j) {j : Nat} (hj : j < 4) : tw_ix4 r (r j) = some j := by
  have n : ∀ a, a < 4 → a ≠ j → r j ≠ r a := fun a ha n q => n (h j a hj ha q).symm
  unfold tw_ix4
  rcases (show j = 0 ∨ j = 1 ∨ j = 2 ∨ j = 3 by omega) with rfl | rfl | rfl | rfl
  · rw [if_pos rfl]
  · rw [if_neg (n 0 (by decide) (by decide)), if_pos rfl]
  · rw [if_neg (n 0 (by decide) (by decide)), if_neg (n 1 (by decide) (by decide)), if_pos rfl]
  · rw [if_neg (n 0 (by decide) (by decide)), if_neg (n 1 (by decide) (by decide)), if_neg (n 2 (by decide) (by decide)), if_pos rfl]
theorem tw_ix4_n {r : Nat → Nat} {q : Nat} (h : ∀ j, j < 4 → q ≠ r j) : tw_ix4 r q = none := by
  unfold tw_ix4
  rw [if_neg (h 0 (by decide)), if_neg (h 1 (by decide)), if_neg (h 2 (by decide)), if_neg (h 3 (by decide))]
def tw_gMh (g : tw_G) (ds fr ca us wo cm : Nat) (r s : Nat → Nat) (q : Nat) : Nat := match tw_ix4 r q with
  | some j => 416 + 8 * j
  | none => match tw_ix4 s q with
    | some j => 448 + 8 * j
    | none => if q = ds then 416 else if q = fr then 448 else if q = ca then 1344 else if q = us then 1352 else if q = wo then 1360 else if q = cm then 1368 else g.2 (4096 + q)
def tw_gM (g : tw_G) (x lc lh ld ds fr ca us wo cm : Nat) (r s : Nat → Nat) : tw_G :=
  (fun k => if k = 0 then g.1 0 else if k = 1 then 155 else if 416 ≤ k ∧ k < 448 then 3 else if 448 ≤ k ∧ k < 480 then 10 else if 1312 ≤ k ∧ k < 1344 then g.1 k else 0,
   fun k => if k < 4096 then (if k < 3 ∨ (6 ≤ k ∧ k < 9) ∨ (18 ≤ k ∧ k < 22) ∨ k = 24 ∨ k = 10 ∨ k = 130 ∨ k = 132 ∨ k = 134 ∨ (1312 ≤ k ∧ k < 1344) then g.2 k else if k = 9 then 480 else if k = 11 then x else if k = 12 then lc else if k = 13 then lh else if k = 14 then ld else if 416 ≤ k ∧ k < 448 then r ((k - 416) / 8) else if 448 ≤ k ∧ k < 480 then s ((k - 448) / 8) else if k = 131 then 960 else if k = 133 then 1232 else if k = 135 then 1376 else if k = 1344 then ca else if k = 1352 then us else if k = 1360 then wo else if k = 1368 then cm else 0) else tw_gMh g ds fr ca us wo cm r s (k - 4096))
theorem tw_gM_h {g : tw_G} {x lc lh ld ds fr ca us wo cm q : Nat} {r s : Nat → Nat} : (tw_gM g x lc lh ld ds fr ca us wo cm r s).2 (4096 + q) = tw_gMh g ds fr ca us wo cm r s q := by
  unfold tw_gM
  dsimp only
  rw [if_neg (by omega), show 4096 + q - 4096 = q by omega]
theorem tw_gM_r {g : tw_G} {x lc lh ld ds fr ca us wo cm j : Nat} {r s : Nat → Nat} (hj : j < 4) : (tw_gM g x lc lh ld ds fr ca us wo cm r s).2 (416 + 8 * j) = r j ∧ (tw_gM g x lc lh ld ds fr ca us wo cm r s).2 (448 + 8 * j) = s j := by
  unfold tw_gM
  dsimp only
  constructor
  · rw [if_pos (by omega), if_neg (by omega), if_neg (by omega), if_neg (by omega), if_neg (by omega), if_neg (by omega), if_neg (by omega), if_pos (by omega), show (416 + 8 * j - 416) / 8 = j by omega]
  · rw [if_pos (by omega), if_neg (by omega), if_neg (by omega), if_neg (by omega), if_neg (by omega), if_neg (by omega), if_neg (by omega), if_neg (by omega), if_pos (by omega), show (448 + 8 * j - 448) / 8 = j by omega]
theorem tw_gM_c {g : tw_G} {x lc lh ld ds fr ca us wo cm j k : Nat} {r s : Nat → Nat} (hj : j < 4) (hk : k < 4) : (tw_gM g x lc lh ld ds fr ca us wo cm r s).1 (416 + 8 * j + k) = 3 ∧ (tw_gM g x lc lh ld ds fr ca us wo cm r s).1 (448 + 8 * j + k) = 10 := by
  unfold tw_gM
  dsimp only
  constructor
  · rw [if_neg (by omega), if_neg (by omega), if_pos (by omega)]
  · rw [if_neg (by omega), if_neg (by omega), if_neg (by omega), if_pos (by omega)]
theorem tw_gM_o {g : tw_G} {x lc lh ld ds fr ca us wo cm : Nat} {r s : Nat → Nat} (hr : ∀ i j, i < 4 → j < 4 → r i = r j → i = j) (hs : ∀ i j, i < 4 → j < 4 → s i = s j → i = j) (hrs : ∀ i j, i < 4 → j < 4 → r i ≠ s j) (hd : ∀ i, i < 4 → ds ≠ r i ∧ ds ≠ s i ∧ fr ≠ r i ∧ fr ≠ s i) (hdf : fr ≠ ds) :
    (∀ j, j < 4 → tw_ow (tw_gM g x lc lh ld ds fr ca us wo cm r s) (r j) (416 + 8 * j) ∧ tw_ow (tw_gM g x lc lh ld ds fr ca us wo cm r s) (s j) (448 + 8 * j)) ∧ (tw_gM g x lc lh ld ds fr ca us wo cm r s).2 (4096 + ds) = 416 ∧ (tw_gM g x lc lh ld ds fr ca us wo cm r s).2 (4096 + fr) = 448 := by
  have h9 : (tw_gM g x lc lh ld ds fr ca us wo cm r s).2 9 = 480 := rfl
  refine ⟨fun j hj => ⟨⟨by omega, by omega, Or.inr (Or.inl ⟨by omega, by omega, by rw [h9]; omega⟩), (tw_gM_r hj).1.symm, ?_⟩, ⟨by omega, by omega, Or.inr (Or.inl ⟨by omega, by omega, by rw [h9]; omega⟩), (tw_gM_r hj).2.symm, ?_⟩⟩, ?_, ?_⟩ <;> rw [tw_gM_h] <;> unfold tw_gMh
  · rw [tw_ix4_s hr hj]
  · rw [tw_ix4_n (fun i hi q => hrs i j hi hj q.symm), tw_ix4_s hs hj]
  · rw [tw_ix4_n (fun i hi => (hd i hi).1), tw_ix4_n (fun i hi => (hd i hi).2.1)]
    exact if_pos rfl
  · rw [tw_ix4_n (fun i hi => (hd i hi).2.2.1), tw_ix4_n (fun i hi => (hd i hi).2.2.2)]
    dsimp only
    rw [if_neg hdf, if_pos rfl]
theorem tw_gM_R {g : tw_G} {x lc lh ld ds fr ca us wo cm q : Nat} {r s : Nat → Nat} {τ : tw_K} (zr : ∀ i, i < 4 → τ (r i) = 0) (zs : ∀ i, i < 4 → τ (s i) = 0) (zd : τ ds = 0) (zf : τ fr = 0) (za : τ ca = 0) (zu : τ us = 0) (zw : τ wo = 0) (zc : τ cm = 0) (hq : τ q ≠ 0) : (tw_gM g x lc lh ld ds fr ca us wo cm r s).2 (4096 + q) = g.2 (4096 + q) := by
  rw [tw_gM_h]
  unfold tw_gMh
  rw [tw_ix4_n (fun i hi z => hq (by rw [z]; exact zr i hi)), tw_ix4_n (fun i hi z => hq (by rw [z]; exact zs i hi))]
  dsimp only
  rw [if_neg (fun z => hq (by rw [z]; exact zd)), if_neg (fun z => hq (by rw [z]; exact zf)), if_neg (fun z => hq (by rw [z]; exact za)), if_neg (fun z => hq (by rw [z]; exact zu)), if_neg (fun z => hq (by rw [z]; exact zw)), if_neg (fun z => hq (by rw [z]; exact zc))]
theorem tw_4 {p : Nat → Prop} (h0 : p 0) (h1 : p 1) (h2 : p 2) (h3 : p 3) : ∀ i, i < 4 → p i := by
  intro i hi
  rcases (show i = 0 ∨ i = 1 ∨ i = 2 ∨ i = 3 by omega) with rfl | rfl | rfl | rfl <;> assumption
theorem tw_gM_lo {g : tw_G} {x lc lh ld ds fr ca us wo cm i : Nat} {r s : Nat → Nat} (h : i < 3 ∨ (6 ≤ i ∧ i < 9) ∨ (18 ≤ i ∧ i < 22) ∨ i = 24 ∨ i = 10) : (tw_gM g x lc lh ld ds fr ca us wo cm r s).2 i = g.2 i := by
  unfold tw_gM
  dsimp only
  rw [if_pos (by omega), if_pos (by omega)]
theorem tw_gM_z {g : tw_G} {x lc lh ld ds fr ca us wo cm i : Nat} {r s : Nat → Nat} (h1 : 3 ≤ i) (h2 : i < 6) : (tw_gM g x lc lh ld ds fr ca us wo cm r s).2 i = 0 := by
  rcases (show i = 3 ∨ i = 4 ∨ i = 5 by omega) with rfl | rfl | rfl <;> rfl
theorem tw_gM_o4 {g : tw_G} {x lc lh ld ds fr ca us wo cm : Nat} {r s : Nat → Nat} (A : ∀ i, i < 4 → (ca ≠ r i ∧ ca ≠ s i) ∧ (us ≠ r i ∧ us ≠ s i) ∧ (wo ≠ r i ∧ wo ≠ s i) ∧ cm ≠ r i ∧ cm ≠ s i) (n1 : ca ≠ ds) (n2 : ca ≠ fr) (n3 : us ≠ ds) (n4 : us ≠ fr) (n5 : us ≠ ca) (n6 : wo ≠ ds) (n7 : wo ≠ fr) (n8 : wo ≠ ca) (n9 : wo ≠ us) (m1 : cm ≠ ds) (m2 : cm ≠ fr) (m3 : cm ≠ ca) (m4 : cm ≠ us) (m5 : cm ≠ wo) : tw_ow (tw_gM g x lc lh ld ds fr ca us wo cm r s) ca 1344 ∧ tw_ow (tw_gM g x lc lh ld ds fr ca us wo cm r s) us 1352 ∧ tw_ow (tw_gM g x lc lh ld ds fr ca us wo cm r s) wo 1360 ∧ tw_ow (tw_gM g x lc lh ld ds fr ca us wo cm r s) cm 1368 := by
  have al : ∀ b, 1344 ≤ b → b + 8 ≤ 1376 → tw_al (tw_gM g x lc lh ld ds fr ca us wo cm r s) b := fun b h1 h2 => Or.inr (Or.inr (Or.inr (Or.inr (Or.inr (Or.inr (Or.inr ⟨h1, h2, h2⟩))))))
  refine ⟨⟨by decide, by decide, al _ (by decide) (by decide), rfl, ?_⟩, ⟨by decide, by decide, al _ (by decide) (by decide), rfl, ?_⟩, ⟨by decide, by decide, al _ (by decide) (by decide), rfl, ?_⟩, ⟨by decide, by decide, al _ (by decide) (by decide), rfl, ?_⟩⟩ <;> rw [tw_gM_h] <;> unfold tw_gMh
  · rw [tw_ix4_n (fun i hi => (A i hi).1.1), tw_ix4_n (fun i hi => (A i hi).1.2)]
    dsimp only
    rw [if_neg n1, if_neg n2, if_pos rfl]
  · rw [tw_ix4_n (fun i hi => (A i hi).2.1.1), tw_ix4_n (fun i hi => (A i hi).2.1.2)]
    dsimp only
    rw [if_neg n3, if_neg n4, if_neg n5, if_pos rfl]
  · rw [tw_ix4_n (fun i hi => (A i hi).2.2.1.1), tw_ix4_n (fun i hi => (A i hi).2.2.1.2)]
    dsimp only
    rw [if_neg n6, if_neg n7, if_neg n8, if_neg n9, if_pos rfl]
  · rw [tw_ix4_n (fun i hi => (A i hi).2.2.2.1), tw_ix4_n (fun i hi => (A i hi).2.2.2.2)]
    dsimp only
    rw [if_neg m1, if_neg m2, if_neg m3, if_neg m4, if_neg m5, if_pos rfl]
theorem tw_gM_z1 {g : tw_G} {x lc lh ld ds fr ca us wo cm i : Nat} {r s : Nat → Nat} (h0 : 128 ≤ i) (h1 : i < 416 ∨ 480 ≤ i) (h2 : i < 1312 ∨ 1344 ≤ i) : (tw_gM g x lc lh ld ds fr ca us wo cm r s).1 i = 0 := by
  unfold tw_gM
  dsimp only
  rw [if_neg (by omega), if_neg (by omega), if_neg (by omega), if_neg (by omega), if_neg (by omega)]
theorem tw_gM_z2 {g : tw_G} {x lc lh ld ds fr ca us wo cm i : Nat} {r s : Nat → Nat} (h1 : 1312 ≤ i) (h2 : i < 1344) : (tw_gM g x lc lh ld ds fr ca us wo cm r s).1 i = g.1 i := by
  unfold tw_gM
  dsimp only
  rw [if_neg (by omega), if_neg (by omega), if_neg (by omega), if_neg (by omega), if_pos (by omega)]
theorem tw_gM_k {g : tw_G} {x lc lh ld ds fr ca us wo cm y b : Nat} {r s : Nat → Nat} (h24 : g.2 24 = 160) (h9 : g.2 9 = 0) (h5 : g.2 130 = 768 ∧ g.2 131 = 0 ∧ g.2 132 = 1152 ∧ g.2 133 = 0 ∧ g.2 134 = 1344 ∧ g.2 135 = 0) (hR : (tw_gM g x lc lh ld ds fr ca us wo cm r s).2 (4096 + y) = g.2 (4096 + y)) (o : tw_ow g y b) : tw_ow (tw_gM g x lc lh ld ds fr ca us wo cm r s) y b ∧ ∀ i, i < 8 → (tw_gM g x lc lh ld ds fr ca us wo cm r s).1 (b + i) = g.1 (b + i) := by
  obtain ⟨o1, o2, o3, o4, o5⟩ := o
  unfold tw_al at o3
  have hb : 1312 ≤ b ∧ b + 8 ≤ 1344 := by omega
  have e134 : (tw_gM g x lc lh ld ds fr ca us wo cm r s).2 134 = g.2 134 := rfl
  refine ⟨⟨o1, o2, Or.inr (Or.inr (Or.inr (Or.inr (Or.inr (Or.inr (Or.inl ⟨by omega, by omega, by rw [e134]; omega⟩)))))), ?_, hR.trans o5⟩, fun i hi => ?_⟩
  · rw [o4]
    unfold tw_gM
    dsimp only
    rw [if_pos (by omega), if_pos (by omega)]
  · unfold tw_gM
    dsimp only
    rw [if_neg (by omega), if_neg (by omega), if_neg (by omega), if_neg (by omega), if_pos (by omega)]
theorem tw_4k {τ : tw_K} {r : Nat → Nat} {k : Nat} (h0 : τ (r 0) = k) (h1 : τ (r 1) = k) (h2 : τ (r 2) = k) (h3 : τ (r 3) = k) : ∀ i, i < 4 → τ (r i) = k := fun i hi => by
  rcases (show i = 0 ∨ i = 1 ∨ i = 2 ∨ i = 3 by omega) with rfl | rfl | rfl | rfl <;> assumption
theorem tw_rmN2 {h : tw_H} {x q b : Nat} (w : tw_rm h x q = none) (z : b = q) (n1 : b ≠ x) : h b = none := by
  subst z
  exact (if_neg n1).symm.trans w
/-- a till's coins, taken out -/
def tw_gT (g : tw_G) (b : Nat) (F : Nat → Nat) : tw_G := (fun i => if b ≤ i ∧ i < b + 5 then g.1 i - nI (F (i - b)) else g.1 i, g.2)
/-- the class makes a house, in the country r, with its purse -/
def tw_gH (g : tw_G) (b x p : Nat) (r gd sv : Int32) : tw_G := (fun i => if i = b + 0 then (-1) else if i = b + 1 then r else if i = b + 2 then (-1) else if i = b + 8 then gd else if i = b + 9 then sv else g.1 i, fun i => if i = 130 then b + 32 else if i = b + 0 then x else if i = b + 8 then p else if i = 4096 + x then b + 0 else if i = 4096 + p then b + 8 else g.2 i)
theorem tw_gH_1 {g : tw_G} {b x p i : Nat} {r gd sv : Int32} (h : i < b ∨ b + 10 ≤ i) : (tw_gH g b x p r gd sv).1 i = g.1 i := by
  unfold tw_gH
  dsimp only
  rw [if_neg (by omega), if_neg (by omega), if_neg (by omega), if_neg (by omega), if_neg (by omega)]
theorem tw_gH_2 {g : tw_G} {b x p i : Nat} {r gd sv : Int32} (h0 : i ≠ 130) (h : i < b ∨ b + 10 ≤ i) (h2 : i < 4096 ∨ i ≠ 4096 + x ∧ i ≠ 4096 + p) : (tw_gH g b x p r gd sv).2 i = g.2 i := by
  unfold tw_gH
  dsimp only
  rw [if_neg h0, if_neg (by omega), if_neg (by omega), if_neg (by omega), if_neg (by omega)]
theorem tw_gH_w {g : tw_G} {b x p j : Nat} {r gd sv : Int32} {τ : tw_K} (hb : b = 768 + 32 * j) (hj : j < 6) (hf : g.2 130 = b) (zx : τ x = 0) (zp : τ p = 0) : tw_gw2 τ g (tw_gH g b x p r gd sv) := by
  refine ⟨fun i hi => tw_gH_1 (by omega), fun i hi _ _ => tw_gH_2 (by omega) (by omega) (by omega), ?_, ?_⟩
  · rintro y b2 hy ⟨o1, o2, o3, o4, o5⟩
    have ny : y ≠ x ∧ y ≠ p := ⟨fun q => hy (by rw [q]; exact zx), fun q => hy (by rw [q]; exact zp)⟩
    have o6 := o3
    unfold tw_al at o3
    refine ⟨⟨o1, o2, ?_, ?_, ?_⟩, fun i hi => tw_gH_1 (by omega)⟩
    · refine o6.le (fun i hi => ?_)
      by_cases q : i = 130
      · rw [q]; show g.2 130 ≤ b + 32; omega
      · rw [tw_gH_2 q (by omega) (by omega)]; exact Nat.le_refl _
    · rw [tw_gH_2 (by omega) (by omega) (by omega)]; exact o4
    · rw [tw_gH_2 (by omega) (by omega) (by omega)]; exact o5
  · intro q hq
    have ny : q ≠ x ∧ q ≠ p := ⟨fun z => hq (by rw [z]; exact zx), fun z => hq (by rw [z]; exact zp)⟩
    exact tw_gH_2 (by omega) (by omega) (by omega)
theorem tw_gH_o {g : tw_G} {b x p j : Nat} {r gd sv : Int32} (hb : b = 768 + 32 * j) (hj : j < 6) (n01 : p ≠ x) : tw_ow (tw_gH g b x p r gd sv) x (b + 0) ∧ tw_ow (tw_gH g b x p r gd sv) p (b + 8) := by
  have h25 : (tw_gH g b x p r gd sv).2 130 = b + 32 := rfl
  refine ⟨⟨by omega, by omega, Or.inr (Or.inr (Or.inl ⟨by omega, by omega, by rw [h25]; omega⟩)), ?_, ?_⟩, ⟨by omega, by omega, Or.inr (Or.inr (Or.inl ⟨by omega, by omega, by rw [h25]; omega⟩)), ?_, ?_⟩⟩ <;> unfold tw_gH <;> dsimp only
  · rw [if_neg (by omega), if_pos rfl]
  · rw [if_neg (by omega), if_neg (by omega), if_neg (by omega), if_pos rfl]
  · rw [if_neg (by omega), if_neg (by omega), if_pos rfl]
  · rw [if_neg (by omega), if_neg (by omega), if_neg (by omega), if_neg (by omega), if_pos rfl]
theorem tw_gH_v {g : tw_G} {b x p : Nat} {r gd sv : Int32} : (tw_gH g b x p r gd sv).1 (b + 0) = (-1) ∧ (tw_gH g b x p r gd sv).1 (b + 1) = r ∧ (tw_gH g b x p r gd sv).1 (b + 2) = (-1) ∧ (tw_gH g b x p r gd sv).1 (b + 8) = gd ∧ (tw_gH g b x p r gd sv).1 (b + 9) = sv := by
  refine ⟨?_, ?_, ?_, ?_, ?_⟩ <;> unfold tw_gH <;> dsimp only
  · rw [if_pos rfl]
  · rw [if_neg (by omega), if_pos rfl]
  · rw [if_neg (by omega), if_neg (by omega), if_pos rfl]
  · rw [if_neg (by omega), if_neg (by omega), if_neg (by omega), if_pos rfl]
  · rw [if_neg (by omega), if_neg (by omega), if_neg (by omega), if_neg (by omega), if_pos rfl]
/-- the reference makes a house -/
def tw_gHM (g : tw_G) (b x p : Nat) (r gd sv : Int32) : tw_G := (fun i => if i = b + 0 then (-1) else if i = b + 1 then r else if i = b + 2 then (-1) else if i = b + 8 then gd else if i = b + 9 then sv else g.1 i, fun i => if i = 131 then b + 32 else if i = b + 0 then x else if i = b + 8 then p else if i = 4096 + x then b + 0 else if i = 4096 + p then b + 8 else g.2 i)
theorem tw_gHM_1 {g : tw_G} {b x p i : Nat} {r gd sv : Int32} (h : i < b ∨ b + 10 ≤ i) : (tw_gHM g b x p r gd sv).1 i = g.1 i := by
  unfold tw_gHM
  dsimp only
  rw [if_neg (by omega), if_neg (by omega), if_neg (by omega), if_neg (by omega), if_neg (by omega)]
theorem tw_gHM_2 {g : tw_G} {b x p i : Nat} {r gd sv : Int32} (h0 : i ≠ 131) (h : i < b ∨ b + 10 ≤ i) (h2 : i < 4096 ∨ i ≠ 4096 + x ∧ i ≠ 4096 + p) : (tw_gHM g b x p r gd sv).2 i = g.2 i := by
  unfold tw_gHM
  dsimp only
  rw [if_neg h0, if_neg (by omega), if_neg (by omega), if_neg (by omega), if_neg (by omega)]
theorem tw_gHM_w {g : tw_G} {b x p j : Nat} {r gd sv : Int32} {τ : tw_K} (hb : b = 960 + 32 * j) (hj : j < 6) (hf : g.2 131 = b) (zx : τ x = 0) (zp : τ p = 0) : tw_gw2 τ g (tw_gHM g b x p r gd sv) := by
  refine ⟨fun i hi => tw_gHM_1 (by omega), fun i hi _ _ => tw_gHM_2 (by omega) (by omega) (by omega), ?_, ?_⟩
  · rintro y b2 hy ⟨o1, o2, o3, o4, o5⟩
    have ny : y ≠ x ∧ y ≠ p := ⟨fun q => hy (by rw [q]; exact zx), fun q => hy (by rw [q]; exact zp)⟩
    have o6 := o3
    unfold tw_al at o3
    refine ⟨⟨o1, o2, ?_, ?_, ?_⟩, fun i hi => tw_gHM_1 (by omega)⟩
    · refine o6.le (fun i hi => ?_)
      by_cases q : i = 131
      · rw [q]; show g.2 131 ≤ b + 32; omega
      · rw [tw_gHM_2 q (by omega) (by omega)]; exact Nat.le_refl _
    · rw [tw_gHM_2 (by omega) (by omega) (by omega)]; exact o4
    · rw [tw_gHM_2 (by omega) (by omega) (by omega)]; exact o5
  · intro q hq
    have ny : q ≠ x ∧ q ≠ p := ⟨fun z => hq (by rw [z]; exact zx), fun z => hq (by rw [z]; exact zp)⟩
    exact tw_gHM_2 (by omega) (by omega) (by omega)
theorem tw_gHM_o {g : tw_G} {b x p j : Nat} {r gd sv : Int32} (hb : b = 960 + 32 * j) (hj : j < 6) (n01 : p ≠ x) : tw_ow (tw_gHM g b x p r gd sv) x (b + 0) ∧ tw_ow (tw_gHM g b x p r gd sv) p (b + 8) := by
  have h25 : (tw_gHM g b x p r gd sv).2 131 = b + 32 := rfl
  refine ⟨⟨by omega, by omega, Or.inr (Or.inr (Or.inr (Or.inl ⟨by omega, by omega, by rw [h25]; omega⟩))), ?_, ?_⟩, ⟨by omega, by omega, Or.inr (Or.inr (Or.inr (Or.inl ⟨by omega, by omega, by rw [h25]; omega⟩))), ?_, ?_⟩⟩ <;> unfold tw_gHM <;> dsimp only
  · rw [if_neg (by omega), if_pos rfl]
  · rw [if_neg (by omega), if_neg (by omega), if_neg (by omega), if_pos rfl]
  · rw [if_neg (by omega), if_neg (by omega), if_pos rfl]
  · rw [if_neg (by omega), if_neg (by omega), if_neg (by omega), if_neg (by omega), if_pos rfl]
theorem tw_gHM_v {g : tw_G} {b x p : Nat} {r gd sv : Int32} : (tw_gHM g b x p r gd sv).1 (b + 0) = (-1) ∧ (tw_gHM g b x p r gd sv).1 (b + 1) = r ∧ (tw_gHM g b x p r gd sv).1 (b + 2) = (-1) ∧ (tw_gHM g b x p r gd sv).1 (b + 8) = gd ∧ (tw_gHM g b x p r gd sv).1 (b + 9) = sv := by
  refine ⟨?_, ?_, ?_, ?_, ?_⟩ <;> unfold tw_gHM <;> dsimp only
  · rw [if_pos rfl]
  · rw [if_neg (by omega), if_pos rfl]
  · rw [if_neg (by omega), if_neg (by omega), if_pos rfl]
  · rw [if_neg (by omega), if_neg (by omega), if_neg (by omega), if_pos rfl]
  · rw [if_neg (by omega), if_neg (by omega), if_neg (by omega), if_neg (by omega), if_pos rfl]
/-- the class makes a debt -/
def tw_gD (g : tw_G) (b x : Nat) (v dy f c : Int32) : tw_G := (fun i => if i = b + 0 then v else if i = b + 1 then dy else if i = b + 2 then 0 else if i = b + 3 then f else if i = b + 4 then c else g.1 i, fun i => if i = 132 then b + 8 else if i = b + 0 then x else if i = 4096 + x then b + 0 else g.2 i)
theorem tw_gD_1 {g : tw_G} {b x i : Nat} {v dy f c : Int32} (h : i < b ∨ b + 8 ≤ i) : (tw_gD g b x v dy f c).1 i = g.1 i := by
  unfold tw_gD
  dsimp only
  rw [if_neg (by omega), if_neg (by omega), if_neg (by omega), if_neg (by omega), if_neg (by omega)]
theorem tw_gD_2 {g : tw_G} {b x i : Nat} {v dy f c : Int32} (h0 : i ≠ 132) (h : i < b ∨ b + 8 ≤ i) (h2 : i < 4096 ∨ i ≠ 4096 + x) : (tw_gD g b x v dy f c).2 i = g.2 i := by
  unfold tw_gD
  dsimp only
  rw [if_neg h0, if_neg (by omega), if_neg (by omega)]
theorem tw_gD_w {g : tw_G} {b x j : Nat} {v dy f c : Int32} {τ : tw_K} (hb : b = 1152 + 8 * j) (hj : j < 10) (hf : g.2 132 = b) (zx : τ x = 0) : tw_gw2 τ g (tw_gD g b x v dy f c) := by
  refine ⟨fun i hi => tw_gD_1 (by omega), fun i hi _ _ => tw_gD_2 (by omega) (by omega) (by omega), ?_, ?_⟩
  · rintro y b2 hy ⟨o1, o2, o3, o4, o5⟩
    have ny : y ≠ x := fun q => hy (by rw [q]; exact zx)
    have o6 := o3
    unfold tw_al at o3
    refine ⟨⟨o1, o2, ?_, ?_, ?_⟩, fun i hi => tw_gD_1 (by omega)⟩
    · refine o6.le (fun i hi => ?_)
      by_cases q : i = 132
      · rw [q]; show g.2 132 ≤ b + 8; omega
      · rw [tw_gD_2 q (by omega) (by omega)]; exact Nat.le_refl _
    · rw [tw_gD_2 (by omega) (by omega) (by omega)]; exact o4
    · rw [tw_gD_2 (by omega) (by omega) (by omega)]; exact o5
  · intro q hq
    have ny : q ≠ x := fun z => hq (by rw [z]; exact zx)
    exact tw_gD_2 (by omega) (by omega) (by omega)
theorem tw_gD_o {g : tw_G} {b x j : Nat} {v dy f c : Int32} (hb : b = 1152 + 8 * j) (hj : j < 10)  : tw_ow (tw_gD g b x v dy f c) x (b + 0) := by
  have h25 : (tw_gD g b x v dy f c).2 132 = b + 8 := rfl
  refine ⟨by omega, by omega, Or.inr (Or.inr (Or.inr (Or.inr (Or.inl ⟨by omega, by omega, by rw [h25]; omega⟩)))), ?_, ?_⟩ <;> unfold tw_gD <;> dsimp only
  · rw [if_neg (by omega), if_pos rfl]
  · rw [if_neg (by omega), if_neg (by omega), if_pos rfl]
theorem tw_gD_v {g : tw_G} {b x : Nat} {v dy f c : Int32} : (tw_gD g b x v dy f c).1 (b + 0) = v ∧ (tw_gD g b x v dy f c).1 (b + 1) = dy ∧ (tw_gD g b x v dy f c).1 (b + 2) = 0 ∧ (tw_gD g b x v dy f c).1 (b + 3) = f ∧ (tw_gD g b x v dy f c).1 (b + 4) = c := by
  refine ⟨?_, ?_, ?_, ?_, ?_⟩ <;> unfold tw_gD <;> dsimp only
  · rw [if_pos rfl]
  · rw [if_neg (by omega), if_pos rfl]
  · rw [if_neg (by omega), if_neg (by omega), if_pos rfl]
  · rw [if_neg (by omega), if_neg (by omega), if_neg (by omega), if_pos rfl]
  · rw [if_neg (by omega), if_neg (by omega), if_neg (by omega), if_neg (by omega), if_pos rfl]
/-- the reference makes a debt -/
def tw_gDM (g : tw_G) (b x : Nat) (v dy f c : Int32) : tw_G := (fun i => if i = b + 0 then v else if i = b + 1 then dy else if i = b + 2 then 0 else if i = b + 3 then f else if i = b + 4 then c else g.1 i, fun i => if i = 133 then b + 8 else if i = b + 0 then x else if i = 4096 + x then b + 0 else g.2 i)
theorem tw_gDM_1 {g : tw_G} {b x i : Nat} {v dy f c : Int32} (h : i < b ∨ b + 8 ≤ i) : (tw_gDM g b x v dy f c).1 i = g.1 i := by
  unfold tw_gDM
  dsimp only
  rw [if_neg (by omega), if_neg (by omega), if_neg (by omega), if_neg (by omega), if_neg (by omega)]
theorem tw_gDM_2 {g : tw_G} {b x i : Nat} {v dy f c : Int32} (h0 : i ≠ 133) (h : i < b ∨ b + 8 ≤ i) (h2 : i < 4096 ∨ i ≠ 4096 + x) : (tw_gDM g b x v dy f c).2 i = g.2 i := by
  unfold tw_gDM
  dsimp only
  rw [if_neg h0, if_neg (by omega), if_neg (by omega)]
theorem tw_gDM_w {g : tw_G} {b x j : Nat} {v dy f c : Int32} {τ : tw_K} (hb : b = 1232 + 8 * j) (hj : j < 10) (hf : g.2 133 = b) (zx : τ x = 0) : tw_gw2 τ g (tw_gDM g b x v dy f c) := by
  refine ⟨fun i hi => tw_gDM_1 (by omega), fun i hi _ _ => tw_gDM_2 (by omega) (by omega) (by omega), ?_, ?_⟩
  · rintro y b2 hy ⟨o1, o2, o3, o4, o5⟩
    have ny : y ≠ x := fun q => hy (by rw [q]; exact zx)
    have o6 := o3
    unfold tw_al at o3
    refine ⟨⟨o1, o2, ?_, ?_, ?_⟩, fun i hi => tw_gDM_1 (by omega)⟩
    · refine o6.le (fun i hi => ?_)
      by_cases q : i = 133
      · rw [q]; show g.2 133 ≤ b + 8; omega
      · rw [tw_gDM_2 q (by omega) (by omega)]; exact Nat.le_refl _
    · rw [tw_gDM_2 (by omega) (by omega) (by omega)]; exact o4
    · rw [tw_gDM_2 (by omega) (by omega) (by omega)]; exact o5
  · intro q hq
    have ny : q ≠ x := fun z => hq (by rw [z]; exact zx)
    exact tw_gDM_2 (by omega) (by omega) (by omega)
theorem tw_gDM_o {g : tw_G} {b x j : Nat} {v dy f c : Int32} (hb : b = 1232 + 8 * j) (hj : j < 10)  : tw_ow (tw_gDM g b x v dy f c) x (b + 0) := by
  have h25 : (tw_gDM g b x v dy f c).2 133 = b + 8 := rfl
  refine ⟨by omega, by omega, Or.inr (Or.inr (Or.inr (Or.inr (Or.inr (Or.inl ⟨by omega, by omega, by rw [h25]; omega⟩))))), ?_, ?_⟩ <;> unfold tw_gDM <;> dsimp only
  · rw [if_neg (by omega), if_pos rfl]
  · rw [if_neg (by omega), if_neg (by omega), if_pos rfl]
theorem tw_gDM_v {g : tw_G} {b x : Nat} {v dy f c : Int32} : (tw_gDM g b x v dy f c).1 (b + 0) = v ∧ (tw_gDM g b x v dy f c).1 (b + 1) = dy ∧ (tw_gDM g b x v dy f c).1 (b + 2) = 0 ∧ (tw_gDM g b x v dy f c).1 (b + 3) = f ∧ (tw_gDM g b x v dy f c).1 (b + 4) = c := by
  refine ⟨?_, ?_, ?_, ?_, ?_⟩ <;> unfold tw_gDM <;> dsimp only
  · rw [if_pos rfl]
  · rw [if_neg (by omega), if_pos rfl]
  · rw [if_neg (by omega), if_neg (by omega), if_pos rfl]
  · rw [if_neg (by omega), if_neg (by omega), if_neg (by omega), if_pos rfl]
  · rw [if_neg (by omega), if_neg (by omega), if_neg (by omega), if_neg (by omega), if_pos rfl]
/-- a number grows -/
def tw_ad (g : tw_G) (i : Nat) (n : Int32) : tw_G := tw_g1 g i (g.1 i + n)
theorem tw_ad_1 {g : tw_G} {i j : Nat} {n : Int32} : (tw_ad g i n).1 j = if j = i then g.1 i + n else g.1 j := rfl
theorem tw_ad_ne {g : tw_G} {i j : Nat} {n : Int32} (h : j ≠ i) : (tw_ad g i n).1 j = g.1 j := if_neg h
theorem tw_ad_eq {g : tw_G} {i : Nat} {n : Int32} : (tw_ad g i n).1 i = g.1 i + n := if_pos rfl
theorem tw_pc.ne {g : tw_G} {o : Option Nat} {k i : Nat} {v : Int32} (h : tw_pc g o (g.1 k)) (n : k ≠ i) : tw_pc (tw_g1 g i v) o ((tw_g1 g i v).1 k) := by
  rw [tw_g1_ne n]
  exact h
theorem tw_pc.nn {g : tw_G} {i : Nat} : tw_pc (tw_g1 g i (-1)) none ((tw_g1 g i (-1)).1 i) := Or.inl ⟨rfl, tw_g1_eq⟩
theorem tw_pc.ss {g : tw_G} {i q j : Nat} (hj : j < 4) (hb : g.2 (4096 + q) = 160 + 64 * j) : tw_pc (tw_g1 g i (nI j)) (some q) ((tw_g1 g i (nI j)).1 i) := Or.inr ⟨q, j, rfl, hj, tw_g1_eq, hb⟩
theorem tw_pc.n {g : tw_G} {c : Int32} (h : tw_pc g none c) : c = -1 := by
  rcases h with ⟨-, e⟩ | ⟨q, i, e, -⟩
  · exact e
  · cases e
theorem tw_pc.s {g : tw_G} {c : Int32} {q : Nat} (h : tw_pc g (some q) c) : ∃ i, i < 4 ∧ c = nI i ∧ g.2 (4096 + q) = 160 + 64 * i := by
  rcases h with ⟨e, -⟩ | ⟨q1, i, e, h1, h2, h3⟩
  · cases e
  · cases e
    exact ⟨i, h1, h2, h3⟩
theorem tw_f31.up {g : tw_G} {x b k : Nat} {f : Nat → Int64} {v : Int32} {w : Int64} (o : tw_ow g x b) (h : ∀ i, i < 2 → f i = (g.1 (b + i)).toInt64) (e : w = v.toInt64) : tw_f31 (tw_g1 g (b + k) v) x (vp_updL f k w) := by
  refine ⟨b, o, fun i hi => ?_⟩
  unfold vp_updL
  by_cases q : i = k
  · rw [if_pos q, q, tw_g1_eq]; exact e
  · rw [if_neg q, tw_g1_ne (by omega)]; exact h i hi
theorem tw_rm_s2 {h : tw_H} {x v : Nat} : tw_rm (tw_rm h x) v x = none := by
  unfold tw_rm
  by_cases q : x = v
  · rw [if_pos q]
  · rw [if_neg q, if_pos rfl]
theorem tw_rm_so {h : tw_H} {x v b : Nat} {e : va_E} (hb : tw_rm (tw_rm h x) v b = some e) : b ≠ x ∧ b ≠ v ∧ h b = some e := by
  unfold tw_rm at hb
  by_cases q : b = v
  · rw [if_pos q] at hb
    cases hb
  · rw [if_neg q] at hb
    by_cases q2 : b = x
    · rw [if_pos q2] at hb
      cases hb
    · rw [if_neg q2] at hb
      exact ⟨q2, q, hb⟩
theorem tw_sp.rm2 {d : tw_D} {g : tw_G} {τ : tw_K} {h : tw_H} (hw : tw_wt d g τ h) (x v : Nat) : tw_sp d τ (tw_rm (tw_rm h x) v) g τ h :=
  ⟨hw, tw_le.rf, fun b e hb h0 => ⟨(tw_rm_so hb).2.2, h0⟩⟩
theorem tw_sp.trm2 {d : tw_D} {g1 g2 : tw_G} {τ τ1 τ2 : tw_K} {h h1 h2 : tw_H} {x v : Nat} (s1 : tw_sp d τ h g1 τ1 h1) (hx : h x = none) (hv : h v = none) (s2 : tw_sp d τ1 (tw_rm (tw_rm h1 x) v) g2 τ2 h2) : tw_sp d τ h g2 τ2 h2 :=
  ⟨s2.1, s1.2.1.tr s2.2.1, fun a e ha h0 => s2.2.2 a e (by unfold tw_rm; rw [if_neg (fun q => by rw [q, hv] at ha; cases ha), if_neg (fun q => by rw [q, hx] at ha; cases ha)]; exact (s1.2.2 a e ha h0).1) (s1.2.2 a e ha h0).2⟩
/-- the class's numbers at its start -/
def tw_gX (x ca ha da c1 c2 c3 c4 : Nat) : tw_G := (fun k => if k = 0 then 155 else 0, fun k => if k = 10 then x else if k = 18 then ca else if k = 19 then ha else if k = 20 then da else if k = 24 then 160 else if k = 130 then 768 else if k = 132 then 1152 else if k = 134 then 1344 else if k = 1312 then c1 else if k = 1320 then c2 else if k = 1328 then c3 else if k = 1336 then c4 else if k = 4096 + c1 then 1312 else if k = 4096 + c2 then 1320 else if k = 4096 + c3 then 1328 else if k = 4096 + c4 then 1336 else 0)
theorem tw_gX_o {x ca ha da c1 c2 c3 c4 : Nat} (n21 : c2 ≠ c1) (n31 : c3 ≠ c1) (n32 : c3 ≠ c2) (n41 : c4 ≠ c1) (n42 : c4 ≠ c2) (n43 : c4 ≠ c3) : tw_ow (tw_gX x ca ha da c1 c2 c3 c4) c1 1312 ∧ tw_ow (tw_gX x ca ha da c1 c2 c3 c4) c2 1320 ∧ tw_ow (tw_gX x ca ha da c1 c2 c3 c4) c3 1328 ∧ tw_ow (tw_gX x ca ha da c1 c2 c3 c4) c4 1336 := by
  have al : ∀ b, 1312 ≤ b → b + 8 ≤ 1344 → tw_al (tw_gX x ca ha da c1 c2 c3 c4) b := fun b h1 h2 => Or.inr (Or.inr (Or.inr (Or.inr (Or.inr (Or.inr (Or.inl ⟨h1, h2, h2⟩))))))
  refine ⟨⟨by decide, by decide, al _ (by decide) (by decide), rfl, ?_⟩, ⟨by decide, by decide, al _ (by decide) (by decide), rfl, ?_⟩, ⟨by decide, by decide, al _ (by decide) (by decide), rfl, ?_⟩, ⟨by decide, by decide, al _ (by decide) (by decide), rfl, ?_⟩⟩ <;> unfold tw_gX <;> dsimp only
  · rw [if_neg (by omega), if_neg (by omega), if_neg (by omega), if_neg (by omega), if_neg (by omega), if_neg (by omega), if_neg (by omega), if_neg (by omega), if_neg (by omega), if_neg (by omega), if_neg (by omega), if_neg (by omega), if_pos rfl]
  · rw [if_neg (by omega), if_neg (by omega), if_neg (by omega), if_neg (by omega), if_neg (by omega), if_neg (by omega), if_neg (by omega), if_neg (by omega), if_neg (by omega), if_neg (by omega), if_neg (by omega), if_neg (by omega), if_neg (by omega), if_pos rfl]
  · rw [if_neg (by omega), if_neg (by omega), if_neg (by omega), if_neg (by omega), if_neg (by omega), if_neg (by omega), if_neg (by omega), if_neg (by omega), if_neg (by omega), if_neg (by omega), if_neg (by omega), if_neg (by omega), if_neg (by omega), if_neg (by omega), if_pos rfl]
  · rw [if_neg (by omega), if_neg (by omega), if_neg (by omega), if_neg (by omega), if_neg (by omega), if_neg (by omega), if_neg (by omega), if_neg (by omega), if_neg (by omega), if_neg (by omega), if_neg (by omega), if_neg (by omega), if_neg (by omega), if_neg (by omega), if_neg (by omega), if_pos rfl]

/-! what stays true while the class is used, its numbers alone (the maths of the law of p7). Laid by wip/p5/mk30.py. -/

def tw_DH (g : tw_G) : Prop := ∀ j, j < g.2 5 → (∃ v, v ≤ 9999 ∧ g.1 (1232 + 8 * j + 0) = nI v) ∧ (∃ t, t ≤ 4000 ∧ g.1 (1232 + 8 * j + 1) = nI t) ∧ ∃ a b, a < g.2 4 ∧ b < g.2 4 ∧ a ≠ b ∧ g.1 (1232 + 8 * j + 3) = nI a ∧ g.1 (1232 + 8 * j + 4) = nI b
def tw_Z5 (g : tw_G) : Prop := (∀ j k, j < 4 → g.2 3 ≤ j → k < 2 → g.1 (480 + 64 * j + 16 + k) = 0) ∧ ∀ j k, j < 6 → g.2 4 ≤ j → k < 2 → g.1 (960 + 32 * j + 8 + k) = 0
def tw_RY (g : tw_G) : Prop := ∀ a b, a < 4 → b < 4 → ∃ n, 1 ≤ n ∧ n ≤ 30 ∧ g.1 (416 + 8 * a + b) = nI n ∧ g.1 (416 + 8 * b + a) = nI n
def tw_FR (g : tw_G) : Prop := g.2 130 = 768 + 32 * g.2 7 ∧ g.2 131 = 960 + 32 * g.2 4 ∧ g.2 132 = 1152 + 8 * g.2 8 ∧ g.2 133 = 1232 + 8 * g.2 5
def tw_BD (g : tw_G) : Prop := g.2 3 ≤ 4 ∧ g.2 4 ≤ 6 ∧ g.2 5 ≤ 10 ∧ g.2 22 ≤ 3000
def tw_I5 (B : Nat) (g : tw_G) : Prop := tw_E2 g g ∧ tw_AM B g ∧ (∀ j, j < g.2 4 → tw_hs g (g.2 22) j) ∧ tw_DH g ∧ tw_Z5 g ∧ tw_RY g ∧ tw_FR g ∧ tw_BD g
theorem tw_RY.cg {g g1 : tw_G} (h : tw_RY g) (e : ∀ i, 416 ≤ i → i < 448 → g1.1 i = g.1 i) : tw_RY g1 := fun a b ha hb => by
  rw [e _ (by omega) (by omega), e (416 + 8 * b + a) (by omega) (by omega)]
  exact h a b ha hb
theorem tw_x5.n {i : Nat} (h : tw_x5 i) : 160 ≤ i ∧ i < 416 ∧ (i % 64 = 56 ∨ i % 64 = 57) ∨ 480 ≤ i ∧ i < 736 ∧ (i % 64 = 48 ∨ i % 64 = 49) ∨ 768 ≤ i := h
def tw_sc (g gL : tw_G) : Prop := ∀ b, (416 ≤ b ∧ b < 736 ∨ 960 ≤ b ∧ b < 1152 ∨ 1232 ≤ b ∧ b < 1312 ∨ 1344 ≤ b ∧ b < 1376) → gL.1 b = g.1 b
theorem tw_sc.rf {g : tw_G} : tw_sc g g := fun _ _ => rfl
theorem tw_AM.sc {B : Nat} {g gL : tw_G} (h : tw_AM B g) (s : tw_sc g gL) : tw_AM B gL := h.cg (fun i k hi hk => s _ (by have x := tw_ac_c i k; omega))
theorem tw_sc.e2 {g gL : tw_G} (s : tw_sc g gL) (e : tw_E2 g g) : tw_E2 g gL := e.cg (fun _ _ => rfl) (fun b h => s b (by have h := h.n; omega))
theorem tw_ac_x {i k : Nat} (hi : i < 14) (hk : k < 2) : tw_x5 (tw_ac i k) := by
  have a := tw_ac_c i k
  unfold tw_x5
  omega
theorem tw_cc.x {a : Nat} (h : tw_cc a) : tw_x5 a := by
  unfold tw_cc at h
  unfold tw_x5
  omega
theorem tw_mc.x {a : Nat} (h : tw_mc a) : tw_x5 a := by
  unfold tw_mc at h
  unfold tw_x5
  omega
theorem tw_x5.h {i : Nat} (h : 768 ≤ i) : tw_x5 i := Or.inr (Or.inr h)
theorem tw_I5.of0 {B : Nat} {g g1 : tw_G} (I : tw_I5 B g) (e : ∀ i, tw_x5 i → g1.1 i = g.1 i) (ry : tw_RY g1) (c : ∀ i, (i = 3 ∨ i = 4 ∨ i = 5 ∨ i = 7 ∨ i = 8 ∨ i = 22 ∨ 130 ≤ i ∧ i < 134) → g1.2 i = g.2 i) : tw_I5 B g1 := by
  obtain ⟨e2, am, hs, dh, z, -, ⟨f0, f1, f2, f3⟩, b3, b4, b5, b22⟩ := I
  have c3 := c 3 (by decide)
  have c4 := c 4 (by decide)
  have c5 := c 5 (by decide)
  have c7 := c 7 (by decide)
  have c8 := c 8 (by decide)
  have c22 := c 22 (by decide)
  refine ⟨e2.cg (fun a h => e a h.x) (fun b h => e b h.x), am.cg (fun i k hi hk => e _ (tw_ac_x hi hk)), fun j hj => ?_, fun j hj => ?_, ⟨fun j k hj h3 hk => ?_, fun j k hj h4 hk => ?_⟩, ry, ⟨?_, ?_, ?_, ?_⟩, ?_⟩
  · rw [c4] at hj
    rw [c22]
    exact (hs j hj).cg (fun k hk => e _ (tw_x5.h (by omega))) (by rw [c3]; exact Nat.le_refl _)
  · rw [c5] at hj
    rw [e _ (tw_x5.h (by omega)), e _ (tw_x5.h (by omega)), e _ (tw_x5.h (by omega)), e _ (tw_x5.h (by omega)), c4]
    exact dh j hj
  · rw [c3] at h3
    rw [e _ (by unfold tw_x5; omega)]
    exact z.1 j k hj h3 hk
  · rw [c4] at h4
    rw [e _ (tw_x5.h (by omega))]
    exact z.2 j k hj h4 hk
  · rw [c 130 (by decide), c7]
    exact f0
  · rw [c 131 (by decide), c4]
    exact f1
  · rw [c 132 (by decide), c8]
    exact f2
  · rw [c 133 (by decide), c5]
    exact f3
  · unfold tw_BD
    rw [c3, c4, c5, c22]
    exact ⟨b3, b4, b5, b22⟩
theorem tw_I5.of {B : Nat} {g g1 : tw_G} (I : tw_I5 B g) (e : ∀ i, (tw_x5 i ∨ 416 ≤ i ∧ i < 448) → g1.1 i = g.1 i) (c : ∀ i, (i = 3 ∨ i = 4 ∨ i = 5 ∨ i = 7 ∨ i = 8 ∨ i = 22 ∨ 130 ≤ i ∧ i < 134) → g1.2 i = g.2 i) : tw_I5 B g1 := I.of0 (fun i h => e i (Or.inl h)) (I.2.2.2.2.2.1.cg (fun i h1 h2 => e i (Or.inr ⟨h1, h2⟩))) c
theorem tw_I5.of2 {B : Nat} {g g1 : tw_G} (I : tw_I5 B g) (e : ∀ i, 128 ≤ i → g1.1 i = g.1 i) (c : ∀ i, (i = 3 ∨ i = 4 ∨ i = 5 ∨ i = 7 ∨ i = 8 ∨ i = 22 ∨ 130 ≤ i ∧ i < 134) → g1.2 i = g.2 i) : tw_I5 B g1 := I.of (fun i h => e i (by rcases h with h | h; have h := h.n; omega; omega)) c
theorem tw_I5.mono {B C : Nat} {g : tw_G} (I : tw_I5 B g) (e : B ≤ C) : tw_I5 C g := ⟨I.1, I.2.1.mono e, I.2.2⟩
theorem tw_I5.mh {B : Nat} {g : tw_G} (I : tw_I5 B g) : tw_MH g := fun j hj => by
  have h4 := I.2.2.2.2.2.2.2.2.1
  obtain ⟨a, b, x, y, hx, hy, n, ex, ey⟩ := I.2.2.2.1 j hj
  refine ⟨a, b, ?_⟩
  unfold tw_eF tw_eT
  rw [ex, ey, tw_DN_nI (by omega), tw_DN_nI (by omega)]
  exact n
theorem tw_MH.sc {g gL : tw_G} (h : tw_MH g) (s : tw_sc g gL) (c5 : gL.2 5 = g.2 5) (h5 : g.2 5 ≤ 10) : tw_MH gL := fun j hj => by
  rw [c5] at hj
  unfold tw_eF tw_eT
  rw [s _ (by omega), s _ (by omega), s _ (by omega), s _ (by omega)]
  exact h j hj
theorem tw_EM.sc {g gL : tw_G} (h : tw_EM g) (s : tw_sc g gL) (c3 : gL.2 3 = g.2 3) (h3 : g.2 3 ≤ 4) : tw_EM gL := fun j hj => by
  rw [c3] at hj
  obtain ⟨a, b, c⟩ := h j hj
  rw [s _ (by omega), s _ (by omega)]
  refine ⟨a, b, fun k hk => ?_⟩
  rw [s _ (by omega)]
  exact c k hk
theorem tw_I5.ch {B : Nat} {g : tw_G} (I : tw_I5 B g) (ec : tw_EC g) (hB : B ≤ 59000000) (c6 : g.2 6 = g.2 3) (c7 : g.2 7 = g.2 4) (c8 : g.2 8 = g.2 5) : tw_CH g := by
  obtain ⟨e2, am, hs, dh, -, -, -, h3, h4, h5, -⟩ := I
  refine ⟨ec, fun j hj => ⟨?_, fun k hk => ?_⟩, fun j hj => ?_⟩
  · rw [e2 _ _ (tw_pr.h (k := 1) (by omega) (by decide)), c6]
    rcases hs j (by omega) with ⟨⟨i, hi, a⟩, -⟩ | ⟨a, -⟩
    · exact Or.inr ⟨i, hi, a⟩
    · exact Or.inl a
  · have z := am.p (j := j) (k := k) (by omega) hk
    refine ⟨_, Nat.le_trans z.2 hB, ?_⟩
    have y := e2 (768 + 32 * j + (8 + k)) (960 + 32 * j + (8 + k)) (tw_pr.h (by omega) (by omega))
    rw [← Nat.add_assoc, ← Nat.add_assoc] at y
    rw [y]
    exact z.1
  · obtain ⟨⟨v, hv, a⟩, ⟨t, ht, b⟩, x, y, hx, hy, -, ex, ey⟩ := dh j (by omega)
    rw [e2 _ _ (tw_pr.d (k := 0) (by omega) (by decide)), e2 _ _ (tw_pr.d (k := 1) (by omega) (by decide)), e2 _ _ (tw_pr.d (k := 3) (by omega) (by decide)), e2 _ _ (tw_pr.d (k := 4) (by omega) (by decide))]
    exact ⟨⟨v, hv, a⟩, ⟨t, ht, b⟩, ⟨x, by omega, ex⟩, y, by omega, ey⟩
theorem tw_I5.re {B C : Nat} {g gL g9 : tw_G} (I : tw_I5 B g) (e : tw_E2 gL g9) (cL : ∀ a, tw_cc a → g9.1 a = gL.1 a) (am : tw_AM C g9) (c2 : g9.2 = g.2) (hs : ∀ j, j < g.2 4 → tw_hs g9 (g.2 22) j) (dd : ∀ j c, j < 10 → (c < 2 ∨ 3 ≤ c ∧ c < 5) → g9.1 (1232 + 8 * j + c) = g.1 (1232 + 8 * j + c)) (z : tw_Z5 g9) (ry : ∀ i, 416 ≤ i → i < 448 → g9.1 i = g.1 i) : tw_I5 C g9 := by
  obtain ⟨-, -, -, dh, -, r, f, bd⟩ := I
  refine ⟨e.cg cL (fun _ _ => rfl), am, fun j hj => ?_, fun j hj => ?_, z, r.cg ry, by unfold tw_FR; rw [c2]; exact f, by unfold tw_BD; rw [c2]; exact bd⟩
  · rw [c2] at hj ⊢
    exact hs j hj
  · rw [c2] at hj
    have h5 := bd.2.2.1
    rw [dd j 0 (by omega) (by omega), dd j 1 (by omega) (by omega), dd j 3 (by omega) (by omega), dd j 4 (by omega) (by omega), c2]
    exact dh j hj
theorem tw_I5.hsre {B : Nat} {g g9 : tw_G} (I : tw_I5 B g) (c2 : g9.2 = g.2) (h : ∀ j c, j < 6 → c < 3 → g9.1 (960 + 32 * j + c) = g.1 (960 + 32 * j + c)) : ∀ j, j < g.2 4 → tw_hs g9 (g.2 22) j := fun j hj => by
  have h4 := I.2.2.2.2.2.2.2.2.1
  exact (I.2.2.1 j hj).cg (fun c hc => h j c (by omega) hc) (by rw [c2]; exact Nat.le_refl _)
theorem tw_dsM_z (g : tw_G) (h3 : g.2 3 ≤ 4) (h4 : g.2 4 ≤ 6) : ∀ n i, (960 ≤ i ∧ i < 1152 ∧ 3 ≤ i % 32 ∨ ∃ j k, g.2 3 ≤ j ∧ j < 4 ∧ k < 2 ∧ i = 480 + 64 * j + 16 + k) → (tw_dsM g n).1 i = g.1 i
  | 0, _, _ => rfl
  | n + 1, i, h => by
    have ih := tw_dsM_z g h3 h4 n i h
    have e := tw_dsM_2 g n
    have k3 : (tw_dsM g n).2 3 = g.2 3 := by rw [e]; rfl
    have k4 : (tw_dsM g n).2 4 = g.2 4 := by rw [e]; rfl
    rw [← ih]
    show (tw_dyM (tw_dsM g n)).1 i = _
    have p : i < 960 ∨ 1152 ≤ i ∨ 3 ≤ i % 32 := by
      rcases h with h | ⟨j, k, a, b, c, d⟩
      · omega
      · omega
    have a := tw_fd_1 (f := tw_arM ((tw_dsM g n).2 22 + 1)) (g := tw_g2 (tw_dsM g n) 22 ((tw_dsM g n).2 22 + 1)) (P := fun x => x < 960 ∨ 1152 ≤ x ∨ 3 ≤ x % 32) (N := 6) (fun g' j x hj hx => tw_arM_1 _ _ _ (by have hx : x < 960 ∨ 1152 ≤ x ∨ 3 ≤ x % 32 := hx; omega)) ((tw_dsM g n).2 4) (by rw [k4]; exact h4) i p
    unfold tw_dyM
    split
    · refine (tw_fd_1 (P := fun x => x = i) (N := (tw_dsM g n).2 3) (fun g' j x hj hx => tw_weM_1 _ _ _ ?_) _ (Nat.le_refl _) _ rfl).trans a
      have hx : x = i := hx
      rw [k3] at hj
      rcases h with h | ⟨j2, k, a1, b1, c1, d1⟩
      · omega
      · omega
    · exact a
theorem tw_I5.pass {B D : Nat} {g gL g9 : tw_G} (I : tw_I5 B g) (hB : B ≤ 60000000) (c6 : g.2 6 = g.2 3) (c7 : g.2 7 = g.2 4) (t : g.2 21 = g.2 22) (h3 : g.2 3 ≤ 4) (h4 : g.2 4 ≤ 6) (h5 : g.2 5 ≤ 10) (hD : g.2 22 + D ≤ 3000) (eL : gL = tw_dsC g D) (e9 : g9 = tw_dsM gL D) : tw_I5 B g9 := by
  have k6 : g.2 6 ≤ 4 := by omega
  have k7 : g.2 7 ≤ 6 := by omega
  have l2 : gL.2 = (tw_g2 g 21 (g.2 21 + D)).2 := by rw [eL]; exact tw_dsC_2 g D
  have l3 : gL.2 3 = g.2 3 := by rw [l2]; rfl
  have l4 : gL.2 4 = g.2 4 := by rw [l2]; rfl
  have l22 : gL.2 22 = g.2 22 := by rw [l2]; rfl
  have fL : ∀ b, tw_mc b → gL.1 b = g.1 b := fun b h => by
    have hn := h.n
    rw [eL]
    exact tw_dsC_1 g k6 k7 D b (by omega)
  have dL : ∀ b, 960 ≤ b ∧ b < 1152 ∨ 1232 ≤ b ∧ b < 1312 → gL.1 b = g.1 b := fun b h => fL b (by unfold tw_mc; omega)
  obtain ⟨e2, am, hs, dh, z, ry, fr, bd⟩ := I
  have aL : tw_AM B gL := am.cg (fun i l hi hl => fL _ (by have x := tw_ac_c i l; unfold tw_mc; omega))
  have s0 : tw_SM B g gL := ⟨e2.cg (fun _ _ => rfl) fL, by rw [l22]; exact t, by rw [l3]; exact c6, by rw [l4]; exact c7, by rw [l3]; exact h3, by rw [l4]; exact h4, fun j hj => by
    rw [l4] at hj
    rw [l22]
    exact (hs j hj).cg (fun k hk => dL _ (by omega)) (by rw [l3]; exact Nat.le_refl _), aL⟩
  have s1 := tw_ds_S s0 hB D (by rw [l22]; exact hD)
  rw [← eL, ← e9] at s1
  obtain ⟨f2, -, -, -, -, -, fh, fa⟩ := s1
  have n2 : g9.2 = (tw_g2 gL 22 (gL.2 22 + D)).2 := by rw [e9]; exact tw_dsM_2 gL D
  have n3 : g9.2 3 = g.2 3 := by rw [n2]; exact l3
  have n4 : g9.2 4 = g.2 4 := by rw [n2]; exact l4
  have f9 : ∀ i, i < 480 ∨ 736 ≤ i ∧ i < 960 ∨ 1152 ≤ i ∧ i < 1360 ∨ 1364 ≤ i → g9.1 i = gL.1 i := fun i h => by
    rw [e9]
    exact tw_dsM_1 gL (by rw [l3]; exact h3) (by rw [l4]; exact h4) D i (by omega)
  have zv : ∀ j k, j < 4 → g9.2 3 ≤ j → k < 2 → g9.1 (480 + 64 * j + 16 + k) = g.1 (480 + 64 * j + 16 + k) := fun j k hj h hk => by
    rw [e9, tw_dsM_z gL (by rw [l3]; exact h3) (by rw [l4]; exact h4) D _ (Or.inr ⟨j, k, by rw [l3]; omega, hj, hk, rfl⟩)]
    exact fL _ (by unfold tw_mc; omega)
  have zp : ∀ j k, j < 6 → g9.2 4 ≤ j → k < 2 → g9.1 (960 + 32 * j + 8 + k) = g.1 (960 + 32 * j + 8 + k) := fun j k hj h hk => by
    rw [e9, tw_dsM_z gL (by rw [l3]; exact h3) (by rw [l4]; exact h4) D _ (Or.inl (by omega))]
    exact dL _ (by omega)
  refine ⟨f2.cg (fun a h => by have hn := h.n; exact f9 a (by omega)) (fun _ _ => rfl), fa, fh, fun j hj => ?_, ⟨fun j k hj h hk => ?_, fun j k hj h hk => ?_⟩, ry.cg (fun i h1 h2 => (f9 i (by omega)).trans (by rw [eL]; exact tw_dsC_1 g k6 k7 D i (by omega))), ?_, ?_⟩
  · have n5 : g9.2 5 = g.2 5 := by rw [n2]; show gL.2 5 = _; rw [l2]; rfl
    rw [n5] at hj
    rw [f9 _ (by omega), f9 _ (by omega), f9 _ (by omega), f9 _ (by omega), dL _ (by omega), dL _ (by omega), dL _ (by omega), dL _ (by omega), n4]
    exact dh j hj
  · exact (zv j k hj h hk).trans (z.1 j k hj (by omega) hk)
  · exact (zp j k hj h hk).trans (z.2 j k hj (by omega) hk)
  · unfold tw_FR
    rw [n2]
    show gL.2 130 = 768 + 32 * gL.2 7 ∧ gL.2 131 = 960 + 32 * gL.2 4 ∧ gL.2 132 = 1152 + 8 * gL.2 8 ∧ gL.2 133 = 1232 + 8 * gL.2 5
    rw [l2]
    exact fr
  · unfold tw_BD
    rw [n3, n4, n2]
    show g.2 3 ≤ 4 ∧ g.2 4 ≤ 6 ∧ gL.2 5 ≤ 10 ∧ gL.2 22 + D ≤ 3000
    rw [l22, l2]
    exact ⟨h3, h4, h5, hD⟩
theorem tw_I5.start {g : tw_G} (Z : ∀ i, 128 ≤ i → (i < 416 ∨ 480 ≤ i) → g.1 i = 0) (r : ∀ j k, j < 4 → k < 4 → g.1 (416 + 8 * j + k) = 3 ∧ g.1 (448 + 8 * j + k) = 10) (h3 : g.2 3 = 0) (h4 : g.2 4 = 0) (h5 : g.2 5 = 0) (h7 : g.2 7 = 0) (h8 : g.2 8 = 0) (h22 : g.2 22 = 0) (f0 : g.2 130 = 768) (f1 : g.2 131 = 960) (f2 : g.2 132 = 1152) (f3 : g.2 133 = 1232) : tw_I5 (100000 * 0) g := by
  refine ⟨fun a b p => ?_, ?_, fun j hj => absurd hj (by omega), fun j hj => absurd hj (by omega), ⟨fun j k hj h hk => Z _ (by omega) (by omega), fun j k hj h hk => Z _ (by omega) (by omega)⟩, fun a b ha hb => ⟨3, by decide, by decide, (r a b ha hb).1, (r b a hb ha).1⟩, ⟨by omega, by omega, by omega, by omega⟩, by omega, by omega, by omega, by omega⟩
  · unfold tw_pr at p
    rw [Z a (by omega) (by omega), Z b (by omega) (by omega)]
  · exact tw_AM.of (f := fun _ _ => 0) (by decide) (fun i k hi hk => Z _ (by have x := tw_ac_c i k; omega) (by have x := tw_ac_c i k; omega)) (fun k hk => ⟨by decide, by decide⟩)
def tw_MK (g : tw_G) : Prop := g.1 0 = g.1 1 ∧ 100 ≤ g.1 1 ∧ g.1 1 ≤ 200
theorem tw_MK.cg {g g1 : tw_G} (m : tw_MK g) (e : ∀ i, i < 2 → g1.1 i = g.1 i) : tw_MK g1 := by
  unfold tw_MK
  rw [e 0 (by decide), e 1 (by decide)]
  exact m
theorem tw_ga.i {g g1 : tw_G} {i : Nat} (a : tw_ga g g1) (hi : i < 2) : g1.1 i = g.1 i := by
  rcases (show i = 0 ∨ i = 1 by omega) with rfl | rfl
  · exact a.1
  · exact a.2
theorem tw_M_house {g gL g9 : tw_G} {n m y p : Nat} {r r2 u u2 v v2 go go2 si si2 : Int32} (eL : gL = tw_ad (tw_ad (tw_gI (tw_gH g (768 + 32 * n) y p r u v) 7 1) (1336 + 0) go) (1336 + 1) si) (gk : ∃ y9 p9, tw_gk 4 (tw_gHM (tw_ad (tw_ad gL (1368 + 0) go2) (1368 + 1) si2) (960 + 32 * m) y9 p9 r2 u2 v2) g9) (i : Nat) (hi : i < 2) : g9.1 i = g.1 i := by
  obtain ⟨y9, p9, a0, -⟩ := gk
  rw [a0.i hi, tw_gHM_1 (by omega), tw_ad_ne (by omega), tw_ad_ne (by omega), eL, tw_ad_ne (by omega), tw_ad_ne (by omega)]
  show (tw_gH g (768 + 32 * n) y p r u v).1 i = _
  exact tw_gH_1 (by omega)
theorem tw_M_owe {g gL g9 : tw_G} {n m y : Nat} {v v2 dy dy2 f f2 c c2 : Int32} (eL : gL = tw_gI (tw_gD g (1152 + 8 * n) y v dy f c) 8 2) (gk : ∃ y9, tw_gk 5 (tw_gDM gL (1232 + 8 * m) y9 v2 dy2 f2 c2) g9) (i : Nat) (hi : i < 2) : g9.1 i = g.1 i := by
  obtain ⟨y9, a0, -⟩ := gk
  rw [a0.i hi, tw_gDM_1 (by omega), eL]
  show (tw_gD g (1152 + 8 * n) y v dy f c).1 i = _
  exact tw_gD_1 (by omega)
theorem tw_M_country {g gL g9 : tw_G} {n n2 y d f t m v : Nat} {r r2 c c2 u u2 w w2 go go2 si si2 : Int32} (eL : gL = tw_ad (tw_ad (tw_gI (tw_gC g (160 + 64 * n) y d f t m v r c u w) 6 0) (1336 + 0) go) (1336 + 1) si) (gk : ∃ y9 o9 t9 w8, tw_gk 3 (tw_gN (tw_ad (tw_ad gL (1368 + 0) go2) (1368 + 1) si2) (480 + 64 * n2) y9 o9 t9 w8 r2 c2 u2 w2) g9) (i : Nat) (hi : i < 2) : g9.1 i = g.1 i := by
  obtain ⟨y9, o9, t9, w8, a0, -⟩ := gk
  rw [a0.i hi, tw_gN_1 (by omega), tw_ad_ne (by omega), tw_ad_ne (by omega), eL, tw_ad_ne (by omega), tw_ad_ne (by omega)]
  show (tw_gC g (160 + 64 * n) y d f t m v r c u w).1 i = _
  exact tw_gC_1 (by omega)
theorem tw_M_pass {g gL g9 : tw_G} {D : Nat} (h6 : g.2 6 ≤ 4) (h7 : g.2 7 ≤ 6) (h3 : gL.2 3 ≤ 4) (h4 : gL.2 4 ≤ 6) (eL : gL = tw_dsC g D) (e9 : g9 = tw_dsM gL D) (i : Nat) (hi : i < 2) : g9.1 i = g.1 i := by
  rw [e9, tw_dsM_1 gL h3 h4 D i (by omega), eL]
  exact tw_dsC_1 g h6 h7 D i (by omega)
def tw_EQ (g : tw_G) : Prop := ∀ j, j < 4 → (j < g.2 3 → g.1 (160 + 64 * j) = g.1 (480 + 64 * j) ∧ g.1 (160 + 64 * j + 1) = g.1 (480 + 64 * j + 1) ∧ g.1 (160 + 64 * j + 2) = g.1 (480 + 64 * j + 8) ∧ g.1 (160 + 64 * j + 3) = g.1 (480 + 64 * j + 9) ∧ ∀ k, k < 4 → g.1 (160 + 64 * j + 8 + k) = g.1 (416 + 8 * j + k) ∧ g.1 (160 + 64 * j + 16 + k) = g.1 (448 + 8 * j + k)) ∧ (g.2 3 ≤ j → ∀ k, k < 4 → g.1 (416 + 8 * j + k) = 3 ∧ g.1 (448 + 8 * j + k) = 10)
def tw_EV (g : tw_G) : Prop := (∀ j, j < g.2 3 → (100 ≤ g.1 (480 + 64 * j) ∧ g.1 (480 + 64 * j) ≤ 200) ∧ 0 ≤ g.1 (480 + 64 * j + 1) ∧ g.1 (480 + 64 * j + 1) ≤ 50) ∧ ∀ a b, a < 4 → b < 4 → (0 ≤ g.1 (448 + 8 * a + b) ∧ g.1 (448 + 8 * a + b) ≤ 100) ∧ g.1 (448 + 8 * a + b) = g.1 (448 + 8 * b + a)
def tw_ET (g : tw_G) : Prop := ∀ j, j < g.2 3 → ∀ k, k < 5 → g.1 (160 + 64 * j + 32 + k) = g.1 (480 + 64 * j + 24 + k) ∧ 0 ≤ g.1 (480 + 64 * j + 24 + k) ∧ g.1 (480 + 64 * j + 24 + k) ≤ 9
def tw_I9 (B : Nat) (g : tw_G) : Prop := g.2 0 = g.2 3 ∧ g.2 1 = g.2 4 ∧ g.2 2 = g.2 5 ∧ g.2 6 = g.2 0 ∧ g.2 7 = g.2 1 ∧ g.2 8 = g.2 2 ∧ g.2 21 = g.2 22 ∧ g.2 24 = 160 + 64 * g.2 0 ∧ g.2 9 = 480 + 64 * g.2 3 ∧ tw_EQ g ∧ tw_EV g ∧ tw_ET g ∧ tw_I5 B g
theorem tw_EV.of {g g1 : tw_G} (e : tw_EV g) (h1 : ∀ i, 448 ≤ i → i < 480 → g1.1 i = g.1 i) (h2 : ∀ j, j < g.2 3 → g1.1 (480 + 64 * j) = g.1 (480 + 64 * j) ∧ g1.1 (480 + 64 * j + 1) = g.1 (480 + 64 * j + 1)) (h3 : g1.2 3 = g.2 3) : tw_EV g1 := by
  refine ⟨fun j hj => ?_, fun a b ha hb => ?_⟩
  · rw [h3] at hj
    rw [(h2 j hj).1, (h2 j hj).2]
    exact e.1 j hj
  · rw [h1 _ (by omega) (by omega), h1 (448 + 8 * b + a) (by omega) (by omega)]
    exact e.2 a b ha hb
theorem tw_EV.of2 {g g1 : tw_G} (e : tw_EV g) (h1 : ∀ i, 128 ≤ i → g1.1 i = g.1 i) (h3 : g1.2 3 = g.2 3) : tw_EV g1 := e.of (fun i _ _ => h1 i (by omega)) (fun j _ => ⟨h1 _ (by omega), h1 _ (by omega)⟩) h3
theorem tw_I9.ev {B : Nat} {g : tw_G} (i : tw_I9 B g) : tw_EV g := i.2.2.2.2.2.2.2.2.2.2.1
theorem tw_I9.et {B : Nat} {g : tw_G} (i : tw_I9 B g) : tw_ET g := i.2.2.2.2.2.2.2.2.2.2.2.1
theorem tw_I9.i5 {B : Nat} {g : tw_G} (i : tw_I9 B g) : tw_I5 B g := i.2.2.2.2.2.2.2.2.2.2.2.2
theorem tw_ET.of {g g1 : tw_G} (e : tw_ET g) (h1 : ∀ j, j < g.2 3 → ∀ k, k < 5 → g1.1 (160 + 64 * j + 32 + k) = g.1 (160 + 64 * j + 32 + k) ∧ g1.1 (480 + 64 * j + 24 + k) = g.1 (480 + 64 * j + 24 + k)) (h3 : g1.2 3 = g.2 3) : tw_ET g1 := by
  intro j hj k hk
  rw [h3] at hj
  rw [(h1 j hj k hk).1, (h1 j hj k hk).2]
  exact e j hj k hk
theorem tw_ET.of2 {g g1 : tw_G} (e : tw_ET g) (h1 : ∀ i, 128 ≤ i → g1.1 i = g.1 i) (h3 : g1.2 3 = g.2 3) : tw_ET g1 := e.of (fun j _ k _ => ⟨h1 _ (by omega), h1 _ (by omega)⟩) h3
theorem tw_EQ.of {g g1 : tw_G} (e : tw_EQ g) (h1 : ∀ i, 128 ≤ i → g1.1 i = g.1 i) (h3 : g1.2 3 = g.2 3) : tw_EQ g1 := by
  intro j hj
  have e := e j hj
  rw [← h3] at e
  refine ⟨fun hl => ?_, fun hl k hk => ?_⟩
  · obtain ⟨a, b, c, d, f⟩ := e.1 hl
    rw [← h1 _ (by omega), ← h1 (480 + 64 * j) (by omega)] at a
    rw [← h1 _ (by omega), ← h1 (480 + 64 * j + 1) (by omega)] at b
    rw [← h1 _ (by omega), ← h1 (480 + 64 * j + 8) (by omega)] at c
    rw [← h1 _ (by omega), ← h1 (480 + 64 * j + 9) (by omega)] at d
    refine ⟨a, b, c, d, fun k hk => ?_⟩
    obtain ⟨f1, f2⟩ := f k hk
    rw [← h1 _ (by omega), ← h1 (416 + 8 * j + k) (by omega)] at f1
    rw [← h1 _ (by omega), ← h1 (448 + 8 * j + k) (by omega)] at f2
    exact ⟨f1, f2⟩
  · obtain ⟨f1, f2⟩ := e.2 hl k hk
    rw [← h1 _ (by omega)] at f1
    rw [← h1 _ (by omega)] at f2
    exact ⟨f1, f2⟩
theorem tw_I9.eq {B : Nat} {g : tw_G} (i : tw_I9 B g) : tw_EQ g := i.2.2.2.2.2.2.2.2.2.1
theorem tw_I9.mk {B : Nat} {g : tw_G} {i : Nat} {m : Int32} (I : tw_I9 B g) (hi : i < 128) : tw_I9 B (tw_g1 g i m) :=
  ⟨I.1, I.2.1, I.2.2.1, I.2.2.2.1, I.2.2.2.2.1, I.2.2.2.2.2.1, I.2.2.2.2.2.2.1, I.2.2.2.2.2.2.2.1, I.2.2.2.2.2.2.2.2.1, I.eq.of (fun k hk => tw_g1_ne (by omega)) rfl, I.ev.of2 (fun k hk => tw_g1_ne (by omega)) rfl, I.et.of2 (fun k hk => tw_g1_ne (by omega)) rfl, I.i5.of2 (fun k hk => tw_g1_ne (by omega)) (fun _ _ => rfl)⟩
theorem tw_gCI_2 {g : tw_G} {n y d f t m v i : Nat} {r c go si : Int32} (h0 : i ≠ 0) (h6 : i ≠ 6) (h24 : i ≠ 24) (hi : i < 160) : (tw_gI (tw_gC g (160 + 64 * n) y d f t m v r c go si) 6 0).2 i = g.2 i := by
  show (if i = 0 then _ else if i = 6 then _ else _) = _
  rw [if_neg h0, if_neg h6]
  exact tw_gC_2 h24 (by omega) (by omega)
theorem tw_gC_g {g : tw_G} {b x rd rf t m v : Nat} {r c gd sv : Int32} : (tw_gC g b x rd rf t m v r c gd sv).1 (b + 24) = gd ∧ (tw_gC g b x rd rf t m v r c gd sv).1 (b + 25) = sv := by
  unfold tw_gC
  dsimp only
  constructor
  · rw [if_neg (by omega), if_neg (by omega), if_neg (by omega), if_neg (by omega), if_neg (by omega), if_neg (by omega), if_pos rfl]
  · rw [if_neg (by omega), if_neg (by omega), if_neg (by omega), if_neg (by omega), if_neg (by omega), if_neg (by omega), if_neg (by omega), if_pos rfl]
theorem tw_gN_g {g : tw_G} {b x o t v : Nat} {r c gd sv : Int32} : (tw_gN g b x o t v r c gd sv).1 (b + 16) = gd ∧ (tw_gN g b x o t v r c gd sv).1 (b + 17) = sv := by
  unfold tw_gN
  dsimp only
  constructor
  · rw [if_neg (by omega), if_neg (by omega), if_neg (by omega), if_neg (by omega), if_pos rfl]
  · rw [if_neg (by omega), if_neg (by omega), if_neg (by omega), if_neg (by omega), if_neg (by omega), if_pos rfl]
theorem tw_V_law {B : Nat} {g : tw_G} {n rt ct : Int32} (I : tw_I9 B g) (i : tw_ix (g.2 6) n) (h4 : g.2 6 ≤ 4) : g.1 (160 + 64 * tw_DN n) = (tw_g1 (tw_g1 g (160 + 64 * tw_DN n) rt) (160 + 64 * tw_DN n + 1) ct).1 (480 + 64 * tw_DN n) := by
  have e := I.eq
  obtain ⟨i1, i2, i3, i4, -⟩ := I
  obtain ⟨j, hj, rfl⟩ := i
  rw [show tw_DN (nI j) = j from nI_clamp (by omega)]
  have E := (e j (by omega)).1 (by omega)
  repeat rw [tw_g1_ne (by omega)]
  exact E.1
theorem tw_I9.law {B : Nat} {g : tw_G} {n rt ct : Int32} (I : tw_I9 B g) (i : tw_ix (g.2 6) n) (hR : tw_RL rt ct) (h4 : g.2 6 ≤ 4) : tw_I9 B (tw_g1 (tw_g1 (tw_g1 (tw_g1 g (160 + 64 * tw_DN n) rt) (160 + 64 * tw_DN n + 1) ct) (480 + 64 * tw_DN n) rt) (480 + 64 * tw_DN n + 1) ct) := by
  have e := I.eq
  have I0 := I
  obtain ⟨i1, i2, i3, i4, -⟩ := I
  obtain ⟨j, hj, rfl⟩ := i
  rw [show tw_DN (nI j) = j from nI_clamp (by omega)]
  refine ⟨I0.1, I0.2.1, I0.2.2.1, I0.2.2.2.1, I0.2.2.2.2.1, I0.2.2.2.2.2.1, I0.2.2.2.2.2.2.1, I0.2.2.2.2.2.2.2.1, I0.2.2.2.2.2.2.2.2.1, ⟨fun j2 hj2 => ⟨fun hl => ?_, fun hl k2 hk2 => ?_⟩, ?_, I0.et.of (fun j3 hj3 k3 hk3 => ⟨by repeat rw [tw_g1_ne (by omega)], by repeat rw [tw_g1_ne (by omega)]⟩) rfl, I0.i5.of (fun i9 h9 => by have h9 : tw_x5 i9 ∨ 416 ≤ i9 ∧ i9 < 448 := h9; unfold tw_x5 at h9; repeat rw [tw_g1_ne (by omega)]) (fun _ _ => rfl)⟩⟩
  · obtain ⟨b1, b2, b3, b4, b5⟩ := (e j2 hj2).1 hl
    simp only [tw_g1]
    refine ⟨?_, ?_, ?_, ?_, fun k2 hk2 => ⟨?_, ?_⟩⟩
    · repeat' split
      all_goals first | rfl | exact b1 | omega
    · repeat' split
      all_goals first | rfl | exact b2 | omega
    · repeat' split
      all_goals first | rfl | exact b3 | omega
    · repeat' split
      all_goals first | rfl | exact b4 | omega
    · have b5 := (b5 k2 hk2).1
      repeat' split
      all_goals first | rfl | exact b5 | omega
    · have b5 := (b5 k2 hk2).2
      repeat' split
      all_goals first | rfl | exact b5 | omega
  · have b := (e j2 hj2).2 hl k2 hk2
    have hl : g.2 3 ≤ j2 := hl
    repeat rw [tw_g1_ne (by omega)]
    exact b
  · have v := I0.ev
    refine ⟨fun j3 hj3 => ?_, fun a3 b3 ha3 hb3 => ?_⟩
    · have v1 := v.1 j3 hj3
      have hj3 : j3 < g.2 3 := hj3
      simp only [tw_g1]
      repeat' split
      all_goals first | exact hR | exact v1 | (exfalso; omega)
    · have v2 := v.2 a3 b3 ha3 hb3
      repeat rw [tw_g1_ne (by omega)]
      exact v2
theorem tw_V_gate {B : Nat} {g : tw_G} {n m b : Int32} (I : tw_I9 B g) (i : tw_ix (g.2 6) n) (hm : tw_RM m) (h4 : g.2 6 ≤ 4) : g.1 (160 + 64 * tw_DN n + 2 + tw_DN m) = (tw_g1 g (160 + 64 * tw_DN n + 2 + tw_DN m) b).1 (480 + 64 * tw_DN n + 8 + tw_DN m) := by
  have e := I.eq
  obtain ⟨i1, i2, i3, i4, -⟩ := I
  obtain ⟨j, hj, rfl⟩ := i
  rw [show tw_DN (nI j) = j from nI_clamp (by omega)]
  obtain ⟨k, hk, rfl⟩ := hm.k
  rw [show tw_DN (nI k) = k from nI_clamp (by omega)]
  have E := (e j (by omega)).1 (by omega)
  repeat rw [tw_g1_ne (by omega)]
  rcases (show k = 0 ∨ k = 1 by omega) with rfl | rfl
  · exact E.2.2.1
  · exact E.2.2.2.1
theorem tw_I9.gate {B : Nat} {g : tw_G} {n m b : Int32} (I : tw_I9 B g) (i : tw_ix (g.2 6) n) (hm : tw_RM m) (h4 : g.2 6 ≤ 4) : tw_I9 B (tw_g1 (tw_g1 g (160 + 64 * tw_DN n + 2 + tw_DN m) b) (480 + 64 * tw_DN n + 8 + tw_DN m) b) := by
  have e := I.eq
  have I0 := I
  obtain ⟨i1, i2, i3, i4, -⟩ := I
  obtain ⟨j, hj, rfl⟩ := i
  rw [show tw_DN (nI j) = j from nI_clamp (by omega)]
  obtain ⟨k, hk, rfl⟩ := hm.k
  rw [show tw_DN (nI k) = k from nI_clamp (by omega)]
  refine ⟨I0.1, I0.2.1, I0.2.2.1, I0.2.2.2.1, I0.2.2.2.2.1, I0.2.2.2.2.2.1, I0.2.2.2.2.2.2.1, I0.2.2.2.2.2.2.2.1, I0.2.2.2.2.2.2.2.2.1, ⟨fun j2 hj2 => ⟨fun hl => ?_, fun hl k2 hk2 => ?_⟩, ?_, I0.et.of (fun j3 hj3 k3 hk3 => ⟨by repeat rw [tw_g1_ne (by omega)], by repeat rw [tw_g1_ne (by omega)]⟩) rfl, I0.i5.of (fun i9 h9 => by have h9 : tw_x5 i9 ∨ 416 ≤ i9 ∧ i9 < 448 := h9; unfold tw_x5 at h9; repeat rw [tw_g1_ne (by omega)]) (fun _ _ => rfl)⟩⟩
  · obtain ⟨b1, b2, b3, b4, b5⟩ := (e j2 hj2).1 hl
    simp only [tw_g1]
    refine ⟨?_, ?_, ?_, ?_, fun k2 hk2 => ⟨?_, ?_⟩⟩
    · repeat' split
      all_goals first | rfl | exact b1 | omega
    · repeat' split
      all_goals first | rfl | exact b2 | omega
    · repeat' split
      all_goals first | rfl | exact b3 | omega
    · repeat' split
      all_goals first | rfl | exact b4 | omega
    · have b5 := (b5 k2 hk2).1
      repeat' split
      all_goals first | rfl | exact b5 | omega
    · have b5 := (b5 k2 hk2).2
      repeat' split
      all_goals first | rfl | exact b5 | omega
  · have b := (e j2 hj2).2 hl k2 hk2
    have hl : g.2 3 ≤ j2 := hl
    repeat rw [tw_g1_ne (by omega)]
    exact b
  · exact I0.ev.of (fun i h1 h2 => by repeat rw [tw_g1_ne (by omega)]) (fun j3 hj3 => ⟨by repeat rw [tw_g1_ne (by omega)], by repeat rw [tw_g1_ne (by omega)]⟩) rfl
theorem tw_V_road {B : Nat} {g : tw_G} {a b dy fr : Int32} (I : tw_I9 B g) (i : (tw_ix (g.2 6) a ∧ tw_ix (g.2 6) b)) (h4 : g.2 6 ≤ 4) : g.1 (160 + 64 * tw_DN a + 8 + tw_DN b) = (tw_g1 (tw_g1 (tw_g1 (tw_g1 g (160 + 64 * tw_DN a + 8 + tw_DN b) dy) (160 + 64 * tw_DN a + 16 + tw_DN b) fr) (160 + 64 * tw_DN b + 8 + tw_DN a) dy) (160 + 64 * tw_DN b + 16 + tw_DN a) fr).1 (416 + 8 * tw_DN a + tw_DN b) := by
  have e := I.eq
  obtain ⟨i1, i2, i3, i4, -⟩ := I
  obtain ⟨⟨j, hj, rfl⟩, ⟨w, hw, rfl⟩⟩ := i
  rw [show tw_DN (nI j) = j from nI_clamp (by omega), show tw_DN (nI w) = w from nI_clamp (by omega)]
  have E := (e j (by omega)).1 (by omega)
  repeat rw [tw_g1_ne (by omega)]
  exact (E.2.2.2.2 w (by omega)).1
theorem tw_g1_ap {g : tw_G} {i j : Nat} {v : Int32} : (tw_g1 g i v).1 j = if j = i then v else g.1 j := rfl
theorem tw_road_c1 {g : tw_G} {a b p q : Nat} {dy fr : Int32} (ha : a < 4) (hb : b < 4) (hp : p < 4) (hq : q < 4) : (tw_g1 (tw_g1 (tw_g1 (tw_g1 (tw_g1 (tw_g1 (tw_g1 (tw_g1 g (160 + 64 * a + 8 + b) dy) (160 + 64 * a + 16 + b) fr) (160 + 64 * b + 8 + a) dy) (160 + 64 * b + 16 + a) fr) (416 + 8 * a + b) dy) (416 + 8 * b + a) dy) (448 + 8 * a + b) fr) (448 + 8 * b + a) fr).1 (160 + 64 * p + 8 + q) = if p = a ∧ q = b ∨ p = b ∧ q = a then dy else g.1 (160 + 64 * p + 8 + q) := by
  rw [tw_g1_ap, tw_g1_ap, tw_g1_ap, tw_g1_ap, tw_g1_ap, tw_g1_ap, tw_g1_ap, tw_g1_ap]
  repeat' split
  all_goals first | rfl | (exfalso; omega)
theorem tw_road_c2 {g : tw_G} {a b p q : Nat} {dy fr : Int32} (ha : a < 4) (hb : b < 4) (hp : p < 4) (hq : q < 4) : (tw_g1 (tw_g1 (tw_g1 (tw_g1 (tw_g1 (tw_g1 (tw_g1 (tw_g1 g (160 + 64 * a + 8 + b) dy) (160 + 64 * a + 16 + b) fr) (160 + 64 * b + 8 + a) dy) (160 + 64 * b + 16 + a) fr) (416 + 8 * a + b) dy) (416 + 8 * b + a) dy) (448 + 8 * a + b) fr) (448 + 8 * b + a) fr).1 (160 + 64 * p + 16 + q) = if p = a ∧ q = b ∨ p = b ∧ q = a then fr else g.1 (160 + 64 * p + 16 + q) := by
  rw [tw_g1_ap, tw_g1_ap, tw_g1_ap, tw_g1_ap, tw_g1_ap, tw_g1_ap, tw_g1_ap, tw_g1_ap]
  repeat' split
  all_goals first | rfl | (exfalso; omega)
theorem tw_road_m1 {g : tw_G} {a b p q : Nat} {dy fr : Int32} (ha : a < 4) (hb : b < 4) (hp : p < 4) (hq : q < 4) : (tw_g1 (tw_g1 (tw_g1 (tw_g1 (tw_g1 (tw_g1 (tw_g1 (tw_g1 g (160 + 64 * a + 8 + b) dy) (160 + 64 * a + 16 + b) fr) (160 + 64 * b + 8 + a) dy) (160 + 64 * b + 16 + a) fr) (416 + 8 * a + b) dy) (416 + 8 * b + a) dy) (448 + 8 * a + b) fr) (448 + 8 * b + a) fr).1 (416 + 8 * p + q) = if p = a ∧ q = b ∨ p = b ∧ q = a then dy else g.1 (416 + 8 * p + q) := by
  rw [tw_g1_ap, tw_g1_ap, tw_g1_ap, tw_g1_ap, tw_g1_ap, tw_g1_ap, tw_g1_ap, tw_g1_ap]
  repeat' split
  all_goals first | rfl | (exfalso; omega)
theorem tw_road_m2 {g : tw_G} {a b p q : Nat} {dy fr : Int32} (ha : a < 4) (hb : b < 4) (hp : p < 4) (hq : q < 4) : (tw_g1 (tw_g1 (tw_g1 (tw_g1 (tw_g1 (tw_g1 (tw_g1 (tw_g1 g (160 + 64 * a + 8 + b) dy) (160 + 64 * a + 16 + b) fr) (160 + 64 * b + 8 + a) dy) (160 + 64 * b + 16 + a) fr) (416 + 8 * a + b) dy) (416 + 8 * b + a) dy) (448 + 8 * a + b) fr) (448 + 8 * b + a) fr).1 (448 + 8 * p + q) = if p = a ∧ q = b ∨ p = b ∧ q = a then fr else g.1 (448 + 8 * p + q) := by
  rw [tw_g1_ap, tw_g1_ap, tw_g1_ap, tw_g1_ap, tw_g1_ap, tw_g1_ap, tw_g1_ap, tw_g1_ap]
  repeat' split
  all_goals first | rfl | (exfalso; omega)
theorem tw_road_n {g : tw_G} {a b i : Nat} {dy fr : Int32} (ha : a < 4) (hb : b < 4) (h : i < 416 ∧ (∀ p, p < 4 → i < 160 + 64 * p + 8 ∨ 160 + 64 * p + 20 ≤ i) ∨ 480 ≤ i) : (tw_g1 (tw_g1 (tw_g1 (tw_g1 (tw_g1 (tw_g1 (tw_g1 (tw_g1 g (160 + 64 * a + 8 + b) dy) (160 + 64 * a + 16 + b) fr) (160 + 64 * b + 8 + a) dy) (160 + 64 * b + 16 + a) fr) (416 + 8 * a + b) dy) (416 + 8 * b + a) dy) (448 + 8 * a + b) fr) (448 + 8 * b + a) fr).1 i = g.1 i := by
  have h1 := fun z : i < 416 ∧ (∀ p, p < 4 → i < 160 + 64 * p + 8 ∨ 160 + 64 * p + 20 ≤ i) => z.2 a ha
  have h2 := fun z : i < 416 ∧ (∀ p, p < 4 → i < 160 + 64 * p + 8 ∨ 160 + 64 * p + 20 ≤ i) => z.2 b hb
  rcases h with h | h
  · have h1 := h1 h
    have h2 := h2 h
    have h3 := h.1
    clear h
    repeat rw [tw_g1_ne (by omega)]
  · repeat rw [tw_g1_ne (by omega)]
theorem tw_I9.road {B : Nat} {g : tw_G} {a b dy fr : Int32} (I : tw_I9 B g) (i : (tw_ix (g.2 6) a ∧ tw_ix (g.2 6) b)) (hR : tw_RD a b dy fr) (h4 : g.2 6 ≤ 4) : tw_I9 B (tw_g1 (tw_g1 (tw_g1 (tw_g1 (tw_g1 (tw_g1 (tw_g1 (tw_g1 g (160 + 64 * tw_DN a + 8 + tw_DN b) dy) (160 + 64 * tw_DN a + 16 + tw_DN b) fr) (160 + 64 * tw_DN b + 8 + tw_DN a) dy) (160 + 64 * tw_DN b + 16 + tw_DN a) fr) (416 + 8 * tw_DN a + tw_DN b) dy) (416 + 8 * tw_DN b + tw_DN a) dy) (448 + 8 * tw_DN a + tw_DN b) fr) (448 + 8 * tw_DN b + tw_DN a) fr) := by
  have e := I.eq
  have I0 := I
  obtain ⟨i1, i2, i3, i4, -⟩ := I
  obtain ⟨⟨j, hj, rfl⟩, ⟨w, hw, rfl⟩⟩ := i
  rw [show tw_DN (nI j) = j from nI_clamp (by omega), show tw_DN (nI w) = w from nI_clamp (by omega)]
  have ha : j < 4 := by omega
  have hb : w < 4 := by omega
  obtain ⟨G, eG⟩ : ∃ z : tw_G, z = tw_g1 (tw_g1 (tw_g1 (tw_g1 (tw_g1 (tw_g1 (tw_g1 (tw_g1 g (160 + 64 * j + 8 + w) dy) (160 + 64 * j + 16 + w) fr) (160 + 64 * w + 8 + j) dy) (160 + 64 * w + 16 + j) fr) (416 + 8 * j + w) dy) (416 + 8 * w + j) dy) (448 + 8 * j + w) fr) (448 + 8 * w + j) fr := ⟨_, rfl⟩
  rw [← eG]
  have c1 : ∀ p q, p < 4 → q < 4 → G.1 (160 + 64 * p + 8 + q) = if p = j ∧ q = w ∨ p = w ∧ q = j then dy else g.1 (160 + 64 * p + 8 + q) := by rw [eG]; exact fun p q hp hq => tw_road_c1 ha hb hp hq
  have c2 : ∀ p q, p < 4 → q < 4 → G.1 (160 + 64 * p + 16 + q) = if p = j ∧ q = w ∨ p = w ∧ q = j then fr else g.1 (160 + 64 * p + 16 + q) := by rw [eG]; exact fun p q hp hq => tw_road_c2 ha hb hp hq
  have m1 : ∀ p q, p < 4 → q < 4 → G.1 (416 + 8 * p + q) = if p = j ∧ q = w ∨ p = w ∧ q = j then dy else g.1 (416 + 8 * p + q) := by rw [eG]; exact fun p q hp hq => tw_road_m1 ha hb hp hq
  have m2 : ∀ p q, p < 4 → q < 4 → G.1 (448 + 8 * p + q) = if p = j ∧ q = w ∨ p = w ∧ q = j then fr else g.1 (448 + 8 * p + q) := by rw [eG]; exact fun p q hp hq => tw_road_m2 ha hb hp hq
  have n : ∀ i, (i < 416 ∧ (∀ p, p < 4 → i < 160 + 64 * p + 8 ∨ 160 + 64 * p + 20 ≤ i) ∨ 480 ≤ i) → G.1 i = g.1 i := by rw [eG]; exact fun i h => tw_road_n ha hb h
  have g2 : G.2 = g.2 := by rw [eG]; rfl
  clear eG
  have E : tw_EQ G := by
    intro j2 hj2
    rw [g2]
    refine ⟨fun hl => ?_, fun hl k2 hk2 => ?_⟩
    · obtain ⟨b1, b2, b3, b4, b5⟩ := (e j2 hj2).1 hl
      refine ⟨?_, ?_, ?_, ?_, fun k2 hk2 => ⟨?_, ?_⟩⟩
      · rw [n _ (Or.inl ⟨by omega, fun p hp => by omega⟩), n _ (Or.inr (by omega))]; exact b1
      · rw [n _ (Or.inl ⟨by omega, fun p hp => by omega⟩), n _ (Or.inr (by omega))]; exact b2
      · rw [n _ (Or.inl ⟨by omega, fun p hp => by omega⟩), n _ (Or.inr (by omega))]; exact b3
      · rw [n _ (Or.inl ⟨by omega, fun p hp => by omega⟩), n _ (Or.inr (by omega))]; exact b4
      · rw [c1 j2 k2 hj2 hk2, m1 j2 k2 hj2 hk2, (b5 k2 hk2).1]
      · rw [c2 j2 k2 hj2 hk2, m2 j2 k2 hj2 hk2, (b5 k2 hk2).2]
    · obtain ⟨b1, b2⟩ := (e j2 hj2).2 hl k2 hk2
      rw [m1 j2 k2 hj2 hk2, m2 j2 k2 hj2 hk2, if_neg (by omega), if_neg (by omega)]
      exact ⟨b1, b2⟩
  have V : tw_EV G := by
    have v := I0.ev
    refine ⟨fun j3 hj3 => ?_, fun a3 b3 ha3 hb3 => ?_⟩
    · rw [g2] at hj3
      rw [n _ (Or.inr (by omega)), n _ (Or.inr (by omega))]
      exact v.1 j3 hj3
    · rw [m2 a3 b3 ha3 hb3, m2 b3 a3 hb3 ha3]
      have v2 := v.2 a3 b3 ha3 hb3
      by_cases q : a3 = j ∧ b3 = w ∨ a3 = w ∧ b3 = j
      · rw [if_pos q, if_pos (by omega)]; exact ⟨hR.2.2, rfl⟩
      · rw [if_neg q, if_neg (by omega)]; exact v2
  have RY5 : tw_RY G := fun a3 b3 ha3 hb3 => by
    rw [m1 a3 b3 ha3 hb3, m1 b3 a3 hb3 ha3]
    by_cases q : a3 = j ∧ b3 = w ∨ a3 = w ∧ b3 = j
    · rw [if_pos q, if_pos (by omega)]
      obtain ⟨n9, l1, l2, e9⟩ := tw_I_rng (a := 1) (b := 30) hR.2.1.1 hR.2.1.2 (by decide) (by decide)
      exact ⟨n9, l1, l2, e9, e9⟩
    · rw [if_neg q, if_neg (by omega)]
      exact I0.i5.2.2.2.2.2.1 a3 b3 ha3 hb3
  unfold tw_I9
  rw [g2]
  exact ⟨I0.1, I0.2.1, I0.2.2.1, I0.2.2.2.1, I0.2.2.2.2.1, I0.2.2.2.2.2.1, I0.2.2.2.2.2.2.1, I0.2.2.2.2.2.2.2.1, I0.2.2.2.2.2.2.2.2.1, E, V, I0.et.of (fun j3 hj3 k3 hk3 => ⟨n _ (Or.inl ⟨by omega, fun p hp => by omega⟩), n _ (Or.inr (by omega))⟩) (by rw [g2]), I0.i5.of0 (fun i9 h9 => by unfold tw_x5 at h9; rcases h9 with h9 | h9; exact n _ (Or.inl ⟨by omega, fun p hp => by omega⟩); exact n _ (Or.inr (by omega))) RY5 (fun i9 _ => by rw [g2])⟩
theorem tw_DNr {a b : Nat} {x : Int32} (h1 : nI a ≤ x) (h2 : x ≤ nI b) (ha : a < 2 ^ 31) (hb : b < 2 ^ 31) : a ≤ tw_DN x ∧ tw_DN x ≤ b ∧ x = nI (tw_DN x) := by
  obtain ⟨n, l1, l2, rfl⟩ := tw_I_rng h1 h2 hb ha
  rw [show tw_DN (nI n) = n from nI_clamp (by omega)]
  exact ⟨l1, l2, rfl⟩
theorem tw_I9.em {B : Nat} {g : tw_G} (I : tw_I9 B g) (h3 : g.2 3 ≤ 4) : tw_EM g := by
  have v := I.ev
  intro j hj
  have r := tw_DNr (a := 100) (b := 200) (v.1 j hj).1.1 (v.1 j hj).1.2 (by decide) (by decide)
  have c := tw_DNr (a := 0) (b := 50) (v.1 j hj).2.1 (v.1 j hj).2.2 (by decide) (by decide)
  refine ⟨r, c.2, fun k hk => ?_⟩
  exact (tw_DNr (a := 0) (b := 100) (v.2 j k (by omega) hk).1.1 (v.2 j k (by omega) hk).1.2 (by decide) (by decide)).2
theorem tw_I9.ec {B : Nat} {g : tw_G} (I : tw_I9 B g) (h4 : g.2 6 ≤ 4) : tw_EC g := by
  have e := I.eq
  have h63 : g.2 6 = g.2 3 := I.2.2.2.1.trans I.1
  have m := I.em (by omega)
  intro j hj
  have m := m j (by omega)
  obtain ⟨e1, e2, -, -, e5⟩ := (e j (by omega)).1 (by omega)
  rw [e1, e2]
  exact ⟨m.1, m.2.1, fun k hk => by rw [(e5 k hk).2]; exact m.2.2 k hk⟩
theorem tw_I9.tt {B : Nat} {g : tw_G} {a b k n : Nat} (I : tw_I9 B g) (h4 : g.2 6 ≤ 4) (ha : a < g.2 6) (hb : b < g.2 6) : tw_tC g a b k n = tw_tM g a b k n := by
  have e := I.eq
  have h63 : g.2 6 = g.2 3 := I.2.2.2.1.trans I.1
  obtain ⟨a1, a2, -, -, a5⟩ := (e a (by omega)).1 (by omega)
  obtain ⟨b1, b2, -, -, -⟩ := (e b (by omega)).1 (by omega)
  unfold tw_tC tw_tM
  rw [a1, a2, b1, b2, (a5 b (by omega)).2, (I.ev.2 b a (by omega) (by omega)).2]
theorem tw_V_trip {B : Nat} {g : tw_G} {a b m gr : Int32} (I : tw_I9 B g) (i : tw_ix (g.2 6) a ∧ tw_ix (g.2 6) b) (h4 : g.2 6 ≤ 4) : nI (tw_tC g (tw_DN a) (tw_DN b) (tw_DN m) (tw_DN gr)) = nI (tw_tM g (tw_DN a) (tw_DN b) (tw_DN m) (tw_DN gr)) := by
  obtain ⟨⟨j, hj, rfl⟩, ⟨w, hw, rfl⟩⟩ := i
  rw [show tw_DN (nI j) = j from nI_clamp (by omega), show tw_DN (nI w) = w from nI_clamp (by omega), I.tt h4 hj hw]
theorem tw_I9.bb {B : Nat} {g : tw_G} {a k n j : Nat} (I : tw_I9 B g) (h4 : g.2 6 ≤ 4) (ha : a < g.2 6) (hj : j ≤ g.2 6) : tw_bC g a k n j = tw_bM g a k n j := tw_bs_congr j (fun i hi => I.tt h4 ha (by omega))
theorem tw_V_bestTrip {B : Nat} {g : tw_G} {n m gr : Int32} (I : tw_I9 B g) (i : tw_ix (g.2 6) n) (h4 : g.2 6 ≤ 4) : tw_bno (tw_bC g (tw_DN n) (tw_DN m) (tw_DN gr) (g.2 6)).1 = tw_bno (tw_bM g (tw_DN n) (tw_DN m) (tw_DN gr) (g.2 3)).1 := by
  obtain ⟨j, hj, rfl⟩ := i
  have h63 : g.2 6 = g.2 3 := I.2.2.2.1.trans I.1
  rw [show tw_DN (nI j) = j from nI_clamp (by omega), I.bb h4 hj (Nat.le_refl _), h63]
theorem tw_V_rest {B : Nat} {g : tw_G} {gr : Int32} (I : tw_I9 B g) (h4 : g.2 6 ≤ 4) : tw_rbi (tw_rC g (tw_DN gr) (g.2 6)) = tw_rbi (tw_rM g (tw_DN gr) (g.2 3)) := by
  have h63 : g.2 6 = g.2 3 := I.2.2.2.1.trans I.1
  unfold tw_rC tw_rM
  rw [← h63]
  exact congrArg tw_rbi (tw_rb_congr _ (fun i hi k _ => by rw [I.bb h4 hi (Nat.le_refl _)]))
theorem tw_ix_DN {m : Nat} {n : Int32} (i : tw_ix m n) (h : m ≤ 10) : tw_DN n < m := by
  obtain ⟨j, hj, rfl⟩ := i
  rw [show tw_DN (nI j) = j from nI_clamp (by omega)]
  exact hj
theorem tw_I9.tc {B : Nat} {g : tw_G} (I : tw_I9 B g) (h4 : g.2 6 ≤ 4) : tw_TC g := fun j hj k hk => by
  have h63 : g.2 6 = g.2 3 := I.2.2.2.1.trans I.1
  have e := I.et j (by omega) k hk
  rw [e.1]
  exact e.2
theorem tw_I9.ch {B : Nat} {g : tw_G} {n am : Int32} (I : tw_I9 B g) (i : tw_ix (g.2 6) n) (h4 : g.2 6 ≤ 4) : tw_chC g n am = tw_chM g n am := by
  have h63 : g.2 6 = g.2 3 := I.2.2.2.1.trans I.1
  have l := tw_ix_DN i (by omega)
  unfold tw_chC tw_chM
  rw [tw_tl_congr (g := g) (g' := g) (a := 160 + 64 * tw_DN n + 32) (b := 480 + 64 * tw_DN n + 24) (fun k hk => (I.et _ (by omega) k hk).1)]
theorem tw_gT_1 {g : tw_G} {b i : Nat} {F : tw_F} (h : i < b ∨ b + 5 ≤ i) : (tw_gT g b F).1 i = g.1 i := if_neg (by omega)
theorem tw_chM_L {g : tw_G} {a : Nat} {F : tw_F} {n am : Int32} (ha : a < 4) : tw_chM (tw_gT g (160 + 64 * a + 32) F) n am = tw_chM g n am := by
  unfold tw_chM
  rw [tw_tl_congr (g := tw_gT g (160 + 64 * a + 32) F) (g' := g) (a := 480 + 64 * tw_DN n + 24) (b := 480 + 64 * tw_DN n + 24) (fun k hk => tw_gT_1 (by omega))]
theorem tw_V_coins {B : Nat} {g : tw_G} {n am : Int32} (I : tw_I9 B g) (i : tw_ix (g.2 6) n) (h4 : g.2 6 ≤ 4) : tw_cd (tw_chC g n am) = tw_cd (tw_chM g n am) := by rw [I.ch i h4]
theorem tw_V_give {B : Nat} {g : tw_G} {n am : Int32} (I : tw_I9 B g) (i : tw_ix (g.2 6) n) (h4 : g.2 6 ≤ 4) : nI (tw_sum5 (tw_gF (tw_chC g n am))) = nI (tw_sum5 (tw_gF (tw_chM (tw_gT g (160 + 64 * tw_DN n + 32) (tw_gF (tw_chC g n am))) n am))) := by
  rw [tw_chM_L (Nat.lt_of_lt_of_le (tw_ix_DN i (by omega)) h4), I.ch i h4]
theorem tw_V_till {B : Nat} {g : tw_G} {n kd my : Int32} (I : tw_I9 B g) (i : (tw_ix (g.2 6) n ∧ tw_ix 5 kd)) (h4 : g.2 6 ≤ 4) : g.1 (160 + 64 * tw_DN n + 32 + tw_DN kd) = (tw_g1 g (160 + 64 * tw_DN n + 32 + tw_DN kd) my).1 (480 + 64 * tw_DN n + 24 + tw_DN kd) := by
  have h63 : g.2 6 = g.2 3 := I.2.2.2.1.trans I.1
  have l := tw_ix_DN i.1 (by omega)
  have k := tw_ix_DN i.2 (by omega)
  rw [tw_g1_ne (by omega)]
  exact (I.et _ (by omega) _ k).1
theorem tw_I9.till {B : Nat} {g : tw_G} {n kd my : Int32} (I : tw_I9 B g) (i : (tw_ix (g.2 6) n ∧ tw_ix 5 kd)) (hR : tw_R9 my) (h4 : g.2 6 ≤ 4) : tw_I9 B (tw_g1 (tw_g1 g (160 + 64 * tw_DN n + 32 + tw_DN kd) my) (480 + 64 * tw_DN n + 24 + tw_DN kd) my) := by
  have h63 : g.2 6 = g.2 3 := I.2.2.2.1.trans I.1
  have l := tw_ix_DN i.1 (by omega)
  have k := tw_ix_DN i.2 (by omega)
  obtain ⟨a, ea⟩ : ∃ z, z = tw_DN n := ⟨_, rfl⟩
  obtain ⟨b, eb⟩ : ∃ z, z = tw_DN kd := ⟨_, rfl⟩
  rw [← ea] at l ⊢
  rw [← eb] at k ⊢
  refine ⟨I.1, I.2.1, I.2.2.1, I.2.2.2.1, I.2.2.2.2.1, I.2.2.2.2.2.1, I.2.2.2.2.2.2.1, I.2.2.2.2.2.2.2.1, I.2.2.2.2.2.2.2.2.1, fun j2 hj2 => ⟨fun hl => ?_, fun hl k2 hk2 => ?_⟩, I.ev.of (fun i9 h1 h2 => by repeat rw [tw_g1_ne (by omega)]) (fun j3 hj3 => ⟨by repeat rw [tw_g1_ne (by omega)], by repeat rw [tw_g1_ne (by omega)]⟩) rfl, fun j3 hj3 k3 hk3 => ?_, I.i5.of (fun i9 h9 => by have h9 : tw_x5 i9 ∨ 416 ≤ i9 ∧ i9 < 448 := h9; unfold tw_x5 at h9; repeat rw [tw_g1_ne (by omega)]) (fun _ _ => rfl)⟩
  · obtain ⟨b1, b2, b3, b4, b5⟩ := (I.eq j2 hj2).1 hl
    have hl : j2 < g.2 3 := hl
    refine ⟨?_, ?_, ?_, ?_, fun k2 hk2 => ⟨?_, ?_⟩⟩
    · repeat rw [tw_g1_ne (by omega)]
      exact b1
    · repeat rw [tw_g1_ne (by omega)]
      exact b2
    · repeat rw [tw_g1_ne (by omega)]
      exact b3
    · repeat rw [tw_g1_ne (by omega)]
      exact b4
    · repeat rw [tw_g1_ne (by omega)]
      exact (b5 k2 hk2).1
    · repeat rw [tw_g1_ne (by omega)]
      exact (b5 k2 hk2).2
  · have b := (I.eq j2 hj2).2 hl k2 hk2
    have hl : g.2 3 ≤ j2 := hl
    repeat rw [tw_g1_ne (by omega)]
    exact b
  · have hj3 : j3 < g.2 3 := hj3
    have e := I.et j3 hj3 k3 hk3
    by_cases q : j3 = a ∧ k3 = b
    · obtain ⟨rfl, rfl⟩ := q
      rw [tw_g1_ne (i := 480 + 64 * j3 + 24 + k3) (by omega), tw_g1_eq, tw_g1_eq]
      exact ⟨rfl, hR⟩
    · repeat rw [tw_g1_ne (by omega)]
      exact e
theorem tw_I9.give {B : Nat} {g : tw_G} {n am : Int32} (I : tw_I9 B g) (i : tw_ix (g.2 6) n) (hR : tw_RA am) (h4 : g.2 6 ≤ 4) : tw_I9 B (tw_gT (tw_gT g (160 + 64 * tw_DN n + 32) (tw_gF (tw_chC g n am))) (480 + 64 * tw_DN n + 24) (tw_gF (tw_chM (tw_gT g (160 + 64 * tw_DN n + 32) (tw_gF (tw_chC g n am))) n am))) := by
  have h63 : g.2 6 = g.2 3 := I.2.2.2.1.trans I.1
  have l := tw_ix_DN i (by omega)
  rw [tw_chM_L (by omega), ← I.ch i h4]
  have gl : ∀ k, tw_gF (tw_chC g n am) k ≤ tw_tl g (160 + 64 * tw_DN n + 32) k := by
    cases z : tw_chC g n am with
    | none => exact fun k => Nat.zero_le _
    | some F => exact (tw_ch_0 _ _ _ z).2
  obtain ⟨F, eF⟩ : ∃ z, z = tw_gF (tw_chC g n am) := ⟨_, rfl⟩
  rw [← eF] at gl ⊢
  obtain ⟨a, ea⟩ : ∃ z, z = tw_DN n := ⟨_, rfl⟩
  rw [← ea] at l gl ⊢
  have N : ∀ i9, (i9 < 160 + 64 * a + 32 ∨ 160 + 64 * a + 37 ≤ i9) → (i9 < 480 + 64 * a + 24 ∨ 480 + 64 * a + 29 ≤ i9) → (tw_gT (tw_gT g (160 + 64 * a + 32) F) (480 + 64 * a + 24) F).1 i9 = g.1 i9 := fun i9 h1 h2 => (tw_gT_1 (by omega)).trans (tw_gT_1 (by omega))
  obtain ⟨G, eG⟩ : ∃ z : tw_G, z = tw_gT (tw_gT g (160 + 64 * a + 32) F) (480 + 64 * a + 24) F := ⟨_, rfl⟩
  have T1 : ∀ k, k < 5 → G.1 (160 + 64 * a + 32 + k) = g.1 (160 + 64 * a + 32 + k) - nI (F k) := fun k hk => by
    rw [eG, tw_gT_1 (by omega)]
    show (if _ then _ else _) = _
    rw [if_pos (by omega), show 160 + 64 * a + 32 + k - (160 + 64 * a + 32) = k by omega]
  have T2 : ∀ k, k < 5 → G.1 (480 + 64 * a + 24 + k) = g.1 (480 + 64 * a + 24 + k) - nI (F k) := fun k hk => by
    rw [eG]
    show (if _ then (tw_gT g (160 + 64 * a + 32) F).1 _ - _ else _) = _
    rw [if_pos (by omega), tw_gT_1 (by omega), show 480 + 64 * a + 24 + k - (480 + 64 * a + 24) = k by omega]
  have G2 : G.2 = g.2 := by rw [eG]; rfl
  rw [← eG] at N ⊢
  clear eG
  unfold tw_I9
  rw [G2]
  refine ⟨I.1, I.2.1, I.2.2.1, I.2.2.2.1, I.2.2.2.2.1, I.2.2.2.2.2.1, I.2.2.2.2.2.2.1, I.2.2.2.2.2.2.2.1, I.2.2.2.2.2.2.2.2.1, fun j2 hj2 => ⟨fun hl => ?_, fun hl k2 hk2 => ?_⟩, I.ev.of (fun i9 h1 h2 => N _ (by omega) (by omega)) (fun j3 hj3 => ⟨N _ (by omega) (by omega), N _ (by omega) (by omega)⟩) (by rw [G2]), fun j3 hj3 k3 hk3 => ?_, I.i5.of (fun i9 h9 => N _ (by unfold tw_x5 at h9; omega) (by unfold tw_x5 at h9; omega)) (fun i9 _ => by rw [G2])⟩
  · rw [G2] at hl
    obtain ⟨b1, b2, b3, b4, b5⟩ := (I.eq j2 hj2).1 hl
    refine ⟨?_, ?_, ?_, ?_, fun k2 hk2 => ⟨?_, ?_⟩⟩
    · rw [N _ (by omega) (by omega), N (480 + 64 * j2) (by omega) (by omega)]; exact b1
    · rw [N _ (by omega) (by omega), N (480 + 64 * j2 + 1) (by omega) (by omega)]; exact b2
    · rw [N _ (by omega) (by omega), N (480 + 64 * j2 + 8) (by omega) (by omega)]; exact b3
    · rw [N _ (by omega) (by omega), N (480 + 64 * j2 + 9) (by omega) (by omega)]; exact b4
    · rw [N _ (by omega) (by omega), N (416 + 8 * j2 + k2) (by omega) (by omega)]; exact (b5 k2 hk2).1
    · rw [N _ (by omega) (by omega), N (448 + 8 * j2 + k2) (by omega) (by omega)]; exact (b5 k2 hk2).2
  · rw [G2] at hl
    have b := (I.eq j2 hj2).2 hl k2 hk2
    rw [N _ (by omega) (by omega), N (448 + 8 * j2 + k2) (by omega) (by omega)]
    exact b
  · rw [G2] at hj3
    have e := I.et j3 hj3 k3 hk3
    by_cases q : j3 = a
    · subst q
      rw [T1 k3 hk3, T2 k3 hk3, e.1]
      have u : ∀ k, k < 5 → 0 ≤ g.1 (160 + 64 * j3 + 32 + k) ∧ g.1 (160 + 64 * j3 + 32 + k) ≤ 9 := fun k hk => by
        have e9 := I.et j3 hj3 k hk
        rw [e9.1]
        exact e9.2
      have z := tw_tsub u k3 hk3 gl
      rw [e.1] at z
      exact ⟨rfl, z⟩
    · rw [N _ (by omega) (by omega), N (480 + 64 * j3 + 24 + k3) (by omega) (by omega)]
      exact e
theorem tw_EQ.of3 {g g1 : tw_G} (e : tw_EQ g) (h1 : ∀ i, 128 ≤ i → i < 768 → g1.1 i = g.1 i) (b3 : g.2 3 ≤ 4) (h3 : g1.2 3 = g.2 3) : tw_EQ g1 := by
  intro j hj
  rw [h3]
  refine ⟨fun hl => ?_, fun hl k hk => ?_⟩
  · obtain ⟨e1, e2, e3, e4, e5⟩ := (e j hj).1 hl
    rw [h1 (160 + 64 * j) (by omega) (by omega), h1 (480 + 64 * j) (by omega) (by omega), h1 (160 + 64 * j + 1) (by omega) (by omega), h1 (480 + 64 * j + 1) (by omega) (by omega), h1 (160 + 64 * j + 2) (by omega) (by omega), h1 (480 + 64 * j + 8) (by omega) (by omega), h1 (160 + 64 * j + 3) (by omega) (by omega), h1 (480 + 64 * j + 9) (by omega) (by omega)]
    refine ⟨e1, e2, e3, e4, fun k hk => ?_⟩
    rw [h1 (160 + 64 * j + 8 + k) (by omega) (by omega), h1 (416 + 8 * j + k) (by omega) (by omega), h1 (160 + 64 * j + 16 + k) (by omega) (by omega), h1 (448 + 8 * j + k) (by omega) (by omega)]
    exact e5 k hk
  · rw [h1 (416 + 8 * j + k) (by omega) (by omega), h1 (448 + 8 * j + k) (by omega) (by omega)]
    exact (e j hj).2 hl k hk
theorem tw_dn {j : Nat} (h : j < 2 ^ 31) : tw_DN (nI j) = j := nI_clamp h
theorem tw_I9.c6 {B : Nat} {g : tw_G} (I : tw_I9 B g) : g.2 6 = g.2 3 := I.2.2.2.1.trans I.1
theorem tw_I9.c7 {B : Nat} {g : tw_G} (I : tw_I9 B g) : g.2 7 = g.2 4 := I.2.2.2.2.1.trans I.2.1
theorem tw_I9.c8 {B : Nat} {g : tw_G} (I : tw_I9 B g) : g.2 8 = g.2 5 := I.2.2.2.2.2.1.trans I.2.2.1
theorem tw_I9.ct {B : Nat} {g : tw_G} (I : tw_I9 B g) : g.2 21 = g.2 22 := I.2.2.2.2.2.2.1
theorem tw_I9.bd {B : Nat} {g : tw_G} (I : tw_I9 B g) : tw_BD g := I.i5.2.2.2.2.2.2.2
theorem tw_I9.fr {B : Nat} {g : tw_G} (I : tw_I9 B g) : tw_FR g := I.i5.2.2.2.2.2.2.1
theorem tw_I9.am {B : Nat} {g : tw_G} (I : tw_I9 B g) : tw_AM B g := I.i5.2.1
theorem tw_I9.am5 {B : Nat} {g : tw_G} (I : tw_I9 B g) (h : B ≤ 59000000) : tw_AM 59000000 g := I.am.mono h
theorem tw_I9.em5 {B : Nat} {g : tw_G} (I : tw_I9 B g) : tw_EM g := I.em I.bd.1
theorem tw_I9.ch5 {B : Nat} {g : tw_G} (I : tw_I9 B g) (h : B ≤ 59000000) : tw_CH g := I.i5.ch (I.ec (by rw [I.c6]; exact I.bd.1)) h I.c6 I.c7 I.c8
theorem tw_I9.mono {B C : Nat} {g : tw_G} (I : tw_I9 B g) (h : B ≤ C) : tw_I9 C g := by
  obtain ⟨a1, a2, a3, a4, a5, a6, a7, a8, a9, a10, a11, a12, i⟩ := I
  exact ⟨a1, a2, a3, a4, a5, a6, a7, a8, a9, a10, a11, a12, i.mono h⟩
theorem tw_I9.re5 {B C : Nat} {g g9 : tw_G} (I : tw_I9 B g) (n : ∀ i, 128 ≤ i → ¬ tw_x5 i → g9.1 i = g.1 i) (c2 : ∀ i, i ≠ 21 → i ≠ 22 → g9.2 i = g.2 i) (ct : g9.2 21 = g9.2 22) (J : tw_I5 C g9) : tw_I9 C g9 := by
  have b3 := I.bd.1
  obtain ⟨a1, a2, a3, a4, a5, a6, -, a8, a9, eq, ev, et, -⟩ := I
  unfold tw_I9
  rw [c2 0 (by decide) (by decide), c2 1 (by decide) (by decide), c2 2 (by decide) (by decide), c2 3 (by decide) (by decide), c2 4 (by decide) (by decide), c2 5 (by decide) (by decide), c2 6 (by decide) (by decide), c2 7 (by decide) (by decide), c2 8 (by decide) (by decide), c2 9 (by decide) (by decide), c2 24 (by decide) (by decide)]
  have m : ∀ i, 128 ≤ i → i < 768 → (i < 416 → i % 64 ≠ 56 ∧ i % 64 ≠ 57) → (480 ≤ i → i % 64 ≠ 48 ∧ i % 64 ≠ 49) → g9.1 i = g.1 i := fun i h1 h2 h3 h4 => n i h1 (fun z => by have z := z.n; omega)
  refine ⟨a1, a2, a3, a4, a5, a6, ct, a8, a9, fun j hj => ?_, ev.of (fun i h1 h2 => m i (by omega) (by omega) (by omega) (by omega)) (fun j hj => ⟨m _ (by omega) (by omega) (by omega) (by omega), m _ (by omega) (by omega) (by omega) (by omega)⟩) (c2 3 (by decide) (by decide)), et.of (fun j hj k hk => ⟨m _ (by omega) (by omega) (by omega) (by omega), m _ (by omega) (by omega) (by omega) (by omega)⟩) (c2 3 (by decide) (by decide)), J⟩
  rw [c2 3 (by decide) (by decide)]
  refine ⟨fun hl => ?_, fun hl k hk => ?_⟩
  · obtain ⟨e1, e2, e3, e4, e5⟩ := (eq j hj).1 hl
    rw [m (160 + 64 * j) (by omega) (by omega) (by omega) (by omega), m (480 + 64 * j) (by omega) (by omega) (by omega) (by omega), m (160 + 64 * j + 1) (by omega) (by omega) (by omega) (by omega), m (480 + 64 * j + 1) (by omega) (by omega) (by omega) (by omega), m (160 + 64 * j + 2) (by omega) (by omega) (by omega) (by omega), m (480 + 64 * j + 8) (by omega) (by omega) (by omega) (by omega), m (160 + 64 * j + 3) (by omega) (by omega) (by omega) (by omega), m (480 + 64 * j + 9) (by omega) (by omega) (by omega) (by omega)]
    refine ⟨e1, e2, e3, e4, fun k hk => ?_⟩
    rw [m (160 + 64 * j + 8 + k) (by omega) (by omega) (by omega) (by omega), m (416 + 8 * j + k) (by omega) (by omega) (by omega) (by omega), m (160 + 64 * j + 16 + k) (by omega) (by omega) (by omega) (by omega), m (448 + 8 * j + k) (by omega) (by omega) (by omega) (by omega)]
    exact e5 k hk
  · rw [m (416 + 8 * j + k) (by omega) (by omega) (by omega) (by omega), m (448 + 8 * j + k) (by omega) (by omega) (by omega) (by omega)]
    exact (eq j hj).2 hl k hk
theorem tw_I9.ev2 {B : Nat} {g : tw_G} (I : tw_I9 B g) {j k : Nat} (hj : j < 4) (hk : k < 2) : g.1 (160 + 64 * j + 24 + k) = nI (tw_DN (g.1 (480 + 64 * j + 16 + k))) ∧ tw_DN (g.1 (480 + 64 * j + 16 + k)) ≤ B := by
  have z := I.am.v hj hk
  exact ⟨(I.i5.1 _ _ (tw_pr.v hj hk)).trans z.1, z.2⟩
theorem tw_I9.ep2 {B : Nat} {g : tw_G} (I : tw_I9 B g) {j k : Nat} (hj : j < 6) (hk : k < 2) : g.1 (768 + 32 * j + 8 + k) = nI (tw_DN (g.1 (960 + 32 * j + 8 + k))) ∧ tw_DN (g.1 (960 + 32 * j + 8 + k)) ≤ B := by
  have z := I.am.p hj hk
  exact ⟨(I.i5.1 _ _ (by unfold tw_pr; omega)).trans z.1, z.2⟩
theorem tw_I9.pe {B : Nat} {g : tw_G} (I : tw_I9 B g) {a c : Nat} (ha : a < 6) (hc : c < 8) : g.1 (768 + 32 * a + c) = g.1 (960 + 32 * a + c) := I.i5.1 _ _ (tw_pr.h ha (by omega))
theorem tw_I9.de {B : Nat} {g : tw_G} (I : tw_I9 B g) {a c : Nat} (ha : a < 10) (hc : c < 8) : g.1 (1152 + 8 * a + c) = g.1 (1232 + 8 * a + c) := I.i5.1 _ _ (tw_pr.d ha hc)
theorem tw_I9.mP {B : Nat} {g gL : tw_G} (I : tw_I9 B g) (s : tw_sc g gL) {a : Nat} (ha : a < 6) : tw_mP gL a = tw_cP g a := by
  unfold tw_mP tw_cP
  rw [s _ (by omega), I.pe ha (by decide)]
theorem tw_I9.pl {B : Nat} {g : tw_G} (I : tw_I9 B g) {a : Nat} (ha : a < g.2 4) (n : g.1 (768 + 32 * a + 1) ≠ -1) : tw_cP g a < g.2 3 := by
  obtain ⟨b3, b4, -⟩ := I.bd
  have e := I.pe (a := a) (c := 1) (by omega) (by decide)
  rcases I.i5.2.2.1 a ha with ⟨⟨i, hi, h⟩, -⟩ | ⟨h, -⟩
  · unfold tw_cP
    rw [e, h, tw_dn (by omega)]
    exact hi
  · exact absurd (e.trans h) n
theorem tw_I9.rt {B : Nat} {g gL : tw_G} (I : tw_I9 B g) (s : tw_sc g gL) {p : Nat} (hp : p < g.2 3) : gL.1 (480 + 64 * p) = g.1 (160 + 64 * p) ∧ gL.1 (480 + 64 * p + 1) = g.1 (160 + 64 * p + 1) ∧ (∀ k, k < 2 → gL.1 (480 + 64 * p + 8 + k) = g.1 (160 + 64 * p + 2 + k)) ∧ ∀ k, k < 4 → gL.1 (416 + 8 * p + k) = g.1 (160 + 64 * p + 8 + k) ∧ gL.1 (448 + 8 * p + k) = g.1 (160 + 64 * p + 16 + k) := by
  have b3 := I.bd.1
  obtain ⟨e1, e2, e3, e4, e5⟩ := (I.eq p (by omega)).1 hp
  rw [s _ (by omega), s _ (by omega)]
  refine ⟨e1.symm, e2.symm, fun k hk => ?_, fun k hk => ?_⟩
  · rw [s _ (by omega)]
    rcases (show k = 0 ∨ k = 1 by omega) with rfl | rfl
    · exact e3.symm
    · exact e4.symm
  · rw [s _ (by omega), s _ (by omega)]
    exact ⟨(e5 k hk).1.symm, (e5 k hk).2.symm⟩
theorem tw_I9.mg {B : Nat} {g gL : tw_G} (I : tw_I9 B g) (s : tw_sc g gL) {a k n : Nat} (ha : a < 6) (hp : tw_cP g a < g.2 3) : tw_mg gL a k n = tw_cg g a k n := by
  obtain ⟨e1, e2, -⟩ := I.rt s hp
  unfold tw_mg tw_cg
  rw [I.mP s ha, e1, e2]
theorem tw_I9.cgb {B : Nat} {g : tw_G} (I : tw_I9 B g) {a k n : Nat} (hp : tw_cP g a < g.2 3) : tw_cg g a k n ≤ 20 * n := by
  obtain ⟨e1, -⟩ := I.rt tw_sc.rf hp
  have m := (I.em5 _ hp).1
  unfold tw_cg
  refine tw_gv_le ?_ ?_
  · rw [← e1]
    exact m.1
  · rw [← e1]
    exact m.2.1
theorem tw_I9.mf {B : Nat} {g gL : tw_G} (I : tw_I9 B g) (s : tw_sc g gL) {a w k : Nat} (ha : a < 6) (hw : w < 4) (hk : k < 2) (hp : tw_cP g a < g.2 3) : tw_mf gL a w k = tw_fr g a w k := by
  obtain ⟨-, -, -, e⟩ := I.rt s hp
  unfold tw_mf tw_fr
  rw [I.mP s ha, (e w hw).2, s _ (by omega), I.i5.1 (768 + 32 * a + 8 + k) (960 + 32 * a + 8 + k) (by unfold tw_pr; omega)]
theorem tw_I9.frb {B : Nat} {g : tw_G} (I : tw_I9 B g) {a w k : Nat} (ha : a < 6) (hw : w < g.2 3) (hk : k < 2) (hp : tw_cP g a < g.2 3) : tw_fr g a w k ≤ tw_DN (g.1 (960 + 32 * a + 8 + k)) := by
  have b3 := I.bd.1
  obtain ⟨-, -, -, e⟩ := I.rt tw_sc.rf hp
  have m := ((I.em5 _ hp).2.2 w (by omega)).1
  rw [(e w (by omega)).2] at m
  unfold tw_fr
  rw [I.i5.1 (768 + 32 * a + 8 + k) (960 + 32 * a + 8 + k) (by unfold tw_pr; omega)]
  exact tw_up3_le (by omega)
theorem tw_I9.mD {B : Nat} {g gL : tw_G} (I : tw_I9 B g) (s : tw_sc g gL) (c22 : gL.2 22 = g.2 22) {a w : Nat} (ha : a < 6) (hw : w < 4) (hp : tw_cP g a < g.2 3) : tw_mD gL a w = tw_sD g a w := by
  obtain ⟨-, -, -, e⟩ := I.rt s hp
  unfold tw_mD tw_sD
  rw [I.mP s ha, (e w hw).1, c22, I.ct]
theorem tw_I9.sD {B : Nat} {g : tw_G} (I : tw_I9 B g) {a w : Nat} (hw : w < 4) (hp : tw_cP g a < g.2 3) : ∃ t, g.2 22 < t ∧ t ≤ 4000 ∧ tw_sD g a w = nI t := by
  obtain ⟨b3, b4, b5, b22⟩ := I.bd
  obtain ⟨-, -, -, e⟩ := I.rt tw_sc.rf hp
  obtain ⟨n, n1, n2, en, -⟩ := I.i5.2.2.2.2.2.1 (tw_cP g a) w (by omega) hw
  refine ⟨g.2 22 + n, by omega, by omega, ?_⟩
  unfold tw_sD
  rw [← (e w hw).1, en, I.ct]
  exact tw_niadd
theorem tw_I9.deb {B : Nat} {g : tw_G} (I : tw_I9 B g) {a : Nat} (ha : a < g.2 5) : ∃ x y, x < g.2 4 ∧ y < g.2 4 ∧ x ≠ y ∧ tw_dF g a = x ∧ tw_dT g a = y ∧ tw_eF g a = x ∧ tw_eT g a = y := by
  obtain ⟨b3, b4, b5, b22⟩ := I.bd
  obtain ⟨-, -, x, y, hx, hy, n, ex, ey⟩ := I.i5.2.2.2.1 a ha
  refine ⟨x, y, hx, hy, n, ?_, ?_, ?_, ?_⟩
  · unfold tw_dF
    rw [I.de (by omega) (by decide), ex, tw_dn (by omega)]
  · unfold tw_dT
    rw [I.de (by omega) (by decide), ey, tw_dn (by omega)]
  · unfold tw_eF
    rw [ex, tw_dn (by omega)]
  · unfold tw_eT
    rw [ey, tw_dn (by omega)]
theorem tw_I9.eFT {B : Nat} {g gL : tw_G} (I : tw_I9 B g) (s : tw_sc g gL) {a : Nat} (ha : a < g.2 5) : tw_eF gL a = tw_dF g a ∧ tw_eT gL a = tw_dT g a := by
  obtain ⟨b3, b4, b5, b22⟩ := I.bd
  unfold tw_eF tw_eT tw_dF tw_dT
  rw [s _ (by omega), s _ (by omega), I.de (by omega) (by decide), I.de (by omega) (by decide)]
  exact ⟨rfl, rfl⟩
theorem tw_I9.ms {B : Nat} {g gL : tw_G} (I : tw_I9 B g) (s : tw_sc g gL) (c22 : gL.2 22 = g.2 22) {a k : Nat} (ha : a < g.2 5) (hx : tw_dF g a < 6) (hp : tw_cP g (tw_dF g a) < g.2 3) : tw_ms gL a k = tw_sg g a k := by
  obtain ⟨b3, b4, b5, b22⟩ := I.bd
  obtain ⟨e1, -⟩ := I.rt s hp
  have d : tw_md gL a = tw_sd g a := by
    unfold tw_md tw_sd
    rw [s _ (by omega), s _ (by omega), c22, I.ct, I.de (by omega) (by decide), I.de (by omega) (by decide)]
  unfold tw_ms tw_sg
  rw [(I.eFT s ha).1, d, I.mP s hx, e1]
theorem tw_I9.sgb {B : Nat} {g : tw_G} (I : tw_I9 B g) {a k : Nat} (ha : a < g.2 5) (hx : tw_dF g a < 6) (hp : tw_cP g (tw_dF g a) < g.2 3) : tw_sg g a k ≤ 40000 := by
  obtain ⟨b3, b4, b5, b22⟩ := I.bd
  rw [← I.ms tw_sc.rf rfl ha hx hp]
  refine tw_ms_le I.i5.mh ha b22 ?_
  rw [(I.eFT tw_sc.rf ha).1, I.mP tw_sc.rf hx]
  exact (I.em5 _ hp).1.1
theorem tw_nle2 {x : Int32} {A n : Nat} (e : x = nI A) (hA : A < 2 ^ 31) (hn : n < 2 ^ 31) : nI n ≤ x ↔ n ≤ A := by
  rw [e]
  exact tw_nIle hn hA
theorem tw_Q_mine {B : Nat} {g gL : tw_G} {a m gr : Int32} (I : tw_I9 B g) (s : tw_sc g gL) (hB : B ≤ 59000000) (i : tw_ix (g.2 6) a) (r : tw_RG1 m gr) : g.1 (160 + 64 * tw_DN a + 24 + tw_DN m) ≤ 999999 - gr ↔ tw_DN (gL.1 (480 + 64 * tw_DN a + 16 + tw_DN m)) + tw_DN gr ≤ 999999 := by
  obtain ⟨b3, -⟩ := I.bd
  have c6 := I.c6
  obtain ⟨j, hj, rfl⟩ := i
  obtain ⟨k, hk, rfl⟩ := r.1.k
  obtain ⟨n, n1, n2, rfl⟩ := tw_gr1 r.2
  rw [tw_dn (j := j) (by omega), tw_dn (j := k) (by omega), tw_dn (j := n) (by omega), s _ (by omega)]
  obtain ⟨e, l⟩ := I.ev2 (j := j) (k := k) (by omega) hk
  rw [e, show (999999 : Int32) = nI 999999 from rfl, tw_I_sub (by omega) (by omega), tw_nIle (by omega) (by omega)]
  omega
theorem tw_Q_use {B : Nat} {g gL : tw_G} {a m gr : Int32} (I : tw_I9 B g) (s : tw_sc g gL) (hB : B ≤ 59000000) (i : tw_ix (g.2 6) a) (r : tw_RG1 m gr) : gr ≤ g.1 (160 + 64 * tw_DN a + 24 + tw_DN m) ↔ tw_DN gr ≤ tw_DN (gL.1 (480 + 64 * tw_DN a + 16 + tw_DN m)) := by
  obtain ⟨b3, -⟩ := I.bd
  have c6 := I.c6
  obtain ⟨j, hj, rfl⟩ := i
  obtain ⟨k, hk, rfl⟩ := r.1.k
  obtain ⟨n, n1, n2, rfl⟩ := tw_gr1 r.2
  rw [tw_dn (j := j) (by omega), tw_dn (j := k) (by omega), tw_dn (j := n) (by omega), s _ (by omega)]
  obtain ⟨e, l⟩ := I.ev2 (j := j) (k := k) (by omega) hk
  exact tw_nle2 e (by omega) (by omega)
theorem tw_I9.vv {B : Nat} {g gL : tw_G} {a m gr : Int32} (I : tw_I9 B g) (s : tw_sc g gL) (i : tw_ix (g.2 6) a) (r : tw_RG1 m gr) : g.1 (160 + 64 * tw_DN a + 24 + tw_DN m) = gL.1 (480 + 64 * tw_DN a + 16 + tw_DN m) := by
  obtain ⟨b3, -⟩ := I.bd
  have c6 := I.c6
  obtain ⟨j, hj, rfl⟩ := i
  obtain ⟨k, hk, rfl⟩ := r.1.k
  rw [tw_dn (j := j) (by omega), tw_dn (j := k) (by omega), s _ (by omega)]
  exact I.i5.1 _ _ (tw_pr.v (by omega) hk)
theorem tw_V_mine {B : Nat} {g gL : tw_G} {a m gr : Int32} (I : tw_I9 B g) (s : tw_sc g gL) (i : tw_ix (g.2 6) a) (r : tw_RG1 m gr) : g.1 (160 + 64 * tw_DN a + 24 + tw_DN m) + gr = gL.1 (480 + 64 * tw_DN a + 16 + tw_DN m) + gr := by rw [I.vv s i r]
theorem tw_V_use {B : Nat} {g gL : tw_G} {a m gr : Int32} (I : tw_I9 B g) (s : tw_sc g gL) (i : tw_ix (g.2 6) a) (r : tw_RG1 m gr) : g.1 (160 + 64 * tw_DN a + 24 + tw_DN m) + (-gr) = gL.1 (480 + 64 * tw_DN a + 16 + tw_DN m) + -gr := by rw [I.vv s i r]
theorem tw_S_vs {B : Nat} {g gL : tw_G} {a m u v : Int32} {t : Nat} (I : tw_I9 B g) (i : tw_ix (g.2 6) a) (r : tw_RM m) (ht : t = 1320 ∨ t = 1336) (eL : gL = tw_ad (tw_ad g (160 + 64 * tw_DN a + 24 + tw_DN m) u) (t + tw_DN m) v) : tw_sc g gL := fun b h => by
  obtain ⟨b3, -⟩ := I.bd
  have c6 := I.c6
  obtain ⟨j, hj, rfl⟩ := i
  obtain ⟨k, hk, rfl⟩ := r.k
  rw [tw_dn (j := j) (by omega), tw_dn (j := k) (by omega)] at eL
  rw [eL, tw_ad_ne (by omega), tw_ad_ne (by omega)]
theorem tw_I9.am2 {B C : Nat} {g gL g9 : tw_G} {j k t : Nat} {u v : Int32} (I : tw_I9 B g) (hj : j < g.2 3) (hk : k < 2) (ht : t = 1320 ∨ t = 1336) (s : tw_sc g gL) (eL : gL = tw_ad (tw_ad g (160 + 64 * j + 24 + k) u) (t + k) v) (e9 : g9 = tw_ad (tw_ad gL (480 + 64 * j + 16 + k) u) (t + 32 + k) v) (am : tw_AM C g9) : tw_I9 C g9 := by
  obtain ⟨b3, b4, b5, b22⟩ := I.bd
  have e : tw_E2 gL g9 := by
    have z := ((s.e2 I.i5.1).ad (v := u) (w := u) (tw_pr.v (j := j) (k := k) (by omega) hk) rfl).ad (v := v) (w := v) (a := t + k) (b := t + 32 + k) (by unfold tw_pr; omega) rfl
    rw [← eL, ← e9] at z
    exact z
  have c2 : g9.2 = g.2 := by rw [e9, eL]; rfl
  have F : ∀ b, b ≠ 480 + 64 * j + 16 + k → b ≠ t + 32 + k → (416 ≤ b ∧ b < 736 ∨ 960 ≤ b ∧ b < 1152 ∨ 1232 ≤ b ∧ b < 1312 ∨ 1344 ≤ b ∧ b < 1376) → g9.1 b = g.1 b := fun b h1 h2 h => by
    rw [e9, tw_ad_ne h2, tw_ad_ne h1]
    exact s b h
  have z := I.i5.2.2.2.2.1
  have J : tw_I5 C g9 := I.i5.re e (fun a h => by have h := h.n; rw [e9, tw_ad_ne (by omega), tw_ad_ne (by omega)]) am c2 (I.i5.hsre c2 (fun i c hi hc => F _ (by omega) (by omega) (by omega))) (fun i c hi hc => F _ (by omega) (by omega) (by omega)) ⟨fun i l hi h hl => by rw [c2] at h; exact (F _ (by omega) (by omega) (by omega)).trans (z.1 i l hi h hl), fun i l hi h hl => by rw [c2] at h; exact (F _ (by omega) (by omega) (by omega)).trans (z.2 i l hi h hl)⟩ (fun i h1 h2 => F i (by omega) (by omega) (by omega))
  refine I.re5 (fun i h1 h2 => ?_) (fun i _ _ => by rw [c2]) (by rw [c2]; exact I.ct) J
  unfold tw_x5 at h2
  rw [e9, tw_ad_ne (by omega), tw_ad_ne (by omega), eL, tw_ad_ne (by omega), tw_ad_ne (by omega)]
theorem tw_I9.mine {B C : Nat} {g gL g9 : tw_G} {a m gr : Int32} (I : tw_I9 B g) (hC : B + 99999 ≤ C) (hC2 : C ≤ 60000000) (i : tw_ix (g.2 6) a) (r : tw_RG1 m gr) (eL : gL = tw_ad (tw_ad g (160 + 64 * tw_DN a + 24 + tw_DN m) gr) (1336 + tw_DN m) gr) (e9 : g9 = tw_ad (tw_ad gL (480 + 64 * tw_DN a + 16 + tw_DN m) (gr)) (1368 + tw_DN m) gr) : tw_I9 C g9 := by
  have s := tw_S_vs I i r.1 (Or.inr rfl) eL
  obtain ⟨b3, -⟩ := I.bd
  have c6 := I.c6
  obtain ⟨j, hj, rfl⟩ := i
  obtain ⟨k, hk, rfl⟩ := r.1.k
  obtain ⟨n, n1, n2, rfl⟩ := tw_gr1 r.2
  rw [tw_dn (j := j) (by omega), tw_dn (j := k) (by omega)] at eL e9
  refine I.am2 (by omega) hk (Or.inr rfl) s eL e9 ?_
  have ac : 480 + 64 * j + 16 + k = tw_ac j k := by rw [tw_ac_v (by omega)]; omega
  have a13 : 1368 + k = tw_ac 13 k := by rw [tw_ac_s (by decide)]
  rw [e9, ac, a13]
  exact ((I.am.sc s).up (by omega) (by omega) hk).mono (by omega)
theorem tw_I9.use {B : Nat} {g gL g9 : tw_G} {a m gr : Int32} (I : tw_I9 B g) (hB : B ≤ 59000000) (i : tw_ix (g.2 6) a) (r : tw_RG1 m gr) (l : gr ≤ g.1 (160 + 64 * tw_DN a + 24 + tw_DN m)) (eL : gL = tw_ad (tw_ad g (160 + 64 * tw_DN a + 24 + tw_DN m) (-gr)) (1320 + tw_DN m) gr) (e9 : g9 = tw_ad (tw_ad gL (480 + 64 * tw_DN a + 16 + tw_DN m) (-gr)) (1352 + tw_DN m) gr) : tw_I9 B g9 := by
  have s := tw_S_vs I i r.1 (Or.inl rfl) eL
  have l := (tw_Q_use I s hB i r).mp l
  obtain ⟨b3, -⟩ := I.bd
  have c6 := I.c6
  obtain ⟨j, hj, rfl⟩ := i
  obtain ⟨k, hk, rfl⟩ := r.1.k
  obtain ⟨n, n1, n2, rfl⟩ := tw_gr1 r.2
  rw [tw_dn (j := j) (by omega), tw_dn (j := k) (by omega)] at eL e9 l
  rw [tw_dn (j := n) (by omega)] at l
  refine I.am2 (by omega) hk (Or.inl rfl) s eL e9 ?_
  have ac : 480 + 64 * j + 16 + k = tw_ac j k := by rw [tw_ac_v (by omega)]; omega
  have a11 : 1352 + k = tw_ac 11 k := by rw [tw_ac_s (by decide)]
  rw [e9, ac, a11]
  refine (I.am.sc s).tr (by omega) (by omega) (by decide) (by omega) hk ?_
  unfold tw_am
  rw [← ac]
  exact l
theorem tw_Q_change {B : Nat} {g gL : tw_G} {a m gr : Int32} (I : tw_I9 B g) (s : tw_sc g gL) (hB : B ≤ 59000000) (i : tw_ix (g.2 7) a) (r : tw_RG1 m gr) : tw_LC g (tw_DN a) (tw_DN m) (tw_DN gr) ↔ tw_MC gL (tw_DN a) (tw_DN m) (tw_DN gr) := by
  obtain ⟨b3, b4, -⟩ := I.bd
  have c7 := I.c7
  obtain ⟨j, hj, rfl⟩ := i
  obtain ⟨k, hk, rfl⟩ := r.1.k
  obtain ⟨n, n1, n2, rfl⟩ := tw_gr1 r.2
  rw [tw_dn (j := j) (by omega), tw_dn (j := k) (by omega), tw_dn (j := n) (by omega)]
  unfold tw_LC tw_MC
  have e1 : gL.1 (960 + 32 * j + 1) = g.1 (768 + 32 * j + 1) := by rw [s _ (by omega), I.pe (by omega) (by decide)]
  rw [e1]
  by_cases np : g.1 (768 + 32 * j + 1) = -1
  · exact ⟨fun z => absurd np z.1, fun z => absurd np z.1⟩
  · have hp := I.pl (by omega) np
    obtain ⟨f1, f2, f3, f4⟩ := I.rt s hp
    obtain ⟨p1, p2⟩ := I.ep2 (j := j) (k := k) (by omega) hk
    obtain ⟨v1, v2⟩ := I.ev2 (j := tw_cP g j) (k := 1 - k) (by omega) (by omega)
    have cb := I.cgb (a := j) (k := k) (n := n) hp
    rw [I.mP s (by omega), I.mg s (by omega) hp, f3 k hk, s _ (by omega), s _ (by omega), tw_nle2 p1 (by omega) (by omega), tw_nle2 v1 (by omega) (by omega)]
theorem tw_V_change {B : Nat} {g gL : tw_G} {a m gr : Int32} (I : tw_I9 B g) (s : tw_sc g gL) (i : tw_ix (g.2 7) a) (l : tw_LC g (tw_DN a) (tw_DN m) (tw_DN gr)) : nI (tw_cg g (tw_DN a) (tw_DN m) (tw_DN gr)) = nI (tw_mg gL (tw_DN a) (tw_DN m) (tw_DN gr)) := by
  obtain ⟨b3, b4, -⟩ := I.bd
  have c7 := I.c7
  obtain ⟨j, hj, rfl⟩ := i
  rw [tw_dn (j := j) (by omega)] at l ⊢
  rw [I.mg s (by omega) (I.pl (by omega) l.1)]
theorem tw_S_change {B : Nat} {g gL : tw_G} {a m gr : Int32} (I : tw_I9 B g) (i : tw_ix (g.2 7) a) (r : tw_RG1 m gr) (l : tw_LC g (tw_DN a) (tw_DN m) (tw_DN gr)) (eL : gL = tw_ad (tw_ad (tw_ad (tw_ad g (768 + 32 * tw_DN a + 8 + tw_DN m) (-gr)) (160 + 64 * tw_cP g (tw_DN a) + 24 + tw_DN m) gr) (160 + 64 * tw_cP g (tw_DN a) + 24 + (1 - tw_DN m)) (-nI (tw_cg g (tw_DN a) (tw_DN m) (tw_DN gr)))) (768 + 32 * tw_DN a + 8 + (1 - tw_DN m)) (nI (tw_cg g (tw_DN a) (tw_DN m) (tw_DN gr)))) : tw_sc g gL := fun b h => by
  obtain ⟨b3, b4, -⟩ := I.bd
  have c7 := I.c7
  obtain ⟨j, hj, rfl⟩ := i
  obtain ⟨k, hk, rfl⟩ := r.1.k
  rw [tw_dn (j := j) (by omega), tw_dn (j := k) (by omega)] at eL
  rw [tw_dn (j := j) (by omega)] at l
  have hp := I.pl (by omega) l.1
  rw [eL, tw_ad_ne (by omega), tw_ad_ne (by omega), tw_ad_ne (by omega), tw_ad_ne (by omega)]
theorem tw_I9.change {B : Nat} {g gL g9 : tw_G} {a m gr : Int32} (I : tw_I9 B g) (hB : B ≤ 59000000) (i : tw_ix (g.2 7) a) (r : tw_RG1 m gr) (l : tw_LC g (tw_DN a) (tw_DN m) (tw_DN gr)) (eL : gL = tw_ad (tw_ad (tw_ad (tw_ad g (768 + 32 * tw_DN a + 8 + tw_DN m) (-gr)) (160 + 64 * tw_cP g (tw_DN a) + 24 + tw_DN m) gr) (160 + 64 * tw_cP g (tw_DN a) + 24 + (1 - tw_DN m)) (-nI (tw_cg g (tw_DN a) (tw_DN m) (tw_DN gr)))) (768 + 32 * tw_DN a + 8 + (1 - tw_DN m)) (nI (tw_cg g (tw_DN a) (tw_DN m) (tw_DN gr)))) (e9 : g9 = tw_ad (tw_ad (tw_ad (tw_ad gL (960 + 32 * tw_DN a + 8 + tw_DN m) (-gr)) (480 + 64 * tw_mP gL (tw_DN a) + 16 + tw_DN m) gr) (480 + 64 * tw_mP gL (tw_DN a) + 16 + (1 - tw_DN m)) (-nI (tw_mg gL (tw_DN a) (tw_DN m) (tw_DN gr)))) (960 + 32 * tw_DN a + 8 + (1 - tw_DN m)) (nI (tw_mg gL (tw_DN a) (tw_DN m) (tw_DN gr)))) : tw_I9 B g9 := by
  have s := tw_S_change I i r l eL
  obtain ⟨b3, b4, b5, b22⟩ := I.bd
  have c7 := I.c7
  obtain ⟨j, hj, rfl⟩ := i
  obtain ⟨k, hk, rfl⟩ := r.1.k
  obtain ⟨n, n1, n2, rfl⟩ := tw_gr1 r.2
  rw [tw_dn (j := j) (by omega), tw_dn (j := k) (by omega), tw_dn (j := n) (by omega)] at eL e9 l
  have hp := I.pl (by omega) l.1
  have cb := I.cgb (a := j) (k := k) (n := n) hp
  rw [I.mP s (by omega), I.mg s (by omega) hp] at e9
  obtain ⟨-, l1, -, l3⟩ := l
  obtain ⟨p1, p2⟩ := I.ep2 (j := j) (k := k) (by omega) hk
  obtain ⟨v1, v2⟩ := I.ev2 (j := tw_cP g j) (k := 1 - k) (by omega) (by omega)
  rw [tw_nle2 p1 (by omega) (by omega)] at l1
  rw [tw_nle2 v1 (by omega) (by omega)] at l3
  obtain ⟨p, ep⟩ : ∃ p, p = tw_cP g j := ⟨_, rfl⟩
  obtain ⟨c, ec⟩ : ∃ c, c = tw_cg g j k n := ⟨_, rfl⟩
  rw [← ep, ← ec] at eL e9 l3
  rw [← ep] at hp
  obtain ⟨k2, ek2⟩ : ∃ z, z = 1 - k := ⟨_, rfl⟩
  rw [← ek2] at eL e9 l3
  have e : tw_E2 gL g9 := by
    have z := ((((s.e2 I.i5.1).ad (v := -nI n) (w := -nI n) (a := 768 + 32 * j + 8 + k) (b := 960 + 32 * j + 8 + k) (by unfold tw_pr; omega) rfl).ad (v := nI n) (w := nI n) (tw_pr.v (j := p) (k := k) (by omega) hk) rfl).ad (v := -nI c) (w := -nI c) (tw_pr.v (j := p) (k := k2) (by omega) (by omega)) rfl).ad (v := nI c) (w := nI c) (a := 768 + 32 * j + 8 + k2) (b := 960 + 32 * j + 8 + k2) (by unfold tw_pr; omega) rfl
    rw [← eL, ← e9] at z
    exact z
  have c2 : g9.2 = g.2 := by rw [e9, eL]; rfl
  have F : ∀ b, b ≠ 480 + 64 * p + 16 + k → b ≠ 480 + 64 * p + 16 + k2 → b ≠ 960 + 32 * j + 8 + k → b ≠ 960 + 32 * j + 8 + k2 → (416 ≤ b ∧ b < 736 ∨ 960 ≤ b ∧ b < 1152 ∨ 1232 ≤ b ∧ b < 1312 ∨ 1344 ≤ b ∧ b < 1376) → g9.1 b = g.1 b := fun b h1 h2 h3 h4 h => by
    rw [e9, tw_ad_ne h4, tw_ad_ne h2, tw_ad_ne h1, tw_ad_ne h3]
    exact s b h
  have a1 : 960 + 32 * j + 8 + k = tw_ac (4 + j) k := by rw [tw_ac_h (by omega) (by omega)]; omega
  have a2 : 480 + 64 * p + 16 + k = tw_ac p k := by rw [tw_ac_v (by omega)]; omega
  have a3 : 480 + 64 * p + 16 + k2 = tw_ac p k2 := by rw [tw_ac_v (by omega)]; omega
  have a4 : 960 + 32 * j + 8 + k2 = tw_ac (4 + j) k2 := by rw [tw_ac_h (by omega) (by omega)]; omega
  have am : tw_AM B g9 := by
    have A1 : tw_AM B (tw_ad (tw_ad gL (tw_ac (4 + j) k) (-nI n)) (tw_ac p k) (nI n)) := by
      refine (I.am.sc s).tr (by omega) (by omega) (by omega) (by omega) hk ?_
      unfold tw_am
      rw [← a1, s _ (by omega)]
      exact l1
    rw [e9, a1, a2, a3, a4]
    refine A1.tr (by omega) (by omega) (by omega) (by omega) (by omega) ?_
    unfold tw_am
    rw [← a1, ← a2, ← a3, tw_ad_ne (by omega), tw_ad_ne (by omega), s _ (by omega)]
    exact l3
  have z := I.i5.2.2.2.2.1
  have J : tw_I5 B g9 := I.i5.re e (fun a h => by have h := h.n; rw [e9, tw_ad_ne (by omega), tw_ad_ne (by omega), tw_ad_ne (by omega), tw_ad_ne (by omega)]) am c2 (I.i5.hsre c2 (fun i c hi hc => F _ (by omega) (by omega) (by omega) (by omega) (by omega))) (fun i c hi hc => F _ (by omega) (by omega) (by omega) (by omega) (by omega)) ⟨fun i l hi h hl => by rw [c2] at h; exact (F _ (by omega) (by omega) (by omega) (by omega) (by omega)).trans (z.1 i l hi h hl), fun i l hi h hl => by rw [c2] at h; exact (F _ (by omega) (by omega) (by omega) (by omega) (by omega)).trans (z.2 i l hi h hl)⟩ (fun i h1 h2 => F i (by omega) (by omega) (by omega) (by omega) (by omega))
  refine I.re5 (fun i h1 h2 => ?_) (fun i _ _ => by rw [c2]) (by rw [c2]; exact I.ct) J
  unfold tw_x5 at h2
  rw [e9, tw_ad_ne (by omega), tw_ad_ne (by omega), tw_ad_ne (by omega), tw_ad_ne (by omega), eL, tw_ad_ne (by omega), tw_ad_ne (by omega), tw_ad_ne (by omega), tw_ad_ne (by omega)]
theorem tw_Q_send {B : Nat} {g gL : tw_G} {a b : Int32} (I : tw_I9 B g) (s : tw_sc g gL) (i : tw_ix (g.2 7) a ∧ tw_ix (g.2 6) b) : tw_LS g (tw_DN a) b ↔ tw_MS gL (tw_DN a) b := by
  obtain ⟨b3, b4, -⟩ := I.bd
  have c7 := I.c7
  obtain ⟨⟨j, hj, rfl⟩, -⟩ := i
  rw [tw_dn (j := j) (by omega)]
  unfold tw_LS tw_MS
  rw [s _ (by omega), I.pe (by omega) (by decide)]
theorem tw_V_send {B : Nat} {g gL : tw_G} {a b : Int32} (I : tw_I9 B g) (s : tw_sc g gL) (c22 : gL.2 22 = g.2 22) (i : tw_ix (g.2 7) a ∧ tw_ix (g.2 6) b) (l : tw_LS g (tw_DN a) b) : tw_sD g (tw_DN a) (tw_DN b) = tw_mD gL (tw_DN a) (tw_DN b) := by
  obtain ⟨b3, b4, -⟩ := I.bd
  have c7 := I.c7
  have c6 := I.c6
  obtain ⟨⟨j, hj, rfl⟩, w, hw, rfl⟩ := i
  rw [tw_dn (j := j) (by omega)] at l ⊢
  rw [tw_dn (j := w) (by omega)]
  exact (I.mD s c22 (by omega) (by omega) (I.pl (by omega) l.1)).symm
theorem tw_S_send {B : Nat} {g gL : tw_G} {a b : Int32} (I : tw_I9 B g) (i : tw_ix (g.2 7) a ∧ tw_ix (g.2 6) b) (eL : gL = tw_g1 (tw_g1 (tw_g1 (tw_ad (tw_ad (tw_ad (tw_ad g (768 + 32 * tw_DN a + 8 + 0) (-nI (tw_fr g (tw_DN a) (tw_DN b) 0))) (1312 + 0) (nI (tw_fr g (tw_DN a) (tw_DN b) 0))) (768 + 32 * tw_DN a + 8 + 1) (-nI (tw_fr g (tw_DN a) (tw_DN b) 1))) (1312 + 1) (nI (tw_fr g (tw_DN a) (tw_DN b) 1))) (768 + 32 * tw_DN a + 1) (-1)) (768 + 32 * tw_DN a + 2) b) (768 + 32 * tw_DN a + 0) (tw_sD g (tw_DN a) (tw_DN b))) : tw_sc g gL := fun c h => by
  obtain ⟨b3, b4, -⟩ := I.bd
  have c7 := I.c7
  obtain ⟨⟨j, hj, rfl⟩, -⟩ := i
  rw [tw_dn (j := j) (by omega)] at eL
  rw [eL, tw_g1_ne (by omega), tw_g1_ne (by omega), tw_g1_ne (by omega), tw_ad_ne (by omega), tw_ad_ne (by omega), tw_ad_ne (by omega), tw_ad_ne (by omega)]
theorem tw_I9.send {B : Nat} {g gL g9 : tw_G} {a b : Int32} (I : tw_I9 B g) (hB : B ≤ 59000000) (i : tw_ix (g.2 7) a ∧ tw_ix (g.2 6) b) (l : tw_LS g (tw_DN a) b) (eL : gL = tw_g1 (tw_g1 (tw_g1 (tw_ad (tw_ad (tw_ad (tw_ad g (768 + 32 * tw_DN a + 8 + 0) (-nI (tw_fr g (tw_DN a) (tw_DN b) 0))) (1312 + 0) (nI (tw_fr g (tw_DN a) (tw_DN b) 0))) (768 + 32 * tw_DN a + 8 + 1) (-nI (tw_fr g (tw_DN a) (tw_DN b) 1))) (1312 + 1) (nI (tw_fr g (tw_DN a) (tw_DN b) 1))) (768 + 32 * tw_DN a + 1) (-1)) (768 + 32 * tw_DN a + 2) b) (768 + 32 * tw_DN a + 0) (tw_sD g (tw_DN a) (tw_DN b))) (e9 : g9 = tw_g1 (tw_g1 (tw_g1 (tw_ad (tw_ad (tw_ad (tw_ad gL (960 + 32 * tw_DN a + 8 + 0) (-nI (tw_mf gL (tw_DN a) (tw_DN b) 0))) (1344 + 0) (nI (tw_mf gL (tw_DN a) (tw_DN b) 0))) (960 + 32 * tw_DN a + 8 + 1) (-nI (tw_mf gL (tw_DN a) (tw_DN b) 1))) (1344 + 1) (nI (tw_mf gL (tw_DN a) (tw_DN b) 1))) (960 + 32 * tw_DN a + 1) (-1)) (960 + 32 * tw_DN a + 2) b) (960 + 32 * tw_DN a + 0) (tw_mD gL (tw_DN a) (tw_DN b))) : tw_I9 B g9 := by
  have s := tw_S_send I i eL
  obtain ⟨b3, b4, b5, b22⟩ := I.bd
  have c7 := I.c7
  have c6 := I.c6
  have c2L : gL.2 = g.2 := by rw [eL]; rfl
  obtain ⟨⟨j, hj, rfl⟩, w, hw, rfl⟩ := i
  rw [tw_dn (j := j) (by omega), tw_dn (j := w) (by omega)] at eL e9
  rw [tw_dn (j := j) (by omega)] at l
  have hp := I.pl (by omega) l.1
  rw [I.mD s (by rw [c2L]) (by omega) (by omega) hp, I.mf s (by omega) (by omega) (by decide) hp, I.mf s (by omega) (by omega) (by decide) hp] at e9
  have q0 := I.frb (a := j) (w := w) (k := 0) (by omega) (by omega) (by decide) hp
  have q1 := I.frb (a := j) (w := w) (k := 1) (by omega) (by omega) (by decide) hp
  obtain ⟨t, t1, t2, et⟩ := I.sD (a := j) (w := w) (by omega) hp
  rw [et] at eL e9
  obtain ⟨f0, e0⟩ : ∃ z, z = tw_fr g j w 0 := ⟨_, rfl⟩
  obtain ⟨f1, e1⟩ : ∃ z, z = tw_fr g j w 1 := ⟨_, rfl⟩
  rw [← e0, ← e1] at eL e9
  rw [← e0] at q0
  rw [← e1] at q1
  have e : tw_E2 gL g9 := by
    have z := (((((((s.e2 I.i5.1).ad (v := -nI f0) (w := -nI f0) (a := 768 + 32 * j + 8 + 0) (b := 960 + 32 * j + 8 + 0) (by unfold tw_pr; omega) rfl).ad (v := nI f0) (w := nI f0) (a := 1312 + 0) (b := 1344 + 0) (by unfold tw_pr; omega) rfl).ad (v := -nI f1) (w := -nI f1) (a := 768 + 32 * j + 8 + 1) (b := 960 + 32 * j + 8 + 1) (by unfold tw_pr; omega) rfl).ad (v := nI f1) (w := nI f1) (a := 1312 + 1) (b := 1344 + 1) (by unfold tw_pr; omega) rfl).g1 (v := -1) (w := -1) (tw_pr.h (j := j) (k := 1) (by omega) (by decide)) rfl).g1 (v := nI w) (w := nI w) (tw_pr.h (j := j) (k := 2) (by omega) (by decide)) rfl).g1 (v := nI t) (w := nI t) (tw_pr.h (j := j) (k := 0) (by omega) (by decide)) rfl
    rw [← eL, ← e9] at z
    exact z
  have c2 : g9.2 = g.2 := by rw [e9, eL]; rfl
  have a0 : 960 + 32 * j + 8 + 0 = tw_ac (4 + j) 0 := by rw [tw_ac_h (by omega) (by omega)]; omega
  have a1 : 960 + 32 * j + 8 + 1 = tw_ac (4 + j) 1 := by rw [tw_ac_h (by omega) (by omega)]; omega
  have s0 : 1344 + 0 = tw_ac 10 0 := by decide
  have s1 : 1344 + 1 = tw_ac 10 1 := by decide
  have am : tw_AM B g9 := by
    have A1 : tw_AM B (tw_ad (tw_ad gL (tw_ac (4 + j) 0) (-nI f0)) (tw_ac 10 0) (nI f0)) := by
      refine (I.am.sc s).tr (by omega) (by omega) (by decide) (by omega) (by decide) ?_
      unfold tw_am
      rw [← a0, s _ (by omega)]
      exact q0
    have A2 : tw_AM B (tw_ad (tw_ad (tw_ad (tw_ad gL (tw_ac (4 + j) 0) (-nI f0)) (tw_ac 10 0) (nI f0)) (tw_ac (4 + j) 1) (-nI f1)) (tw_ac 10 1) (nI f1)) := by
      refine A1.tr (by omega) (by omega) (by decide) (by omega) (by decide) ?_
      unfold tw_am
      rw [← a0, ← s0, ← a1, tw_ad_ne (by omega), tw_ad_ne (by omega), s _ (by omega)]
      exact q1
    refine A2.cg (fun i k hi hk => ?_)
    have x := tw_ac_c i k
    rw [e9, tw_g1_ne (by omega), tw_g1_ne (by omega), tw_g1_ne (by omega), a1, a0, s1, s0]
  have F : ∀ b, (b < 960 + 32 * j ∨ 960 + 32 * j + 10 ≤ b) → b ≠ 1344 → b ≠ 1345 → (416 ≤ b ∧ b < 736 ∨ 960 ≤ b ∧ b < 1152 ∨ 1232 ≤ b ∧ b < 1312 ∨ 1344 ≤ b ∧ b < 1376) → g9.1 b = g.1 b := fun b h1 h2 h3 h => by
    rw [e9, tw_g1_ne (by omega), tw_g1_ne (by omega), tw_g1_ne (by omega), tw_ad_ne (by omega), tw_ad_ne (by omega), tw_ad_ne (by omega), tw_ad_ne (by omega)]
    exact s b h
  have z := I.i5.2.2.2.2.1
  have hs : ∀ j2, j2 < g.2 4 → tw_hs g9 (g.2 22) j2 := fun j2 hj2 => by
    by_cases q : j2 = j
    · rw [q]
      refine Or.inr ⟨?_, ⟨w, by rw [c2]; omega, ?_⟩, t, t1, t2, ?_⟩
      · rw [e9, tw_g1_ne (by omega), tw_g1_ne (by omega), tw_g1_eq]
      · rw [e9, tw_g1_ne (by omega), tw_g1_eq]
      · rw [e9, tw_g1_eq]
    · exact (I.i5.2.2.1 j2 hj2).cg (fun c hc => F _ (by omega) (by omega) (by omega) (by omega)) (by rw [c2]; exact Nat.le_refl _)
  have J : tw_I5 B g9 := I.i5.re e (fun a h => by have h := h.n; rw [e9, tw_g1_ne (by omega), tw_g1_ne (by omega), tw_g1_ne (by omega), tw_ad_ne (by omega), tw_ad_ne (by omega), tw_ad_ne (by omega), tw_ad_ne (by omega)]) am c2 hs (fun i c hi hc => F _ (by omega) (by omega) (by omega) (by omega)) ⟨fun i l hi h hl => by rw [c2] at h; exact (F _ (by omega) (by omega) (by omega) (by omega)).trans (z.1 i l hi h hl), fun i l hi h hl => by rw [c2] at h; exact (F _ (by omega) (by omega) (by omega) (by omega)).trans (z.2 i l hi h hl)⟩ (fun i h1 h2 => F i (by omega) (by omega) (by omega) (by omega))
  refine I.re5 (fun i h1 h2 => ?_) (fun i _ _ => by rw [c2]) (by rw [c2]; exact I.ct) J
  unfold tw_x5 at h2
  rw [e9, tw_g1_ne (by omega), tw_g1_ne (by omega), tw_g1_ne (by omega), tw_ad_ne (by omega), tw_ad_ne (by omega), tw_ad_ne (by omega), tw_ad_ne (by omega), eL, tw_g1_ne (by omega), tw_g1_ne (by omega), tw_g1_ne (by omega), tw_ad_ne (by omega), tw_ad_ne (by omega), tw_ad_ne (by omega), tw_ad_ne (by omega)]
theorem tw_Q_settle {B : Nat} {g gL : tw_G} {a m : Int32} (I : tw_I9 B g) (s : tw_sc g gL) (hB : B ≤ 59000000) (c22 : gL.2 22 = g.2 22) (i : tw_ix (g.2 8) a) (r : tw_RM m) : tw_LT g (tw_DN a) (tw_DN m) ↔ tw_MT gL (tw_DN a) (tw_DN m) := by
  obtain ⟨b3, b4, b5, b22⟩ := I.bd
  have c8 := I.c8
  obtain ⟨j, hj, rfl⟩ := i
  obtain ⟨k, hk, rfl⟩ := r.k
  rw [tw_dn (j := j) (by omega), tw_dn (j := k) (by omega)]
  obtain ⟨x, y, hx, hy, nxy, d1, d2, d3, d4⟩ := I.deb (a := j) (by omega)
  obtain ⟨q1, q2⟩ := I.eFT s (a := j) (by omega)
  unfold tw_LT tw_MT
  rw [q1, q2, d1, d2, s (1232 + 8 * j + 2) (by omega), s (960 + 32 * x + 1) (by omega), s (960 + 32 * y + 1) (by omega), I.de (a := j) (c := 2) (by omega) (by decide), I.pe (a := x) (c := 1) (by omega) (by decide), I.pe (a := y) (c := 1) (by omega) (by decide)]
  by_cases np : g.1 (960 + 32 * x + 1) = -1
  · exact ⟨fun z => absurd np z.2.1, fun z => absurd np z.2.1⟩
  · have hp := I.pl hx (by rw [I.pe (by omega) (by decide)]; exact np)
    have hp2 : tw_cP g (tw_dF g j) < g.2 3 := by rw [d1]; exact hp
    have sb := I.sgb (a := j) (k := k) (by omega) (by omega) hp2
    obtain ⟨p1, p2⟩ := I.ep2 (j := x) (k := k) (by omega) hk
    rw [I.ms s c22 (by omega) (by omega) hp2, s (960 + 32 * x + 8 + k) (by omega), tw_nle2 p1 (by omega) (by omega)]
theorem tw_V_settle {B : Nat} {g gL : tw_G} {a m : Int32} (I : tw_I9 B g) (s : tw_sc g gL) (c22 : gL.2 22 = g.2 22) (i : tw_ix (g.2 8) a) (l : tw_LT g (tw_DN a) (tw_DN m)) : nI (tw_sg g (tw_DN a) (tw_DN m)) = nI (tw_ms gL (tw_DN a) (tw_DN m)) := by
  obtain ⟨b3, b4, b5, b22⟩ := I.bd
  have c8 := I.c8
  obtain ⟨j, hj, rfl⟩ := i
  rw [tw_dn (j := j) (by omega)] at l ⊢
  obtain ⟨x, y, hx, hy, nxy, d1, d2, d3, d4⟩ := I.deb (a := j) (by omega)
  rw [I.ms s c22 (by omega) (by omega) (I.pl (by omega) l.2.1)]
theorem tw_S_settle {B : Nat} {g gL : tw_G} {a m : Int32} (I : tw_I9 B g) (i : tw_ix (g.2 8) a) (r : tw_RM m) (eL : gL = tw_g1 (tw_ad (tw_ad g (768 + 32 * tw_dF g (tw_DN a) + 8 + tw_DN m) (-nI (tw_sg g (tw_DN a) (tw_DN m)))) (768 + 32 * tw_dT g (tw_DN a) + 8 + tw_DN m) (nI (tw_sg g (tw_DN a) (tw_DN m)))) (1152 + 8 * tw_DN a + 2) 1) : tw_sc g gL := fun b h => by
  obtain ⟨b3, b4, b5, b22⟩ := I.bd
  have c8 := I.c8
  obtain ⟨j, hj, rfl⟩ := i
  obtain ⟨k, hk, rfl⟩ := r.k
  obtain ⟨x, y, hx, hy, nxy, d1, d2, d3, d4⟩ := I.deb (a := j) (by omega)
  rw [tw_dn (j := j) (by omega), tw_dn (j := k) (by omega), d1, d2] at eL
  rw [eL, tw_g1_ne (by omega), tw_ad_ne (by omega), tw_ad_ne (by omega)]
theorem tw_I9.settle {B : Nat} {g gL g9 : tw_G} {a m : Int32} (I : tw_I9 B g) (hB : B ≤ 59000000) (i : tw_ix (g.2 8) a) (r : tw_RM m) (l : tw_LT g (tw_DN a) (tw_DN m)) (eL : gL = tw_g1 (tw_ad (tw_ad g (768 + 32 * tw_dF g (tw_DN a) + 8 + tw_DN m) (-nI (tw_sg g (tw_DN a) (tw_DN m)))) (768 + 32 * tw_dT g (tw_DN a) + 8 + tw_DN m) (nI (tw_sg g (tw_DN a) (tw_DN m)))) (1152 + 8 * tw_DN a + 2) 1) (e9 : g9 = tw_g1 (tw_ad (tw_ad gL (960 + 32 * tw_eF gL (tw_DN a) + 8 + tw_DN m) (-nI (tw_ms gL (tw_DN a) (tw_DN m)))) (960 + 32 * tw_eT gL (tw_DN a) + 8 + tw_DN m) (nI (tw_ms gL (tw_DN a) (tw_DN m)))) (1232 + 8 * tw_DN a + 2) 1) : tw_I9 B g9 := by
  have s := tw_S_settle I i r eL
  obtain ⟨b3, b4, b5, b22⟩ := I.bd
  have c8 := I.c8
  have c2L : gL.2 = g.2 := by rw [eL]; rfl
  obtain ⟨j, hj, rfl⟩ := i
  obtain ⟨k, hk, rfl⟩ := r.k
  rw [tw_dn (j := j) (by omega), tw_dn (j := k) (by omega)] at eL e9 l
  obtain ⟨x, y, hx, hy, nxy, d1, d2, d3, d4⟩ := I.deb (a := j) (by omega)
  obtain ⟨q1, q2⟩ := I.eFT s (a := j) (by omega)
  obtain ⟨-, l1, -, l3⟩ := l
  have hp2 := I.pl (a := tw_dF g j) (by omega) l1
  have sb := I.sgb (a := j) (k := k) (by omega) (by omega) hp2
  rw [I.ms s (by rw [c2L]) (by omega) (by omega) hp2, q1, q2, d1, d2] at e9
  rw [d1, d2] at eL
  rw [d1] at l3
  obtain ⟨p1, p2⟩ := I.ep2 (j := x) (k := k) (by omega) hk
  rw [tw_nle2 p1 (by omega) (by omega)] at l3
  obtain ⟨c, ec⟩ : ∃ c, c = tw_sg g j k := ⟨_, rfl⟩
  rw [← ec] at eL e9 l3
  have e : tw_E2 gL g9 := by
    have z := (((s.e2 I.i5.1).ad (v := -nI c) (w := -nI c) (a := 768 + 32 * x + 8 + k) (b := 960 + 32 * x + 8 + k) (by unfold tw_pr; omega) rfl).ad (v := nI c) (w := nI c) (a := 768 + 32 * y + 8 + k) (b := 960 + 32 * y + 8 + k) (by unfold tw_pr; omega) rfl).g1 (v := 1) (w := 1) (tw_pr.d (j := j) (k := 2) (by omega) (by decide)) rfl
    rw [← eL, ← e9] at z
    exact z
  have c2 : g9.2 = g.2 := by rw [e9, eL]; rfl
  have a1 : 960 + 32 * x + 8 + k = tw_ac (4 + x) k := by rw [tw_ac_h (by omega) (by omega)]; omega
  have a2 : 960 + 32 * y + 8 + k = tw_ac (4 + y) k := by rw [tw_ac_h (by omega) (by omega)]; omega
  have am : tw_AM B g9 := by
    have A1 : tw_AM B (tw_ad (tw_ad gL (tw_ac (4 + x) k) (-nI c)) (tw_ac (4 + y) k) (nI c)) := by
      refine (I.am.sc s).tr (by omega) (by omega) (by omega) (by omega) hk ?_
      unfold tw_am
      rw [← a1, s _ (by omega)]
      exact l3
    refine A1.cg (fun i k2 hi hk2 => ?_)
    have z := tw_ac_c i k2
    rw [e9, tw_g1_ne (by omega), a1, a2]
  have F : ∀ b, b ≠ 960 + 32 * x + 8 + k → b ≠ 960 + 32 * y + 8 + k → b ≠ 1232 + 8 * j + 2 → (416 ≤ b ∧ b < 736 ∨ 960 ≤ b ∧ b < 1152 ∨ 1232 ≤ b ∧ b < 1312 ∨ 1344 ≤ b ∧ b < 1376) → g9.1 b = g.1 b := fun b h1 h2 h3 h => by
    rw [e9, tw_g1_ne h3, tw_ad_ne h2, tw_ad_ne h1]
    exact s b h
  have z := I.i5.2.2.2.2.1
  have J : tw_I5 B g9 := I.i5.re e (fun a h => by have h := h.n; rw [e9, tw_g1_ne (by omega), tw_ad_ne (by omega), tw_ad_ne (by omega)]) am c2 (I.i5.hsre c2 (fun i c hi hc => F _ (by omega) (by omega) (by omega) (by omega))) (fun i c hi hc => F _ (by omega) (by omega) (by omega) (by omega)) ⟨fun i l hi h hl => by rw [c2] at h; exact (F _ (by omega) (by omega) (by omega) (by omega)).trans (z.1 i l hi h hl), fun i l hi h hl => by rw [c2] at h; exact (F _ (by omega) (by omega) (by omega) (by omega)).trans (z.2 i l hi h hl)⟩ (fun i h1 h2 => F i (by omega) (by omega) (by omega) (by omega))
  refine I.re5 (fun i h1 h2 => ?_) (fun i _ _ => by rw [c2]) (by rw [c2]; exact I.ct) J
  unfold tw_x5 at h2
  rw [e9, tw_g1_ne (by omega), tw_ad_ne (by omega), tw_ad_ne (by omega), eL, tw_g1_ne (by omega), tw_ad_ne (by omega), tw_ad_ne (by omega)]
theorem tw_E2.h {g g' : tw_G} (e : tw_E2 g g') {j x p x2 p2 : Nat} {r gd sv : Int32} (hj : j < 6) : tw_E2 (tw_gH g (768 + 32 * j) x p r gd sv) (tw_gHM g' (960 + 32 * j) x2 p2 r gd sv) := fun a b q =>
  (((((e.g1 (v := sv) (w := sv) (tw_pr.h (k := 9) hj (by decide)) rfl).g1 (v := gd) (w := gd) (tw_pr.h (k := 8) hj (by decide)) rfl).g1 (v := -1) (w := -1) (tw_pr.h (k := 2) hj (by decide)) rfl).g1 (v := r) (w := r) (tw_pr.h (k := 1) hj (by decide)) rfl).g1 (v := -1) (w := -1) (tw_pr.h (k := 0) hj (by decide)) rfl) a b q
theorem tw_E2.d {g g' : tw_G} (e : tw_E2 g g') {j x x2 : Nat} {v dy f c : Int32} (hj : j < 10) : tw_E2 (tw_gD g (1152 + 8 * j) x v dy f c) (tw_gDM g' (1232 + 8 * j) x2 v dy f c) := fun a b q =>
  (((((e.g1 (v := c) (w := c) (tw_pr.d (k := 4) hj (by decide)) rfl).g1 (v := f) (w := f) (tw_pr.d (k := 3) hj (by decide)) rfl).g1 (v := 0) (w := 0) (tw_pr.d (k := 2) hj (by decide)) rfl).g1 (v := dy) (w := dy) (tw_pr.d (k := 1) hj (by decide)) rfl).g1 (v := v) (w := v) (tw_pr.d (k := 0) hj (by decide)) rfl) a b q
theorem tw_AM.up2 {B C : Nat} {g g9 : tw_G} {i : Nat} {u v : Int32} (h : tw_AM B g) (hC : B + 99999 ≤ C) (hC2 : C ≤ 60000000) (hi : i < 13) (hu : 0 ≤ u ∧ u ≤ 99999) (hv : 0 ≤ v ∧ v ≤ 99999) (z0 : g.1 (tw_ac i 0) = 0) (z1 : g.1 (tw_ac i 1) = 0) (e0 : g9.1 (tw_ac i 0) = u) (e1 : g9.1 (tw_ac i 1) = v) (f0 : g9.1 (tw_ac 13 0) = g.1 (tw_ac 13 0) + u) (f1 : g9.1 (tw_ac 13 1) = g.1 (tw_ac 13 1) + v) (n : ∀ a k, a < 13 → k < 2 → a ≠ i → g9.1 (tw_ac a k) = g.1 (tw_ac a k)) : tw_AM C g9 := by
  obtain ⟨m, -, hm, rfl⟩ := tw_I_rng (a := 0) (b := 99999) hu.1 hu.2 (by decide) (by decide)
  obtain ⟨w, -, hw, rfl⟩ := tw_I_rng (a := 0) (b := 99999) hv.1 hv.2 (by decide) (by decide)
  have b0 := (h.2 0 (by decide)).2
  have b1 := (h.2 1 (by decide)).2
  have A1 := (h.mono (C := C) (by omega)).upC (i := i) (k := 0) (n := m) (by omega) hC2 hi (by decide)
  have ne : ∀ a b k l, a < 14 → b < 14 → k < 2 → l < 2 → (a ≠ b ∨ k ≠ l) → tw_ac a k ≠ tw_ac b l := fun a b k l ha hb hk hl q z => by
    have y := tw_ac_i ha hb hk hl z
    omega
  have A2 := A1.upC (i := i) (k := 1) (n := w) (by
    unfold tw_am
    rw [tw_ad_ne (ne _ _ _ _ (by decide) (by decide) (by decide) (by decide) (by decide)), tw_ad_ne (ne _ _ _ _ (by decide) (by omega) (by decide) (by decide) (by omega))]
    unfold tw_am at b1
    omega) hC2 hi (by decide)
  refine A2.cg (fun a k ha hk => ?_)
  rcases (show k = 0 ∨ k = 1 by omega) with rfl | rfl
  · by_cases q : a = i
    · rw [q, e0, tw_ad_ne (ne _ _ _ _ (by omega) (by decide) (by decide) (by decide) (by omega)), tw_ad_ne (ne _ _ _ _ (by omega) (by omega) (by decide) (by decide) (by omega)), tw_ad_ne (ne _ _ _ _ (by omega) (by decide) (by decide) (by decide) (by omega)), tw_ad_eq, z0]
      exact (Int32.zero_add _).symm
    · by_cases q2 : a = 13
      · rw [q2, f0, tw_ad_ne (ne _ _ _ _ (by decide) (by decide) (by decide) (by decide) (by omega)), tw_ad_ne (ne _ _ _ _ (by decide) (by omega) (by decide) (by decide) (by omega)), tw_ad_eq, tw_ad_ne (ne _ _ _ _ (by decide) (by omega) (by decide) (by decide) (by omega))]
      · rw [n a 0 (by omega) (by decide) q, tw_ad_ne (ne _ _ _ _ ha (by decide) (by decide) (by decide) (by omega)), tw_ad_ne (ne _ _ _ _ ha (by omega) (by decide) (by decide) (by omega)), tw_ad_ne (ne _ _ _ _ ha (by decide) (by decide) (by decide) (by omega)), tw_ad_ne (ne _ _ _ _ ha (by omega) (by decide) (by decide) (by omega))]
  · by_cases q : a = i
    · rw [q, e1, tw_ad_ne (ne _ _ _ _ (by omega) (by decide) (by decide) (by decide) (by omega)), tw_ad_eq, tw_ad_ne (ne _ _ _ _ (by omega) (by decide) (by decide) (by decide) (by omega)), tw_ad_ne (ne _ _ _ _ (by omega) (by omega) (by decide) (by decide) (by omega)), z1]
      exact (Int32.zero_add _).symm
    · by_cases q2 : a = 13
      · rw [q2, f1, tw_ad_eq, tw_ad_ne (ne _ _ _ _ (by decide) (by omega) (by decide) (by decide) (by omega)), tw_ad_ne (ne _ _ _ _ (by decide) (by decide) (by decide) (by decide) (by omega)), tw_ad_ne (ne _ _ _ _ (by decide) (by omega) (by decide) (by decide) (by omega))]
      · rw [n a 1 (by omega) (by decide) q, tw_ad_ne (ne _ _ _ _ ha (by decide) (by decide) (by decide) (by omega)), tw_ad_ne (ne _ _ _ _ ha (by omega) (by decide) (by decide) (by omega)), tw_ad_ne (ne _ _ _ _ ha (by decide) (by decide) (by decide) (by omega)), tw_ad_ne (ne _ _ _ _ ha (by omega) (by decide) (by decide) (by omega))]
theorem tw_gHI_2 {g : tw_G} {n y p i : Nat} {r u v go si : Int32} (h1 : i ≠ 1) (h7 : i ≠ 7) (h0 : i ≠ 130) (hi : i < 768) : (tw_ad (tw_ad (tw_gI (tw_gH g (768 + 32 * n) y p r u v) 7 1) (1336 + 0) go) (1336 + 1) si).2 i = g.2 i := by
  show (if i = 1 then _ else if i = 7 then _ else _) = _
  rw [if_neg h1, if_neg h7]
  exact tw_gH_2 h0 (by omega) (by omega)
theorem tw_gHI_7 {g : tw_G} {n y p : Nat} {r u v go si : Int32} : (tw_ad (tw_ad (tw_gI (tw_gH g (768 + 32 * n) y p r u v) 7 1) (1336 + 0) go) (1336 + 1) si).2 7 = g.2 7 + 1 ∧ (tw_ad (tw_ad (tw_gI (tw_gH g (768 + 32 * n) y p r u v) 7 1) (1336 + 0) go) (1336 + 1) si).2 1 = g.2 1 + 1 ∧ (tw_ad (tw_ad (tw_gI (tw_gH g (768 + 32 * n) y p r u v) 7 1) (1336 + 0) go) (1336 + 1) si).2 130 = 768 + 32 * n + 32 := by
  refine ⟨?_, ?_, rfl⟩
  · show (tw_gH g (768 + 32 * n) y p r u v).2 7 + 1 = _
    rw [tw_gH_2 (by decide) (by omega) (by omega)]
  · show (tw_gH g (768 + 32 * n) y p r u v).2 1 + 1 = _
    rw [tw_gH_2 (by decide) (by omega) (by omega)]
theorem tw_S_house {g gL : tw_G} {n y p : Nat} {r u v go si : Int32} (hn : n < 6) (eL : gL = tw_ad (tw_ad (tw_gI (tw_gH g (768 + 32 * n) y p r u v) 7 1) (1336 + 0) go) (1336 + 1) si) : tw_sc g gL := fun b h => by
  rw [eL, tw_ad_ne (by omega), tw_ad_ne (by omega)]
  show (tw_gH g (768 + 32 * n) y p r u v).1 b = _
  exact tw_gH_1 (by omega)
theorem tw_I9.house {B C : Nat} {g gL g9 : tw_G} {a go si : Int32} {y p : Nat} (I : tw_I9 B g) (hC : B + 99999 ≤ C) (hC2 : C ≤ 60000000) (i : tw_ix (g.2 6) a) (r : tw_RH go si) (l : g.2 1 < 6) (eL : gL = tw_ad (tw_ad (tw_gI (tw_gH g (768 + 32 * g.2 7) y p a go si) 7 1) (1336 + 0) go) (1336 + 1) si) (gk : ∃ y9 p9, tw_gk 4 (tw_gHM (tw_ad (tw_ad gL (1368 + 0) go) (1368 + 1) si) (960 + 32 * gL.2 4) y9 p9 a go si) g9) : tw_I9 C g9 := by
  obtain ⟨b3, b4, b5, b22⟩ := I.bd
  obtain ⟨r0, r1, r2, r3⟩ := I.fr
  have c6 := I.c6
  have c7 := I.c7
  have c8 := I.c8
  have ct := I.ct
  have c14 := I.2.1
  have L : ∀ i, i ≠ 1 → i ≠ 7 → i ≠ 130 → i < 768 → gL.2 i = g.2 i := by rw [eL]; exact fun i h1 h7 h0 hi => tw_gHI_2 h1 h7 h0 hi
  obtain ⟨k7, k1, k130⟩ : gL.2 7 = g.2 7 + 1 ∧ gL.2 1 = g.2 1 + 1 ∧ gL.2 130 = 768 + 32 * g.2 7 + 32 := by rw [eL]; exact tw_gHI_7
  obtain ⟨n, en⟩ : ∃ n, n = g.2 4 := ⟨_, rfl⟩
  have s : tw_sc g gL := tw_S_house (by omega) eL
  obtain ⟨y9, p9, -, a1, a2, a3⟩ := gk
  rw [L 4 (by decide) (by decide) (by decide) (by decide), ← en] at a1 a2 a3
  rw [c7, ← en] at eL k130
  have N : ∀ i, i ≠ 131 → i < 768 → (tw_gHM (tw_ad (tw_ad gL (1368 + 0) go) (1368 + 1) si) (960 + 32 * n) y9 p9 a go si).2 i = gL.2 i := fun i h h2 => tw_gHM_2 h (by omega) (by omega)
  have n4 : g9.2 4 = n + 1 := by rw [a1, N 4 (by decide) (by decide), L 4 (by decide) (by decide) (by decide) (by decide), en]
  have n131 : g9.2 131 = 960 + 32 * n + 32 := by rw [a2 131 (by decide) (by decide)]; rfl
  have P : ∀ i, i ≠ 4 → i ≠ 131 → (i < 10 ∨ i = 21 ∨ i = 22 ∨ i = 24 ∨ 130 ≤ i ∧ i < 134) → g9.2 i = gL.2 i := fun i h3 h9 h => by rw [a2 i (by omega) h3, N i h9 (by omega)]
  have Q : ∀ i, i ≠ 1 → i ≠ 4 → i ≠ 7 → i ≠ 130 → i ≠ 131 → (i < 10 ∨ i = 21 ∨ i = 22 ∨ i = 24 ∨ 130 ≤ i ∧ i < 134) → g9.2 i = g.2 i := fun i h1 h4 h7 h130 h131 h => by rw [P i h4 h131 h, L i h1 h7 h130 (by omega)]
  have q0 := Q 0 (by decide) (by decide) (by decide) (by decide) (by decide) (by decide)
  have q2 := Q 2 (by decide) (by decide) (by decide) (by decide) (by decide) (by decide)
  have q3 := Q 3 (by decide) (by decide) (by decide) (by decide) (by decide) (by decide)
  have q5 := Q 5 (by decide) (by decide) (by decide) (by decide) (by decide) (by decide)
  have q6 := Q 6 (by decide) (by decide) (by decide) (by decide) (by decide) (by decide)
  have q8 := Q 8 (by decide) (by decide) (by decide) (by decide) (by decide) (by decide)
  have q9 := Q 9 (by decide) (by decide) (by decide) (by decide) (by decide) (by decide)
  have q21 := Q 21 (by decide) (by decide) (by decide) (by decide) (by decide) (by decide)
  have q22 := Q 22 (by decide) (by decide) (by decide) (by decide) (by decide) (by decide)
  have q24 := Q 24 (by decide) (by decide) (by decide) (by decide) (by decide) (by decide)
  have q132 := Q 132 (by decide) (by decide) (by decide) (by decide) (by decide) (by decide)
  have q133 := Q 133 (by decide) (by decide) (by decide) (by decide) (by decide) (by decide)
  have p1 := P 1 (by decide) (by decide) (by decide)
  have p7 := P 7 (by decide) (by decide) (by decide)
  have p130 := P 130 (by decide) (by decide) (by decide)
  have W := tw_gHM_v (g := tw_ad (tw_ad gL (1368 + 0) go) (1368 + 1) si) (b := 960 + 32 * n) (x := y9) (p := p9) (r := a) (gd := go) (sv := si)
  -- the cells
  have F1 : ∀ i, 128 ≤ i → (i < 960 + 32 * n ∨ 960 + 32 * n + 10 ≤ i) → i ≠ 1368 → i ≠ 1369 → g9.1 i = gL.1 i := fun i h1 h2 h3 h4 => by
    rw [a3 i h1, tw_gHM_1 h2, tw_ad_ne (by omega), tw_ad_ne (by omega)]
  have F : ∀ i, 128 ≤ i → (i < 960 + 32 * n ∨ 960 + 32 * n + 10 ≤ i) → (i < 768 + 32 * n ∨ 768 + 32 * n + 10 ≤ i) → i ≠ 1368 → i ≠ 1369 → i ≠ 1336 → i ≠ 1337 → g9.1 i = g.1 i := fun i h1 h2 h3 h4 h5 h6 h7 => by
    rw [F1 i h1 h2 h4 h5, eL, tw_ad_ne (by omega), tw_ad_ne (by omega)]
    show (tw_gH g (768 + 32 * n) y p a go si).1 i = _
    exact tw_gH_1 h3
  have w0 : g9.1 (960 + 32 * n + 0) = -1 := by rw [a3 _ (by omega)]; exact W.1
  have w1 : g9.1 (960 + 32 * n + 1) = a := by rw [a3 _ (by omega)]; exact W.2.1
  have w2 : g9.1 (960 + 32 * n + 2) = -1 := by rw [a3 _ (by omega)]; exact W.2.2.1
  have w8 : g9.1 (960 + 32 * n + 8) = go := by rw [a3 _ (by omega)]; exact W.2.2.2.1
  have w9 : g9.1 (960 + 32 * n + 9) = si := by rw [a3 _ (by omega)]; exact W.2.2.2.2
  have m0 : g9.1 1368 = g.1 1368 + go := by
    rw [a3 _ (by omega), tw_gHM_1 (by omega), tw_ad_ne (by omega), show (1368 : Nat) = 1368 + 0 from rfl, tw_ad_eq, s _ (by omega)]
  have m1 : g9.1 1369 = g.1 1369 + si := by
    rw [a3 _ (by omega), tw_gHM_1 (by omega), show (1369 : Nat) = 1368 + 1 from rfl, tw_ad_eq, tw_ad_ne (by omega), s _ (by omega)]
  have v : tw_E2 gL g9 := by
    have z := (((s.e2 I.i5.1).h (j := n) (x := y) (p := p) (x2 := y9) (p2 := p9) (r := a) (gd := go) (sv := si) (by omega)).ad (v := go) (w := go) (a := 1336 + 0) (b := 1368 + 0) (by unfold tw_pr; omega) rfl).ad (v := si) (w := si) (a := 1336 + 1) (b := 1368 + 1) (by unfold tw_pr; omega) rfl
    refine z.cg (fun x h => by rw [eL]; rfl) (fun x h => ?_)
    have h := h.n
    by_cases q : x = 1369
    · rw [q, m1, show (1369 : Nat) = 1368 + 1 from rfl, tw_ad_eq, tw_ad_ne (by omega), tw_gHM_1 (by omega), s _ (by omega)]
    · by_cases q2 : x = 1368
      · rw [q2, m0, tw_ad_ne (by omega), show (1368 : Nat) = 1368 + 0 from rfl, tw_ad_eq, tw_gHM_1 (by omega), s _ (by omega)]
      · rw [tw_ad_ne (by omega), tw_ad_ne (by omega), a3 x (by omega)]
        by_cases q3 : x < 960 + 32 * n ∨ 960 + 32 * n + 10 ≤ x
        · rw [tw_gHM_1 q3, tw_gHM_1 q3, tw_ad_ne (by omega), tw_ad_ne (by omega)]
        · have z9 : (tw_ad (tw_ad gL (1368 + 0) go) (1368 + 1) si).1 x = gL.1 x := by rw [tw_ad_ne (by omega), tw_ad_ne (by omega)]
          unfold tw_gHM
          dsimp only
          rw [z9]
  have z := I.i5.2.2.2.2.1
  have h4 : n < 6 := by omega
  have c8 : ∀ k, k < 2 → 960 + 32 * n + 8 + k = tw_ac (4 + n) k := fun k hk => by rw [tw_ac_h (by omega) (by omega)]; omega
  have am : tw_AM C g9 := by
    refine I.am.up2 (i := 4 + n) hC hC2 (by omega) r.1 r.2 ?_ ?_ ?_ ?_ ?_ ?_ (fun b k hb hk hn => ?_)
    · rw [← c8 0 (by decide)]; exact z.2 n 0 h4 (by omega) (by decide)
    · rw [← c8 1 (by decide)]; exact z.2 n 1 h4 (by omega) (by decide)
    · rw [← c8 0 (by decide)]; exact w8
    · rw [← c8 1 (by decide)]; exact w9
    · exact m0
    · exact m1
    · have x := tw_ac_c b k
      exact F _ (by omega) (by omega) (by omega) (by omega) (by omega) (by omega) (by omega)
  have J : tw_I5 C g9 := by
    refine ⟨v.cg (fun x h => by unfold tw_cc at h; exact F1 x (by omega) (by omega) (by omega) (by omega)) (fun _ _ => rfl), am, fun j hj => ?_, fun j hj => ?_, ⟨fun j k hj h hk => ?_, fun j k hj h hk => ?_⟩, I.i5.2.2.2.2.2.1.cg (fun x h1 h2 => F x (by omega) (by omega) (by omega) (by omega) (by omega) (by omega) (by omega)), ⟨by omega, by omega, by omega, by omega⟩, by omega, by omega, by omega, by omega⟩
    · rw [n4] at hj
      rw [q22]
      by_cases q : j = n
      · rw [q]
        obtain ⟨w, hw, ew⟩ := i
        exact Or.inl ⟨⟨w, by omega, w1.trans ew⟩, w2, w0⟩
      · exact (I.i5.2.2.1 j (by omega)).cg (fun c hc => F _ (by omega) (by omega) (by omega) (by omega) (by omega) (by omega) (by omega)) (by rw [q3]; exact Nat.le_refl _)
    · rw [q5] at hj
      obtain ⟨d1, d2, x1, x2, h1, h2, h3⟩ := I.i5.2.2.2.1 j hj
      rw [F _ (by omega) (by omega) (by omega) (by omega) (by omega) (by omega) (by omega), F _ (by omega) (by omega) (by omega) (by omega) (by omega) (by omega) (by omega), F _ (by omega) (by omega) (by omega) (by omega) (by omega) (by omega) (by omega), F _ (by omega) (by omega) (by omega) (by omega) (by omega) (by omega) (by omega)]
      exact ⟨d1, d2, x1, x2, by omega, by omega, h3⟩
    · rw [q3] at h
      rw [F _ (by omega) (by omega) (by omega) (by omega) (by omega) (by omega) (by omega)]
      exact z.1 j k hj h hk
    · rw [n4] at h
      rw [F _ (by omega) (by omega) (by omega) (by omega) (by omega) (by omega) (by omega)]
      exact z.2 j k hj (by omega) hk
  obtain ⟨i1, i2, i3, i4, i5, i6, i7, i8, i9, eq, ev, et, -⟩ := I
  exact ⟨by omega, by omega, by omega, by omega, by omega, by omega, by omega, by omega, by omega, eq.of3 (fun x h1 h2 => F x (by omega) (by omega) (by omega) (by omega) (by omega) (by omega) (by omega)) (by omega) q3, ev.of (fun x h1 h2 => F x (by omega) (by omega) (by omega) (by omega) (by omega) (by omega) (by omega)) (fun j hj => ⟨F _ (by omega) (by omega) (by omega) (by omega) (by omega) (by omega) (by omega), F _ (by omega) (by omega) (by omega) (by omega) (by omega) (by omega) (by omega)⟩) q3, et.of (fun j hj k hk => ⟨F _ (by omega) (by omega) (by omega) (by omega) (by omega) (by omega) (by omega), F _ (by omega) (by omega) (by omega) (by omega) (by omega) (by omega) (by omega)⟩) q3, J⟩
theorem tw_gDI_2 {g : tw_G} {n y i : Nat} {v dy f c : Int32} (h1 : i ≠ 2) (h7 : i ≠ 8) (h0 : i ≠ 132) (hi : i < 1152) : (tw_gI (tw_gD g (1152 + 8 * n) y v dy f c) 8 2).2 i = g.2 i := by
  show (if i = 2 then _ else if i = 8 then _ else _) = _
  rw [if_neg h1, if_neg h7]
  exact tw_gD_2 h0 (by omega) (by omega)
theorem tw_gDI_7 {g : tw_G} {n y : Nat} {v dy f c : Int32} : (tw_gI (tw_gD g (1152 + 8 * n) y v dy f c) 8 2).2 8 = g.2 8 + 1 ∧ (tw_gI (tw_gD g (1152 + 8 * n) y v dy f c) 8 2).2 2 = g.2 2 + 1 ∧ (tw_gI (tw_gD g (1152 + 8 * n) y v dy f c) 8 2).2 132 = 1152 + 8 * n + 8 := by
  refine ⟨?_, ?_, rfl⟩
  · show (tw_gD g (1152 + 8 * n) y v dy f c).2 8 + 1 = _
    rw [tw_gD_2 (by decide) (by omega) (by omega)]
  · show (tw_gD g (1152 + 8 * n) y v dy f c).2 2 + 1 = _
    rw [tw_gD_2 (by decide) (by omega) (by omega)]
theorem tw_S_owe {g gL : tw_G} {n y : Nat} {v dy f c : Int32} (hn : n < 10) (eL : gL = tw_gI (tw_gD g (1152 + 8 * n) y v dy f c) 8 2) : tw_sc g gL := fun b h => by
  rw [eL]
  show (tw_gD g (1152 + 8 * n) y v dy f c).1 b = _
  exact tw_gD_1 (by omega)
theorem tw_I9.owe {B : Nat} {g gL g9 : tw_G} {a b v dy : Int32} {y : Nat} (I : tw_I9 B g) (i : tw_ix (g.2 7) a ∧ tw_ix (g.2 7) b) (r : tw_RO a b v dy) (l : g.2 2 < 10) (eL : gL = tw_gI (tw_gD g (1152 + 8 * g.2 8) y v (nI (g.2 21) + dy) a b) 8 2) (gk : ∃ y9, tw_gk 5 (tw_gDM gL (1232 + 8 * gL.2 5) y9 v (nI (gL.2 22) + dy) a b) g9) : tw_I9 B g9 := by
  obtain ⟨b3, b4, b5, b22⟩ := I.bd
  obtain ⟨r0, r1, r2, r3⟩ := I.fr
  have c6 := I.c6
  have c7 := I.c7
  have c8 := I.c8
  have ct := I.ct
  have c25 := I.2.2.1
  have L : ∀ i, i ≠ 2 → i ≠ 8 → i ≠ 132 → i < 1152 → gL.2 i = g.2 i := by rw [eL]; exact fun i h1 h7 h0 hi => tw_gDI_2 h1 h7 h0 hi
  obtain ⟨k7, k1, k130⟩ : gL.2 8 = g.2 8 + 1 ∧ gL.2 2 = g.2 2 + 1 ∧ gL.2 132 = 1152 + 8 * g.2 8 + 8 := by rw [eL]; exact tw_gDI_7
  obtain ⟨n, en⟩ : ∃ n, n = g.2 5 := ⟨_, rfl⟩
  have s : tw_sc g gL := tw_S_owe (by omega) eL
  obtain ⟨y9, -, a1, a2, a3⟩ := gk
  rw [L 5 (by decide) (by decide) (by decide) (by decide), L 22 (by decide) (by decide) (by decide) (by decide), ← en, ← ct] at a1 a2 a3
  rw [c8, ← en] at eL k130
  have N : ∀ i, i ≠ 133 → i < 1152 → (tw_gDM gL (1232 + 8 * n) y9 v (nI (g.2 21) + dy) a b).2 i = gL.2 i := fun i h h2 => tw_gDM_2 h (by omega) (by omega)
  have n5 : g9.2 5 = n + 1 := by rw [a1, N 5 (by decide) (by decide), L 5 (by decide) (by decide) (by decide) (by decide), en]
  have n133 : g9.2 133 = 1232 + 8 * n + 8 := by rw [a2 133 (by decide) (by decide)]; rfl
  have P : ∀ i, i ≠ 5 → i ≠ 133 → (i < 10 ∨ i = 21 ∨ i = 22 ∨ i = 24 ∨ 130 ≤ i ∧ i < 134) → g9.2 i = gL.2 i := fun i h3 h9 h => by rw [a2 i (by omega) h3, N i h9 (by omega)]
  have Q : ∀ i, i ≠ 2 → i ≠ 5 → i ≠ 8 → i ≠ 132 → i ≠ 133 → (i < 10 ∨ i = 21 ∨ i = 22 ∨ i = 24 ∨ 130 ≤ i ∧ i < 134) → g9.2 i = g.2 i := fun i h1 h4 h7 h130 h131 h => by rw [P i h4 h131 h, L i h1 h7 h130 (by omega)]
  have q0 := Q 0 (by decide) (by decide) (by decide) (by decide) (by decide) (by decide)
  have q1 := Q 1 (by decide) (by decide) (by decide) (by decide) (by decide) (by decide)
  have q3 := Q 3 (by decide) (by decide) (by decide) (by decide) (by decide) (by decide)
  have q4 := Q 4 (by decide) (by decide) (by decide) (by decide) (by decide) (by decide)
  have q6 := Q 6 (by decide) (by decide) (by decide) (by decide) (by decide) (by decide)
  have q7 := Q 7 (by decide) (by decide) (by decide) (by decide) (by decide) (by decide)
  have q9 := Q 9 (by decide) (by decide) (by decide) (by decide) (by decide) (by decide)
  have q21 := Q 21 (by decide) (by decide) (by decide) (by decide) (by decide) (by decide)
  have q22 := Q 22 (by decide) (by decide) (by decide) (by decide) (by decide) (by decide)
  have q24 := Q 24 (by decide) (by decide) (by decide) (by decide) (by decide) (by decide)
  have q130 := Q 130 (by decide) (by decide) (by decide) (by decide) (by decide) (by decide)
  have q131 := Q 131 (by decide) (by decide) (by decide) (by decide) (by decide) (by decide)
  have p2 := P 2 (by decide) (by decide) (by decide)
  have p8 := P 8 (by decide) (by decide) (by decide)
  have p132 := P 132 (by decide) (by decide) (by decide)
  have W := tw_gDM_v (g := gL) (b := 1232 + 8 * n) (x := y9) (v := v) (dy := nI (g.2 21) + dy) (f := a) (c := b)
  have F1 : ∀ i, 128 ≤ i → (i < 1232 + 8 * n ∨ 1232 + 8 * n + 8 ≤ i) → g9.1 i = gL.1 i := fun i h1 h2 => by rw [a3 i h1, tw_gDM_1 h2]
  have F : ∀ i, 128 ≤ i → (i < 1232 + 8 * n ∨ 1232 + 8 * n + 8 ≤ i) → (i < 1152 + 8 * n ∨ 1152 + 8 * n + 8 ≤ i) → g9.1 i = g.1 i := fun i h1 h2 h3 => by
    rw [F1 i h1 h2, eL]
    show (tw_gD g (1152 + 8 * n) y v (nI (g.2 21) + dy) a b).1 i = _
    exact tw_gD_1 h3
  have e : tw_E2 gL g9 := by
    have z := (s.e2 I.i5.1).d (j := n) (x := y) (x2 := y9) (v := v) (dy := nI (g.2 21) + dy) (f := a) (c := b) (by omega)
    exact z.cg (fun x h => by rw [eL]; rfl) (fun x h => by have h := h.n; exact a3 x (by omega))
  have z := I.i5.2.2.2.2.1
  have J : tw_I5 B g9 := by
    refine ⟨e.cg (fun x h => by unfold tw_cc at h; exact F1 x (by omega) (by omega)) (fun _ _ => rfl), I.am.cg (fun x k hx hk => by have y := tw_ac_c x k; exact F _ (by omega) (by omega) (by omega)), fun j hj => ?_, fun j hj => ?_, ⟨fun j k hj h hk => ?_, fun j k hj h hk => ?_⟩, I.i5.2.2.2.2.2.1.cg (fun x h1 h2 => F x (by omega) (by omega) (by omega)), ⟨by omega, by omega, by omega, by omega⟩, by omega, by omega, by omega, by omega⟩
    · rw [q4] at hj
      rw [q22]
      exact (I.i5.2.2.1 j hj).cg (fun c hc => F _ (by omega) (by omega) (by omega)) (by rw [q3]; exact Nat.le_refl _)
    · rw [n5] at hj
      by_cases q : j = n
      · rw [q, a3 _ (by omega), a3 _ (by omega), a3 _ (by omega), a3 _ (by omega), W.1, W.2.1, W.2.2.2.1, W.2.2.2.2]
        obtain ⟨⟨x1, h1, e1⟩, x2, h2, e2⟩ := i
        obtain ⟨o1, o2, o3⟩ := r
        obtain ⟨m, -, hm, rfl⟩ := tw_I_rng (a := 1) (b := 9999) o2.1 o2.2 (by decide) (by decide)
        obtain ⟨w, -, hw, rfl⟩ := tw_I_rng (a := 0) (b := 1000) o3.1 o3.2 (by decide) (by decide)
        exact ⟨⟨m, hm, rfl⟩, ⟨g.2 21 + w, by omega, tw_niadd⟩, x1, x2, by omega, by omega, fun z9 => o1 (by rw [e1, e2, z9]), e1, e2⟩
      · rw [F _ (by omega) (by omega) (by omega), F _ (by omega) (by omega) (by omega), F _ (by omega) (by omega) (by omega), F _ (by omega) (by omega) (by omega), q4]
        exact I.i5.2.2.2.1 j (by omega)
    · rw [q3] at h
      rw [F _ (by omega) (by omega) (by omega)]
      exact z.1 j k hj h hk
    · rw [q4] at h
      rw [F _ (by omega) (by omega) (by omega)]
      exact z.2 j k hj h hk
  obtain ⟨i1, i2, i3, i4, i5, i6, i7, i8, i9, eq, ev, et, -⟩ := I
  exact ⟨by omega, by omega, by omega, by omega, by omega, by omega, by omega, by omega, by omega, eq.of3 (fun x h1 h2 => F x (by omega) (by omega) (by omega)) (by omega) q3, ev.of (fun x h1 h2 => F x (by omega) (by omega) (by omega)) (fun j hj => ⟨F _ (by omega) (by omega) (by omega), F _ (by omega) (by omega) (by omega)⟩) q3, et.of (fun j hj k hk => ⟨F _ (by omega) (by omega) (by omega), F _ (by omega) (by omega) (by omega)⟩) q3, J⟩
theorem tw_S_pass {g gL : tw_G} {D : Nat} (h6 : g.2 6 ≤ 4) (h7 : g.2 7 ≤ 6) (eL : gL = tw_dsC g D) : tw_sc g gL := fun b h => by
  rw [eL]
  exact tw_dsC_1 g h6 h7 D b (by omega)
theorem tw_I9.pass {B D : Nat} {g gL g9 : tw_G} (I : tw_I9 B g) (hB : B ≤ 59000000) (hD : g.2 21 + D ≤ 3000) (eL : gL = tw_dsC g D) (e9 : g9 = tw_dsM gL D) : tw_I9 B g9 := by
  obtain ⟨b3, b4, b5, b22⟩ := I.bd
  have c6 := I.c6
  have c7 := I.c7
  have ct := I.ct
  have l2 : gL.2 = (tw_g2 g 21 (g.2 21 + D)).2 := by rw [eL]; exact tw_dsC_2 g D
  have l3 : gL.2 3 = g.2 3 := by rw [l2]; rfl
  have l4 : gL.2 4 = g.2 4 := by rw [l2]; rfl
  have l22 : gL.2 22 = g.2 22 := by rw [l2]; rfl
  have n2 : g9.2 = (tw_g2 gL 22 (gL.2 22 + D)).2 := by rw [e9]; exact tw_dsM_2 gL D
  have n2' : ∀ i, i ≠ 21 → i ≠ 22 → g9.2 i = g.2 i := fun i h1 h2 => by
    rw [n2]
    show (if i = 22 then _ else gL.2 i) = _
    rw [if_neg h2, l2]
    exact if_neg h1
  have n21 : g9.2 21 = g.2 21 + D := by
    rw [n2]
    show gL.2 21 = _
    rw [l2]
    rfl
  have n22 : g9.2 22 = g.2 22 + D := by
    rw [n2]
    show gL.2 22 + D = _
    rw [l22]
  have J := I.i5.pass (by omega) c6 c7 ct b3 b4 b5 (by omega) eL e9
  refine I.re5 (fun i h1 h2 => ?_) n2' (by omega) J
  unfold tw_x5 at h2
  rw [e9, tw_dsM_1 gL (by omega) (by omega) D i (by omega), eL]
  exact tw_dsC_1 g (by omega) (by omega) D i (by omega)
theorem tw_gCI5_2 {g : tw_G} {n y d f t m v i : Nat} {r c go si u w : Int32} (h0 : i ≠ 0) (h6 : i ≠ 6) (h24 : i ≠ 24) (hi : i < 160) : (tw_ad (tw_ad (tw_gI (tw_gC g (160 + 64 * n) y d f t m v r c go si) 6 0) (1336 + 0) u) (1336 + 1) w).2 i = g.2 i := tw_gCI_2 h0 h6 h24 hi
theorem tw_S_country {g gL : tw_G} {n y d f t m v : Nat} {r c go si u w : Int32} (hn : n < 4) (eL : gL = tw_ad (tw_ad (tw_gI (tw_gC g (160 + 64 * n) y d f t m v r c go si) 6 0) (1336 + 0) u) (1336 + 1) w) : tw_sc g gL := fun b h => by
  rw [eL, tw_ad_ne (by omega), tw_ad_ne (by omega)]
  show (tw_gC g (160 + 64 * n) y d f t m v r c go si).1 b = _
  exact tw_gC_1 (by omega)
theorem tw_I9.country {B K9 : Nat} {g gL g9 : tw_G} {y d f t m v9 : Nat} {r ct go si : Int32} (I : tw_I9 B g) (hR : (100 ≤ r ∧ r ≤ 200) ∧ 0 ≤ ct ∧ ct ≤ 50) (hG : (0 ≤ go ∧ go ≤ 99999) ∧ 0 ≤ si ∧ si ≤ 99999) (hC : B + 99999 ≤ K9) (hC2 : K9 ≤ 60000000) (hL : g.2 0 < 4) (a : ∃ y9 o9 t9 w8, tw_gk 3 (tw_gN (tw_ad (tw_ad gL (1368 + 0) go) (1368 + 1) si) (480 + 64 * gL.2 3) y9 o9 t9 w8 r ct go si) g9) (eL : gL = tw_ad (tw_ad (tw_gI (tw_gC g (160 + 64 * g.2 0) y d f t m v9 r ct go si) 6 0) (1336 + 0) go) (1336 + 1) si) : tw_I9 K9 g9 := by
  have I0 := I
  obtain ⟨y9, o9, t9, w8, a0, a1, a2, a3⟩ := a
  have e := I.eq
  have v := I.ev
  have w9 := I.et
  obtain ⟨i1, i2, i3, i4, i5, i6, i7, i8, i9, -⟩ := I
  have L : ∀ i, i ≠ 0 → i ≠ 6 → i ≠ 24 → i < 160 → gL.2 i = g.2 i := by rw [eL]; exact fun i h0 h6 h24 hi => tw_gCI5_2 h0 h6 h24 hi
  have l3 := L 3 (by decide) (by decide) (by decide) (by decide)
  have c0 : (tw_gC g (160 + 64 * g.2 0) y d f t m v9 r ct go si).2 0 = g.2 0 := tw_gC_2 (by decide) (by omega) (by omega)
  have c6 : (tw_gC g (160 + 64 * g.2 0) y d f t m v9 r ct go si).2 6 = g.2 6 := tw_gC_2 (by decide) (by omega) (by omega)
  have l0 : gL.2 0 = g.2 0 + 1 := by rw [eL]; show (tw_gC g (160 + 64 * g.2 0) y d f t m v9 r ct go si).2 0 + 1 = _; rw [c0]
  have l6 : gL.2 6 = g.2 6 + 1 := by rw [eL]; show (tw_gC g (160 + 64 * g.2 0) y d f t m v9 r ct go si).2 6 + 1 = _; rw [c6]
  have l24 : gL.2 24 = 160 + 64 * g.2 0 + 64 := by rw [eL]; rfl
  rw [l3] at a1 a2 a3
  have N : ∀ i, i ≠ 9 → i < 480 → (tw_gN (tw_ad (tw_ad gL (1368 + 0) go) (1368 + 1) si) (480 + 64 * g.2 3) y9 o9 t9 w8 r ct go si).2 i = gL.2 i := fun i h h2 => tw_gN_2 h (by omega) (by omega)
  have n3 : g9.2 3 = g.2 3 + 1 := by rw [a1, N 3 (by decide) (by decide), l3]
  have n9 : g9.2 9 = 480 + 64 * g.2 3 + 64 := by rw [a2 9 (by decide) (by decide)]; rfl
  have P : ∀ i, i ≠ 3 → i ≠ 9 → (i < 10 ∨ i = 21 ∨ i = 22 ∨ i = 24 ∨ 130 ≤ i ∧ i < 134) → g9.2 i = gL.2 i := fun i h3 h9 h => by rw [a2 i (by omega) h3, N i h9 (by omega)]
  have p0 := P 0 (by decide) (by decide) (by decide)
  have p1 := P 1 (by decide) (by decide) (by decide)
  have p2 := P 2 (by decide) (by decide) (by decide)
  have p4 := P 4 (by decide) (by decide) (by decide)
  have p5 := P 5 (by decide) (by decide) (by decide)
  have p6 := P 6 (by decide) (by decide) (by decide)
  have p7 := P 7 (by decide) (by decide) (by decide)
  have p8 := P 8 (by decide) (by decide) (by decide)
  have p21 := P 21 (by decide) (by decide) (by decide)
  have p22 := P 22 (by decide) (by decide) (by decide)
  have p24 := P 24 (by decide) (by decide) (by decide)
  rw [L 1 (by decide) (by decide) (by decide) (by decide)] at p1
  rw [L 2 (by decide) (by decide) (by decide) (by decide)] at p2
  rw [L 4 (by decide) (by decide) (by decide) (by decide)] at p4
  rw [L 5 (by decide) (by decide) (by decide) (by decide)] at p5
  rw [L 7 (by decide) (by decide) (by decide) (by decide)] at p7
  rw [L 8 (by decide) (by decide) (by decide) (by decide)] at p8
  rw [L 21 (by decide) (by decide) (by decide) (by decide)] at p21
  rw [L 22 (by decide) (by decide) (by decide) (by decide)] at p22
  have C : ∀ i, 128 ≤ i ∧ i < 1312 → (i < 160 + 64 * g.2 0 ∨ 160 + 64 * g.2 0 + 40 ≤ i) → (i < 480 + 64 * g.2 3 ∨ 480 + 64 * g.2 3 + 32 ≤ i) → g9.1 i = g.1 i := fun i h1 h2 h3 => by
    rw [a3 i h1.1, tw_gN_1 (by omega), tw_ad_ne (by omega), tw_ad_ne (by omega), eL, tw_ad_ne (by omega), tw_ad_ne (by omega)]
    show (tw_gC g (160 + 64 * g.2 0) y d f t m v9 r ct go si).1 i = _
    exact tw_gC_1 (by omega)
  have V := tw_gC_v (g := g) (b := 160 + 64 * g.2 0) (x := y) (rd := d) (rf := f) (t := t) (m := m) (v := v9) (r := r) (c := ct) (gd := go) (sv := si)
  have W := tw_gN_v (g := tw_ad (tw_ad gL (1368 + 0) go) (1368 + 1) si) (b := 480 + 64 * g.2 3) (x := y9) (o := o9) (t := t9) (v := w8) (r := r) (c := ct) (gd := go) (sv := si)
  have D : ∀ i, 128 ≤ i ∧ i < 1312 → (i < 480 + 64 * g.2 3 ∨ 480 + 64 * g.2 3 + 32 ≤ i) → g9.1 i = (tw_gC g (160 + 64 * g.2 0) y d f t m v9 r ct go si).1 i := fun i h1 h3 => by
    rw [a3 i h1.1, tw_gN_1 (by omega), tw_ad_ne (by omega), tw_ad_ne (by omega), eL, tw_ad_ne (by omega), tw_ad_ne (by omega)]
    rfl
  refine ⟨by omega, by omega, by omega, by omega, by omega, by omega, by omega, by omega, by omega, ⟨fun j hj => ⟨fun hl => ?_, fun hl k hk => ?_⟩, ?_, ?_, ?_⟩⟩
  · have ej := e j hj
    by_cases q : j = g.2 0
    · have q3 : j = g.2 3 := by omega
      rw [← q] at D V
      rw [← q3] at D W
      have E := ej.2 (by omega)
      refine ⟨?_, ?_, ?_, ?_, fun k hk => ⟨?_, ?_⟩⟩
      · rw [D _ (by omega) (by omega), a3 _ (by omega), ← q3, V.1, W.1]
      · rw [D _ (by omega) (by omega), a3 _ (by omega), ← q3, V.2.1, W.2.1]
      · rw [D _ (by omega) (by omega), a3 _ (by omega), ← q3, V.2.2.1]; exact (W.2.2 0 (by decide)).symm
      · rw [D _ (by omega) (by omega), a3 _ (by omega), ← q3, V.2.2.2.1]; exact (W.2.2 1 (by decide)).symm
      · rw [D _ (by omega) (by omega), C _ (by omega) (by omega) (by omega), V.2.2.2.2.1 k hk, (E k hk).1]
      · rw [D _ (by omega) (by omega), C _ (by omega) (by omega) (by omega), V.2.2.2.2.2 k hk, (E k hk).2]
    · obtain ⟨b1, b2, b3, b4, b5⟩ := ej.1 (by omega)
      refine ⟨?_, ?_, ?_, ?_, fun k hk => ⟨?_, ?_⟩⟩
      · rw [C _ (by omega) (by omega) (by omega), C (480 + 64 * j) (by omega) (by omega) (by omega)]; exact b1
      · rw [C _ (by omega) (by omega) (by omega), C (480 + 64 * j + 1) (by omega) (by omega) (by omega)]; exact b2
      · rw [C _ (by omega) (by omega) (by omega), C (480 + 64 * j + 8) (by omega) (by omega) (by omega)]; exact b3
      · rw [C _ (by omega) (by omega) (by omega), C (480 + 64 * j + 9) (by omega) (by omega) (by omega)]; exact b4
      · rw [C _ (by omega) (by omega) (by omega), C (416 + 8 * j + k) (by omega) (by omega) (by omega)]; exact (b5 k hk).1
      · rw [C _ (by omega) (by omega) (by omega), C (448 + 8 * j + k) (by omega) (by omega) (by omega)]; exact (b5 k hk).2
  · have E := (e j hj).2 (by omega) k hk
    rw [C _ (by omega) (by omega) (by omega), C _ (by omega) (by omega) (by omega)]
    exact E
  · refine ⟨fun j hj => ?_, fun a b ha hb => ?_⟩
    · by_cases q : j = g.2 3
      · rw [a3 _ (by omega), a3 _ (by omega), q, W.1, W.2.1]; exact hR
      · rw [C _ (by omega) (by omega) (by omega), C _ (by omega) (by omega) (by omega)]; exact v.1 j (by omega)
    · rw [C _ (by omega) (by omega) (by omega), C (448 + 8 * b + a) (by omega) (by omega) (by omega)]; exact v.2 a b ha hb
  · intro j hj k hk
    by_cases q : j = g.2 3
    · have z1 : g9.1 (160 + 64 * j + 32 + k) = 0 := by
        rw [D _ (by omega) (by omega), show 160 + 64 * j + 32 + k = 160 + 64 * g.2 0 + 32 + k by omega]
        exact tw_gC_v5 k hk
      have z2 : g9.1 (480 + 64 * j + 24 + k) = 0 := by
        rw [a3 _ (by omega), show 480 + 64 * j + 24 + k = 480 + 64 * g.2 3 + 24 + k by omega]
        exact tw_gN_v5 k hk
      rw [z1, z2]
      exact ⟨rfl, by decide, by decide⟩
    · rw [C _ (by omega) (by omega) (by omega), C (480 + 64 * j + 24 + k) (by omega) (by omega) (by omega)]
      exact w9 j (by omega) k hk
  · have s : tw_sc g gL := tw_S_country (n := g.2 0) (by omega) eL
    obtain ⟨f0, f1, f2, f3⟩ := I0.fr
    obtain ⟨b3, b4, b5, b22⟩ := I0.bd
    have c7 := I0.c7
    have c8 := I0.c8
    have cg := tw_gC_g (g := g) (b := 160 + 64 * g.2 0) (x := y) (rd := d) (rf := f) (t := t) (m := m) (v := v9) (r := r) (c := ct) (gd := go) (sv := si)
    have mg := tw_gN_g (g := tw_ad (tw_ad gL (1368 + 0) go) (1368 + 1) si) (b := 480 + 64 * g.2 3) (x := y9) (o := o9) (t := t9) (v := w8) (r := r) (c := ct) (gd := go) (sv := si)
    obtain ⟨n, en⟩ : ∃ n, n = g.2 3 := ⟨_, rfl⟩
    have en0 : g.2 0 = n := by omega
    rw [← en] at a3 mg C
    rw [en0] at eL cg C
    have w16 : g9.1 (480 + 64 * n + 16) = go := by rw [a3 _ (by omega)]; exact mg.1
    have w17 : g9.1 (480 + 64 * n + 17) = si := by rw [a3 _ (by omega)]; exact mg.2
    have m0 : g9.1 1368 = g.1 1368 + go := by
      rw [a3 _ (by omega), tw_gN_1 (by omega), tw_ad_ne (by omega), show (1368 : Nat) = 1368 + 0 from rfl, tw_ad_eq, s _ (by omega)]
    have m1 : g9.1 1369 = g.1 1369 + si := by
      rw [a3 _ (by omega), tw_gN_1 (by omega), show (1369 : Nat) = 1368 + 1 from rfl, tw_ad_eq, tw_ad_ne (by omega), s _ (by omega)]
    have l24 : gL.1 (160 + 64 * n + 24) = go := by
      rw [eL, tw_ad_ne (by omega), tw_ad_ne (by omega)]
      exact cg.1
    have l25 : gL.1 (160 + 64 * n + 25) = si := by
      rw [eL, tw_ad_ne (by omega), tw_ad_ne (by omega)]
      exact cg.2
    have F1 : ∀ i, 128 ≤ i → (i < 480 + 64 * n ∨ 480 + 64 * n + 32 ≤ i) → i ≠ 1368 → i ≠ 1369 → g9.1 i = gL.1 i := fun i h1 h2 h3 h4 => by
      rw [a3 i h1, tw_gN_1 h2, tw_ad_ne (by omega), tw_ad_ne (by omega)]
    have e5 : tw_E2 gL g9 := by
      have z := ((((s.e2 I0.i5.1).g1 (v := go) (w := go) (a := 160 + 64 * n + 24) (b := 480 + 64 * n + 16) (by unfold tw_pr; omega) rfl).g1 (v := si) (w := si) (a := 160 + 64 * n + 25) (b := 480 + 64 * n + 17) (by unfold tw_pr; omega) rfl).ad (v := go) (w := go) (a := 1336) (b := 1368) (by unfold tw_pr; omega) rfl).ad (v := si) (w := si) (a := 1337) (b := 1369) (by unfold tw_pr; omega) rfl
      refine z.cg (fun x h => ?_) (fun x h => ?_)
      · unfold tw_cc at h
        by_cases q1 : x = 160 + 64 * n + 24
        · rw [q1, l24, tw_ad_ne (by omega), tw_ad_ne (by omega), tw_g1_ne (by omega), tw_g1_eq]
        · by_cases q2 : x = 160 + 64 * n + 25
          · rw [q2, l25, tw_ad_ne (by omega), tw_ad_ne (by omega), tw_g1_eq]
          · by_cases q3 : x = 1336
            · rw [q3, tw_ad_ne (by omega), tw_ad_eq, tw_g1_ne (by omega), tw_g1_ne (by omega), eL, tw_ad_ne (by omega)]
              exact congrArg (fun v : Int32 => v + go) (show (tw_gC g (160 + 64 * n) y d f t m v9 r ct go si).1 1336 = g.1 1336 from tw_gC_1 (by omega))
            · by_cases q4 : x = 1337
              · rw [q4, tw_ad_eq, tw_ad_ne (by omega), tw_g1_ne (by omega), tw_g1_ne (by omega), eL]
                exact congrArg (fun v : Int32 => v + si) ((tw_ad_ne (by omega)).trans (show (tw_gC g (160 + 64 * n) y d f t m v9 r ct go si).1 1337 = g.1 1337 from tw_gC_1 (by omega)))
              · rw [tw_ad_ne q4, tw_ad_ne q3, tw_g1_ne q2, tw_g1_ne q1, eL, tw_ad_ne (by omega), tw_ad_ne (by omega)]
                show (tw_gC g (160 + 64 * n) y d f t m v9 r ct go si).1 x = _
                exact tw_gC_1 (by omega)
      · unfold tw_mc at h
        by_cases q1 : x = 480 + 64 * n + 16
        · rw [q1, w16, tw_ad_ne (by omega), tw_ad_ne (by omega), tw_g1_ne (by omega), tw_g1_eq]
        · by_cases q2 : x = 480 + 64 * n + 17
          · rw [q2, w17, tw_ad_ne (by omega), tw_ad_ne (by omega), tw_g1_eq]
          · by_cases q3 : x = 1368
            · rw [q3, m0, tw_ad_ne (by omega), tw_ad_eq, tw_g1_ne (by omega), tw_g1_ne (by omega), s _ (by omega)]
            · by_cases q4 : x = 1369
              · rw [q4, m1, tw_ad_eq, tw_ad_ne (by omega), tw_g1_ne (by omega), tw_g1_ne (by omega), s _ (by omega)]
              · rw [tw_ad_ne q4, tw_ad_ne q3, tw_g1_ne q2, tw_g1_ne q1]
                exact F1 x (by omega) (by omega) q3 q4
    have z := I0.i5.2.2.2.2.1
    have a1' : ∀ k, k < 2 → 480 + 64 * n + 16 + k = tw_ac n k := fun k hk => by rw [tw_ac_v (by omega)]; omega
    have am : tw_AM K9 g9 := by
      refine I0.am.up2 (i := n) hC hC2 (by omega) hG.1 hG.2 ?_ ?_ ?_ ?_ ?_ ?_ (fun b k hb hk hn => ?_)
      · rw [← a1' 0 (by decide)]; exact z.1 n 0 (by omega) (by omega) (by decide)
      · rw [← a1' 1 (by decide)]; exact z.1 n 1 (by omega) (by omega) (by decide)
      · rw [← a1' 0 (by decide)]; exact w16
      · rw [← a1' 1 (by decide)]; exact w17
      · exact m0
      · exact m1
      · have x := tw_ac_c b k
        rw [F1 _ (by omega) (by omega) (by omega) (by omega)]
        exact s _ (by omega)
    have p130 := P 130 (by decide) (by decide) (by decide)
    have p131 := P 131 (by decide) (by decide) (by decide)
    have p132 := P 132 (by decide) (by decide) (by decide)
    have p133 := P 133 (by decide) (by decide) (by decide)
    rw [L 130 (by decide) (by decide) (by decide) (by decide)] at p130
    rw [L 131 (by decide) (by decide) (by decide) (by decide)] at p131
    rw [L 132 (by decide) (by decide) (by decide) (by decide)] at p132
    rw [L 133 (by decide) (by decide) (by decide) (by decide)] at p133
    refine ⟨e5.cg (fun x h => by unfold tw_cc at h; exact F1 x (by omega) (by omega) (by omega) (by omega)) (fun _ _ => rfl), am, fun j hj => ?_, fun j hj => ?_, ⟨fun j k hj h hk => ?_, fun j k hj h hk => ?_⟩, I0.i5.2.2.2.2.2.1.cg (fun x h1 h2 => C x (by omega) (by omega) (by omega)), ⟨by omega, by omega, by omega, by omega⟩, by omega, by omega, by omega, by omega⟩
    · rw [p4] at hj
      rw [p22]
      exact (I0.i5.2.2.1 j hj).cg (fun c hc => C _ (by omega) (by omega) (by omega)) (by omega)
    · rw [p5] at hj
      rw [C _ (by omega) (by omega) (by omega), C _ (by omega) (by omega) (by omega), C _ (by omega) (by omega) (by omega), C _ (by omega) (by omega) (by omega), p4]
      exact I0.i5.2.2.2.1 j hj
    · rw [C _ (by omega) (by omega) (by omega)]
      exact z.1 j k hj (by omega) hk
    · rw [p4] at h
      rw [C _ (by omega) (by omega) (by omega)]
      exact z.2 j k hj h hk
theorem tw_I9.cv5 {B : Nat} {g : tw_G} (I : tw_I9 B g) (h : B ≤ 59000000) : tw_CV g := fun j hj k hk => by
  obtain ⟨b3, -⟩ := I.bd
  have c6 := I.c6
  have z := I.am.v (j := j) (k := k) (by omega) hk
  rw [I.i5.1 _ _ (tw_pr.v (j := j) (k := k) (by omega) hk)]
  exact ⟨z.1, Nat.le_trans z.2 h⟩
theorem tw_I9.wv {B : Nat} {g : tw_G} (I : tw_I9 B g) {k w : Nat} (hk : k < 2) (hw : w ≤ 5) : tw_wC g k w = nI (tw_wM g k w) := by
  obtain ⟨b3, b4, -⟩ := I.bd
  rcases (show w = 0 ∨ w = 1 ∨ ∃ s, s < 4 ∧ w = s + 2 by rcases (show w = 0 ∨ w = 1 ∨ 2 ≤ w by omega) with z | z | z; exact Or.inl z; exact Or.inr (Or.inl z); exact Or.inr (Or.inr ⟨w - 2, by omega, by omega⟩)) with rfl | rfl | ⟨s, hs, rfl⟩
  · show tw_isum (fun j => g.1 (160 + 64 * j + 24 + k)) (g.2 6) = nI (tw_sum (fun j => tw_DN (g.1 (480 + 64 * j + 16 + k))) (g.2 3))
    rw [I.c6]
    exact tw_isum_n _ (fun j hj => (I.ev2 (by omega) hk).1)
  · show tw_isum (fun j => g.1 (768 + 32 * j + 8 + k)) (g.2 7) = nI (tw_sum (fun j => tw_DN (g.1 (960 + 32 * j + 8 + k))) (g.2 4))
    rw [I.c7]
    exact tw_isum_n _ (fun j hj => (I.ep2 (by omega) hk).1)
  · show g.1 (1312 + 8 * s + k) = nI (tw_DN (g.1 (1344 + 8 * s + k)))
    exact (I.i5.1 _ _ (by unfold tw_pr; omega)).trans (I.am.s hs hk).1
theorem tw_V_world {B : Nat} {g : tw_G} {m wh : Int32} (I : tw_I9 B g) (r : tw_RW m wh) : tw_wC g (tw_DN m) (tw_DN wh) = nI (tw_wM g (tw_DN m) (tw_DN wh)) := by
  obtain ⟨k, hk, rfl⟩ := r.1.k
  obtain ⟨w, -, hw, rfl⟩ := tw_I_rng (a := 0) (b := 5) r.2.1 r.2.2 (by decide) (by decide)
  rw [tw_dn (j := k) (by omega), tw_dn (j := w) (by omega)]
  exact I.wv hk hw
theorem tw_V_last {B : Nat} {g : tw_G} {a m gr : Int32} (I : tw_I9 B g) (i : tw_ix (g.2 6) a) (r : tw_RG1 m gr) : tw_ld (g.2 21) (tw_DN m) (tw_DN gr) (3001 - g.2 21) (g.2 21) (tw_DN (g.1 (160 + 64 * tw_DN a + 24 + tw_DN m))) = tw_ld (g.2 22) (tw_DN m) (tw_DN gr) (3001 - g.2 22) (g.2 22) (tw_DN (g.1 (480 + 64 * tw_DN a + 16 + tw_DN m))) := by
  rw [I.ct, I.vv tw_sc.rf i r]
theorem tw_MK.nn {g : tw_G} (m : tw_MK g) : g.1 1 = nI (tw_DN (g.1 1)) ∧ tw_DN (g.1 1) ≤ 200 := by
  have z := tw_DNr (a := 100) (b := 200) m.2.1 m.2.2 (by decide) (by decide)
  exact ⟨z.2.2, z.2.1⟩
theorem tw_I9.cw5 {B : Nat} {g : tw_G} (I : tw_I9 B g) (m : tw_MK g) (h : B ≤ 59000000) : tw_CW g := by
  obtain ⟨b3, b4, -⟩ := I.bd
  have c7 := I.c7
  refine ⟨I.cv5 h, fun j hj k hk => ?_, by rw [m.1]; exact m.nn⟩
  have z := I.am.p (j := j) (k := k) (by omega) hk
  rw [I.i5.1 (768 + 32 * j + 8 + k) (960 + 32 * j + 8 + k) (by unfold tw_pr; omega)]
  exact ⟨z.1, Nat.le_trans z.2 h⟩
theorem tw_I9.cx5 {B : Nat} {g : tw_G} (I : tw_I9 B g) (m : tw_MK g) (h : B ≤ 59000000) : tw_CX g := ⟨I.ch5 h, by rw [m.1]; exact m.nn⟩
theorem tw_I9.hs5 {B : Nat} {g : tw_G} (I : tw_I9 B g) (i : Nat) (hi : i < g.2 4) (n : g.1 (960 + 32 * i + 1) ≠ -1) : tw_mP g i < g.2 3 := by
  obtain ⟨b3, b4, -⟩ := I.bd
  rw [I.mP tw_sc.rf (by omega)]
  exact I.pl hi (by rw [I.pe (by omega) (by decide)]; exact n)
theorem tw_V_ofHouse {B : Nat} {g : tw_G} {a wh : Int32} (I : tw_I9 B g) (m : tw_MK g) (i : tw_ix (g.2 7) a) (r : 0 ≤ wh ∧ wh ≤ 7) : tw_hC g (tw_DN a) (tw_DN wh) = tw_hM g (tw_DN a) (tw_DN wh) := by
  obtain ⟨b3, b4, b5, -⟩ := I.bd
  have c7 := I.c7
  obtain ⟨j, hj, rfl⟩ := i
  obtain ⟨w, -, hw, rfl⟩ := tw_I_rng (a := 0) (b := 7) r.1 r.2 (by decide) (by decide)
  rw [tw_dn (j := j) (by omega), tw_dn (j := w) (by omega)]
  have p0 : g.1 (768 + 32 * j + 8 + 0) = g.1 (960 + 32 * j + 8 + 0) := I.i5.1 _ _ (by unfold tw_pr; omega)
  have p1 : g.1 (768 + 32 * j + 8 + 1) = g.1 (960 + 32 * j + 8 + 1) := I.i5.1 _ _ (by unfold tw_pr; omega)
  rcases (show w = 0 ∨ w = 1 ∨ w = 2 ∨ w = 3 ∨ w = 4 ∨ w = 5 ∨ w = 6 ∨ w = 7 by omega) with rfl | rfl | rfl | rfl | rfl | rfl | rfl | rfl
  · exact I.pe (by omega) (by decide)
  · exact I.pe (by omega) (by decide)
  · exact I.pe (by omega) (by decide)
  · exact p0
  · exact p1
  · show tw_wo (g.1 (768 + 32 * j + 8 + 0)) (g.1 (768 + 32 * j + 8 + 1)) (g.1 0) = tw_wo (g.1 (960 + 32 * j + 8 + 0)) (g.1 (960 + 32 * j + 8 + 1)) (g.1 1)
    rw [p0, p1, m.1]
  · show tw_isum _ (g.2 8) = tw_isum _ (g.2 5)
    rw [I.c8]
    exact tw_isum_c _ (fun i hi => by rw [I.de (a := i) (c := 2) (by omega) (by decide), I.de (a := i) (c := 3) (by omega) (by decide)])
  · show tw_isum _ (g.2 8) = tw_isum _ (g.2 5)
    rw [I.c8]
    exact tw_isum_c _ (fun i hi => by rw [I.de (a := i) (c := 2) (by omega) (by decide), I.de (a := i) (c := 4) (by omega) (by decide)])
theorem tw_V_ofCountry {B : Nat} {g : tw_G} {a wh : Int32} (I : tw_I9 B g) (m : tw_MK g) (i : tw_ix (g.2 6) a) (r : 0 ≤ wh ∧ wh ≤ 8) : tw_oC g (tw_DN a) (tw_DN wh) = tw_oM g (tw_DN a) (tw_DN wh) := by
  obtain ⟨b3, b4, b5, -⟩ := I.bd
  have c6 := I.c6
  have c7 := I.c7
  obtain ⟨j, hj, rfl⟩ := i
  obtain ⟨w, -, hw, rfl⟩ := tw_I_rng (a := 0) (b := 8) r.1 r.2 (by decide) (by decide)
  rw [tw_dn (j := j) (by omega), tw_dn (j := w) (by omega)]
  obtain ⟨e1, e2, e3, e4, -⟩ := (I.eq j (by omega)).1 (by omega)
  have p0 : g.1 (160 + 64 * j + 24 + 0) = g.1 (480 + 64 * j + 16 + 0) := I.i5.1 _ _ (tw_pr.v (by omega) (by decide))
  have p1 : g.1 (160 + 64 * j + 24 + 1) = g.1 (480 + 64 * j + 16 + 1) := I.i5.1 _ _ (tw_pr.v (by omega) (by decide))
  rcases (show w = 0 ∨ w = 1 ∨ w = 2 ∨ w = 3 ∨ w = 4 ∨ w = 5 ∨ w = 6 ∨ w = 7 ∨ w = 8 by omega) with rfl | rfl | rfl | rfl | rfl | rfl | rfl | rfl | rfl
  · exact e1
  · exact e2
  · exact p0
  · exact p1
  · show tw_oS (g.1 (160 + 64 * j + 2)) (g.1 (160 + 64 * j + 3)) = tw_oS (g.1 (480 + 64 * j + 8 + 0)) (g.1 (480 + 64 * j + 8 + 1))
    rw [e3, e4]
  · show tw_isum _ (g.2 7) = tw_isum _ (g.2 4)
    rw [I.c7]
    exact tw_isum_c _ (fun i hi => by rw [I.pe (a := i) (c := 1) (by omega) (by decide)])
  · show tw_wo (g.1 (160 + 64 * j + 24 + 0)) (g.1 (160 + 64 * j + 24 + 1)) (g.1 0) = tw_wo (g.1 (480 + 64 * j + 16 + 0)) (g.1 (480 + 64 * j + 16 + 1)) (g.1 1)
    rw [p0, p1, m.1]
  · show tw_pn (fun k => g.1 (160 + 64 * j + 32 + k)) = tw_pn (fun k => g.1 (480 + 64 * j + 24 + k))
    unfold tw_pn
    dsimp only
    rw [(I.et j (by omega) 0 (by decide)).1, (I.et j (by omega) 1 (by decide)).1, (I.et j (by omega) 2 (by decide)).1, (I.et j (by omega) 3 (by decide)).1, (I.et j (by omega) 4 (by decide)).1]
  · show tw_isum _ (g.2 6) = tw_isum _ (g.2 3)
    rw [I.c6]
    exact tw_isum_c _ (fun i hi => by rw [((I.eq i (by omega)).1 hi).1, e1])
theorem tw_sum_z {f : Nat → Nat} {m : Nat} : ∀ n, m ≤ n → (∀ i, m ≤ i → i < n → f i = 0) → tw_sum f n = tw_sum f m
  | 0, h, _ => by rw [show m = 0 by omega]
  | n + 1, h, z => by
    by_cases q : m = n + 1
    · rw [q]
    · show tw_sum f n + f n = tw_sum f m
      rw [tw_sum_z n (by omega) (fun i h1 h2 => z i h1 (by omega)), z n (by omega) (by omega)]
      rfl
theorem tw_I9.kept {B : Nat} {g : tw_G} (I : tw_I9 B g) {k : Nat} (hk : k < 2) : tw_wM g k 0 + tw_wM g k 1 + tw_wM g k 2 + tw_wM g k 3 + tw_wM g k 4 = tw_wM g k 5 := by
  obtain ⟨b3, b4, -⟩ := I.bd
  obtain ⟨z3, z4⟩ := I.i5.2.2.2.2.1
  have s0 : tw_wM g k 0 = tw_sum (fun i => tw_am g i k) 4 := by
    show tw_sum (fun j => tw_DN (g.1 (480 + 64 * j + 16 + k))) (g.2 3) = _
    rw [← tw_sum_z (f := fun j => tw_DN (g.1 (480 + 64 * j + 16 + k))) (m := g.2 3) 4 b3 (fun i h1 h2 => by rw [z3 i k h2 h1 hk]; rfl)]
    exact tw_sum_c 4 (fun j hj => by unfold tw_am; rw [tw_ac_v (by omega), show 496 + 64 * j + k = 480 + 64 * j + 16 + k by omega])
  have s1 : tw_wM g k 1 = tw_sum (fun j => tw_am g (4 + j) k) 6 := by
    show tw_sum (fun j => tw_DN (g.1 (960 + 32 * j + 8 + k))) (g.2 4) = _
    rw [← tw_sum_z (f := fun j => tw_DN (g.1 (960 + 32 * j + 8 + k))) (m := g.2 4) 6 b4 (fun i h1 h2 => by rw [z4 i k h2 h1 hk]; rfl)]
    exact tw_sum_c 6 (fun j hj => by unfold tw_am; rw [tw_ac_h (by omega) (by omega), show 840 + 32 * (4 + j) + k = 960 + 32 * j + 8 + k by omega])
  have sw : ∀ s, s < 4 → tw_wM g k (s + 2) = tw_am g (10 + s) k := fun s hs => by
    show tw_DN (g.1 (1344 + 8 * s + k)) = _
    unfold tw_am
    rw [tw_ac_s (by omega), show 1264 + 8 * (10 + s) + k = 1344 + 8 * s + k by omega]
  have w2 := sw 0 (by decide)
  have w3 := sw 1 (by decide)
  have w4 := sw 2 (by decide)
  have w5 := sw 3 (by decide)
  have a := (I.am.2 k hk).1
  have t : tw_sum (fun i => tw_am g i k) 13 = tw_sum (fun i => tw_am g i k) (4 + 6) + tw_am g 10 k + tw_am g 11 k + tw_am g 12 k := rfl
  have u := tw_sum_s (f := fun i => tw_am g i k) 4 6
  have u2 : tw_sum (fun j => (fun i => tw_am g i k) (4 + j)) 6 = tw_sum (fun j => tw_am g (4 + j) k) 6 := rfl
  rw [u2] at u
  have e2 : tw_wM g k (0 + 2) = tw_wM g k 2 := rfl
  have e3 : tw_wM g k (1 + 2) = tw_wM g k 3 := rfl
  have e4 : tw_wM g k (2 + 2) = tw_wM g k 4 := rfl
  have e5 : tw_wM g k (3 + 2) = tw_wM g k 5 := rfl
  rw [e2, show 10 + 0 = 10 from rfl] at w2
  rw [e3, show 10 + 1 = 11 from rfl] at w3
  rw [e4, show 10 + 2 = 12 from rfl] at w4
  rw [e5, show 10 + 3 = 13 from rfl] at w5
  omega
theorem tw_I9.keptI {B : Nat} {g : tw_G} (I : tw_I9 B g) {k : Nat} (hk : k < 2) : nI (tw_wM g k 0) + nI (tw_wM g k 1) + nI (tw_wM g k 2) + nI (tw_wM g k 3) + nI (tw_wM g k 4) = nI (tw_wM g k 5) := by
  rw [tw_niadd, tw_niadd, tw_niadd, tw_niadd, I.kept hk]
theorem tw_ge0 {n : Nat} (h : n < 2 ^ 31) : (0 : Int32) ≤ nI n := nI_le (a := 0) (Nat.zero_le _) h
theorem tw_I9.sm {B : Nat} {g : tw_G} (I : tw_I9 B g) : tw_SQ g := by
  refine ⟨fun k hk => I.keptI hk, fun j hj e => ?_, fun j hj k hk => (I.et j hj k hk).2.1, fun a b ha hb => ⟨?_, (I.ev.2 a b ha hb).2⟩⟩
  · rcases I.i5.2.2.1 j hj with ⟨⟨i, hi, a⟩, -⟩ | ⟨-, -, t, t1, t2, a⟩
    · obtain ⟨b3, -⟩ := I.bd
      exact absurd (a.symm.trans e) (tw_nm1 (by omega))
    · rw [a]
      exact (nI_ltI (by omega) (by omega)).mpr t1
  · obtain ⟨n, -, -, e1, e2⟩ := I.i5.2.2.2.2.2.1 a b ha hb
    exact e1.trans e2.symm
theorem tw_I9.so {B : Nat} {g : tw_G} (I : tw_I9 B g) (h : B ≤ 59000000) : tw_SO g := by
  obtain ⟨b3, b4, -, b22⟩ := I.bd
  have c6 := I.c6
  have c7 := I.c7
  have ct := I.ct
  refine ⟨fun k hk => ?_, fun j hj => ⟨⟨?_, ?_⟩, fun k hk => ?_⟩, fun j hj => ⟨⟨?_, ?_⟩, fun e => ?_⟩, fun a b ha hb => ?_⟩
  · rw [I.wv hk (by decide), I.wv hk (by decide), I.wv hk (by decide), I.wv hk (by decide), I.wv hk (by decide), I.wv hk (by decide)]
    exact I.keptI hk
  · obtain ⟨e, l⟩ := I.ev2 (j := j) (k := 0) (by omega) (by decide)
    rw [e]
    exact tw_ge0 (by omega)
  · obtain ⟨e, l⟩ := I.ev2 (j := j) (k := 1) (by omega) (by decide)
    rw [e]
    exact tw_ge0 (by omega)
  · obtain ⟨e, l, -⟩ := I.et j (by omega) k hk
    rw [e]
    exact l
  · obtain ⟨e, l⟩ := I.ep2 (j := j) (k := 0) (by omega) (by decide)
    rw [e]
    exact tw_ge0 (by omega)
  · obtain ⟨e, l⟩ := I.ep2 (j := j) (k := 1) (by omega) (by decide)
    rw [e]
    exact tw_ge0 (by omega)
  · have p2 := I.pe (a := j) (c := 2) (by omega) (by decide)
    have p0 := I.pe (a := j) (c := 0) (by omega) (by decide)
    rcases I.i5.2.2.1 j (by omega) with ⟨-, a, -⟩ | ⟨-, -, t, t1, t2, a⟩
    · exact absurd (p2.trans a) e
    · rw [p0, a, ct]
      exact (nI_ltI (by omega) (by omega)).mpr t1
  · obtain ⟨-, -, -, -, ea⟩ := (I.eq a (by omega)).1 (by omega)
    obtain ⟨-, -, -, -, eb⟩ := (I.eq b (by omega)).1 (by omega)
    obtain ⟨n, -, -, e1, e2⟩ := I.i5.2.2.2.2.2.1 a b (by omega) (by omega)
    rw [(ea b (by omega)).1, (ea b (by omega)).2, (eb a (by omega)).1, (eb a (by omega)).2]
    exact ⟨e1.trans e2.symm, (I.ev.2 a b (by omega) (by omega)).2⟩
theorem tw_pop2l {d : tw_D} {M : tw_M} {Q : tw_O → tw_H → Prop} {pc : Nat} {lv : List (Nat × Value)} {st : List Value} {h : tw_H} {c n : Nat} {x : Int64} (hd : decode M.2.1 pc = .ok (.pop2, 1)) (k : tw_W d M Q (pc + 1) lv st h c n) : tw_W d M Q pc lv (.long x :: st) h c n := by
  intro p l e R s m args below meth cd H locs ls cells slots X hl hh hS hc hn
  exact lv_pop2_2 X.1 X.2.1 hd rfl (k p l e R s m args below meth cd H locs ls cells slots X hl hh hS hc hn)
theorem tw_s1 (a : Nat) : nI a + 1 = nI (a + 1) := nI_1 a
theorem tw_s2 (a : Nat) : nI a + 2 = nI (a + 2) := tw_niadd (b := 2)
theorem tw_s3 (a : Nat) : nI a + 3 = nI (a + 3) := tw_niadd (b := 3)
theorem tw_s4 (a : Nat) : nI a + 4 = nI (a + 4) := tw_niadd (b := 4)
theorem tw_s5 (j : Nat) : nI (5 * j) + 5 = nI (5 * (j + 1)) := by rw [Nat.mul_add]; exact tw_niadd (b := 5)
theorem tw_l5 {L j : Nat} (hL : L ≤ 2560) (hj : j ≤ 512) : nI L - 5 < nI (5 * j) ↔ L < 5 * j + 5 := by
  rw [Int32.lt_iff_toInt_lt, Int32.toInt_sub, nI_toInt (by omega), nI_toInt (by omega), show (5 : Int32).toInt = 5 by decide]
  have b : ((L : Int) - 5).bmod (2 ^ 32) = (L : Int) - 5 := by apply Int.bmod_eq_of_le_mul_two <;> omega
  rw [b]
  omega
theorem tw_cmpe {a b : Int64} (e : a = b) : lg_cmp a b = 0 := by subst e; simp [lg_cmp]
/-! p30's law: what its checks come to (drafts, not compiled) -/
theorem tw_bs_all {T : Nat → Nat} {f n : Nat} : ∀ j, (tw_bs T f n j).1 = none → ∀ i, i < j → i ≠ f → T i ≤ n
  | 0, _, i, hi, _ => absurd hi (Nat.not_lt_zero _)
  | j + 1, h, i, hi, hf => by
    by_cases q : j ≠ f ∧ (tw_bs T f n j).2 < T j
    · rw [tw_bs_take q.1 q.2] at h; cases h
    · have e : tw_bs T f n (j + 1) = tw_bs T f n j := if_neg q
      rw [e] at h
      by_cases z : i = j
      · subst z
        have y := tw_bs_none _ h
        rcases Nat.lt_or_ge n (T i) with l | l
        · exact absurd ⟨hf, by rw [y]; exact l⟩ q
        · exact l
      · exact tw_bs_all j h i (by omega) hf
theorem tw_bs_ne {T : Nat → Nat} {f n b : Nat} : ∀ j, (tw_bs T f n j).1 = some b → b ≠ f
  | 0, h => by cases h
  | j + 1, h => by
    by_cases q : j ≠ f ∧ (tw_bs T f n j).2 < T j
    · rw [tw_bs_take q.1 q.2] at h
      rw [← Option.some.inj h]
      exact q.1
    · have e : tw_bs T f n (j + 1) = tw_bs T f n j := if_neg q
      rw [e] at h
      exact tw_bs_ne j h
theorem tw_rest_t {g : tw_G} {n a b k : Nat} (hr : tw_rC g n (g.2 6) = true) (ha : a < g.2 6) (hb : b < g.2 6) (hab : b ≠ a) (hk : k < 2) : tw_tC g a b k n ≤ n := by
  have z : (tw_bC g a k n (g.2 6)).1 = none := by
    cases y : (tw_bC g a k n (g.2 6)).1 with
    | none => rfl
    | some w =>
      have e : tw_rC g n (g.2 6) = false := tw_rb_f (B := fun i k => (tw_bC g i k n (g.2 6)).1) hk (by rw [y]; exact fun z => by cases z) _ ha
      rw [e] at hr
      cases hr
  exact tw_bs_all _ z b hb hab
theorem tw_best_ne {g : tw_G} {f k n : Nat} (hf : f < 2 ^ 31) (h4 : g.2 6 ≤ 4) : tw_bno (tw_bC g f k n (g.2 6)).1 ≠ nI f := by
  cases y : (tw_bC g f k n (g.2 6)).1 with
  | none => exact fun z => tw_nm1 hf z.symm
  | some b =>
    have s := tw_bs_some _ y
    exact fun z => tw_bs_ne _ y (tw_nIj z (by omega) hf)
theorem tw_ld_ge {T k n : Nat} : ∀ f D L, D + f ≤ 4000 → (-1 : Int32) ≤ tw_ld T k n f D L
  | 0, _, _, _ => Int32.le_refl _
  | f + 1, D, L, h => by
    show (-1 : Int32) ≤ if tw_lw T k D L < n then nI D else tw_ld T k n f (D + 1) (tw_lw T k D L - n)
    split
    · exact Int32.le_trans (by decide) (tw_ge0 (by omega))
    · exact tw_ld_ge f (D + 1) _ (by omega)
theorem tw_no9 {g : tw_G} {b : Nat} (h : ∀ k, k < 5 → g.1 (b + k) = 0) : tw_cd (tw_ch (tw_tl g b) 5 9) = -1 := by
  have e : tw_tl g b = fun _ => 0 := funext fun j => by
    unfold tw_tl
    split
    · rw [h j (by assumption)]
      rfl
    · rfl
  rw [e]
  rfl

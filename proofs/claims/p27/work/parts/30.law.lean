/-! the class's methods over the typed heap. Laid by wip/p5/mkclass.py. -/
/-! the law's invariant, all numbers: class and reference hold the same (tw_E2 g g), amounts within their bound, houses, debts, what is not there is zero, roads' days, where blocks end, how many there are. -/
def tw_DH (g : tw_G) : Prop := ∀ j, j < g.2 5 → (∃ v, v ≤ 9999 ∧ g.1 (1232 + 8 * j + 0) = nI v) ∧ (∃ t, t ≤ 4000 ∧ g.1 (1232 + 8 * j + 1) = nI t) ∧ ∃ a b, a < g.2 4 ∧ b < g.2 4 ∧ a ≠ b ∧ g.1 (1232 + 8 * j + 3) = nI a ∧ g.1 (1232 + 8 * j + 4) = nI b
def tw_Z5 (g : tw_G) : Prop := (∀ j k, j < 4 → g.2 3 ≤ j → k < 2 → g.1 (480 + 64 * j + 16 + k) = 0) ∧ ∀ j k, j < 6 → g.2 4 ≤ j → k < 2 → g.1 (960 + 32 * j + 8 + k) = 0
def tw_RY (g : tw_G) : Prop := ∀ a b, a < 4 → b < 4 → ∃ n, 1 ≤ n ∧ n ≤ 30 ∧ g.1 (416 + 8 * a + b) = nI n ∧ g.1 (416 + 8 * b + a) = nI n
def tw_FR (g : tw_G) : Prop := g.2 130 = 768 + 32 * g.2 7 ∧ g.2 131 = 960 + 32 * g.2 4 ∧ g.2 132 = 1152 + 8 * g.2 8 ∧ g.2 133 = 1232 + 8 * g.2 5
def tw_BD (g : tw_G) : Prop := g.2 3 ≤ 4 ∧ g.2 4 ≤ 6 ∧ g.2 5 ≤ 10 ∧ g.2 22 ≤ 3000
def tw_I5 (B : Nat) (g : tw_G) : Prop := tw_E2 g g ∧ tw_AM B g ∧ (∀ j, j < g.2 4 → tw_hs g (g.2 22) j) ∧ tw_DH g ∧ tw_Z5 g ∧ tw_RY g ∧ tw_FR g ∧ tw_BD g
theorem tw_RY.cg {g g1 : tw_G} (h : tw_RY g) (e : ∀ i, 416 ≤ i → i < 448 → g1.1 i = g.1 i) : tw_RY g1 := fun a b ha hb => by
  rw [e _ (by omega) (by omega), e (416 + 8 * b + a) (by omega) (by omega)]
  exact h a b ha hb
theorem tw_x5.n {i : Nat} (h : tw_x5 i) : 160 ≤ i ∧ i < 416 ∧ (i % 64 = 56 ∨ i % 64 = 57) ∨ 480 ≤ i ∧ i < 736 ∧ (i % 64 = 48 ∨ i % 64 = 49) ∨ 768 ≤ i := h
/-- the reference's cells are as before -/
def tw_sc (g gL : tw_G) : Prop := ∀ b, (416 ≤ b ∧ b < 736 ∨ 960 ≤ b ∧ b < 1152 ∨ 1232 ≤ b ∧ b < 1312 ∨ 1344 ≤ b ∧ b < 1376) → gL.1 b = g.1 b
theorem tw_sc.rf {g : tw_G} : tw_sc g g := fun _ _ => rfl
theorem tw_AM.sc {B : Nat} {g gL : tw_G} (h : tw_AM B g) (s : tw_sc g gL) : tw_AM B gL := h.cg (fun i k hi hk => s _ (by have x := tw_ac_c i k; omega))
theorem tw_sc.e2 {g gL : tw_G} (s : tw_sc g gL) (e : tw_E2 g g) : tw_E2 g gL := e.cg (fun _ _ => rfl) (fun b h => s b (by have h := h.n; omega))
theorem tw_ac_x {i k : Nat} (hi : i < 14) (hk : k < 2) : tw_x5 (tw_ac i k) := by
  have a := tw_ac_c i k
  unfold tw_x5
  omega
theorem tw_cc.x {a : Nat} (h : tw_cc a) : tw_x5 a := by
  unfold tw_cc at h
  unfold tw_x5
  omega
theorem tw_mc.x {a : Nat} (h : tw_mc a) : tw_x5 a := by
  unfold tw_mc at h
  unfold tw_x5
  omega
theorem tw_x5.h {i : Nat} (h : 768 ≤ i) : tw_x5 i := Or.inr (Or.inr h)
/-- other cells change, these stay -/
theorem tw_I5.of0 {B : Nat} {g g1 : tw_G} (I : tw_I5 B g) (e : ∀ i, tw_x5 i → g1.1 i = g.1 i) (ry : tw_RY g1) (c : ∀ i, (i = 3 ∨ i = 4 ∨ i = 5 ∨ i = 7 ∨ i = 8 ∨ i = 22 ∨ 130 ≤ i ∧ i < 134) → g1.2 i = g.2 i) : tw_I5 B g1 := by
  obtain ⟨e2, am, hs, dh, z, -, ⟨f0, f1, f2, f3⟩, b3, b4, b5, b22⟩ := I
  have c3 := c 3 (by decide)
  have c4 := c 4 (by decide)
  have c5 := c 5 (by decide)
  have c7 := c 7 (by decide)
  have c8 := c 8 (by decide)
  have c22 := c 22 (by decide)
  refine ⟨e2.cg (fun a h => e a h.x) (fun b h => e b h.x), am.cg (fun i k hi hk => e _ (tw_ac_x hi hk)), fun j hj => ?_, fun j hj => ?_, ⟨fun j k hj h3 hk => ?_, fun j k hj h4 hk => ?_⟩, ry, ⟨?_, ?_, ?_, ?_⟩, ?_⟩
  · rw [c4] at hj
    rw [c22]
    exact (hs j hj).cg (fun k hk => e _ (tw_x5.h (by omega))) (by rw [c3]; exact Nat.le_refl _)
  · rw [c5] at hj
    rw [e _ (tw_x5.h (by omega)), e _ (tw_x5.h (by omega)), e _ (tw_x5.h (by omega)), e _ (tw_x5.h (by omega)), c4]
    exact dh j hj
  · rw [c3] at h3
    rw [e _ (by unfold tw_x5; omega)]
    exact z.1 j k hj h3 hk
  · rw [c4] at h4
    rw [e _ (tw_x5.h (by omega))]
    exact z.2 j k hj h4 hk
  · rw [c 130 (by decide), c7]
    exact f0
  · rw [c 131 (by decide), c4]
    exact f1
  · rw [c 132 (by decide), c8]
    exact f2
  · rw [c 133 (by decide), c5]
    exact f3
  · unfold tw_BD
    rw [c3, c4, c5, c22]
    exact ⟨b3, b4, b5, b22⟩
theorem tw_I5.of {B : Nat} {g g1 : tw_G} (I : tw_I5 B g) (e : ∀ i, (tw_x5 i ∨ 416 ≤ i ∧ i < 448) → g1.1 i = g.1 i) (c : ∀ i, (i = 3 ∨ i = 4 ∨ i = 5 ∨ i = 7 ∨ i = 8 ∨ i = 22 ∨ 130 ≤ i ∧ i < 134) → g1.2 i = g.2 i) : tw_I5 B g1 := I.of0 (fun i h => e i (Or.inl h)) (I.2.2.2.2.2.1.cg (fun i h1 h2 => e i (Or.inr ⟨h1, h2⟩))) c
theorem tw_I5.of2 {B : Nat} {g g1 : tw_G} (I : tw_I5 B g) (e : ∀ i, 128 ≤ i → g1.1 i = g.1 i) (c : ∀ i, (i = 3 ∨ i = 4 ∨ i = 5 ∨ i = 7 ∨ i = 8 ∨ i = 22 ∨ 130 ≤ i ∧ i < 134) → g1.2 i = g.2 i) : tw_I5 B g1 := I.of (fun i h => e i (by rcases h with h | h; have h := h.n; omega; omega)) c
theorem tw_I5.mono {B C : Nat} {g : tw_G} (I : tw_I5 B g) (e : B ≤ C) : tw_I5 C g := ⟨I.1, I.2.1.mono e, I.2.2⟩
theorem tw_I5.mh {B : Nat} {g : tw_G} (I : tw_I5 B g) : tw_MH g := fun j hj => by
  have h4 := I.2.2.2.2.2.2.2.2.1
  obtain ⟨a, b, x, y, hx, hy, n, ex, ey⟩ := I.2.2.2.1 j hj
  refine ⟨a, b, ?_⟩
  unfold tw_eF tw_eT
  rw [ex, ey, tw_DN_nI (by omega), tw_DN_nI (by omega)]
  exact n
theorem tw_MH.sc {g gL : tw_G} (h : tw_MH g) (s : tw_sc g gL) (c5 : gL.2 5 = g.2 5) (h5 : g.2 5 ≤ 10) : tw_MH gL := fun j hj => by
  rw [c5] at hj
  unfold tw_eF tw_eT
  rw [s _ (by omega), s _ (by omega), s _ (by omega), s _ (by omega)]
  exact h j hj
theorem tw_EM.sc {g gL : tw_G} (h : tw_EM g) (s : tw_sc g gL) (c3 : gL.2 3 = g.2 3) (h3 : g.2 3 ≤ 4) : tw_EM gL := fun j hj => by
  rw [c3] at hj
  obtain ⟨a, b, c⟩ := h j hj
  rw [s _ (by omega), s _ (by omega)]
  refine ⟨a, b, fun k hk => ?_⟩
  rw [s _ (by omega)]
  exact c k hk
/-- what the class's rows want -/
theorem tw_I5.ch {B : Nat} {g : tw_G} (I : tw_I5 B g) (ec : tw_EC g) (hB : B ≤ 59000000) (c6 : g.2 6 = g.2 3) (c7 : g.2 7 = g.2 4) (c8 : g.2 8 = g.2 5) : tw_CH g := by
  obtain ⟨e2, am, hs, dh, -, -, -, h3, h4, h5, -⟩ := I
  refine ⟨ec, fun j hj => ⟨?_, fun k hk => ?_⟩, fun j hj => ?_⟩
  · rw [e2 _ _ (tw_pr.h (k := 1) (by omega) (by decide)), c6]
    rcases hs j (by omega) with ⟨⟨i, hi, a⟩, -⟩ | ⟨a, -⟩
    · exact Or.inr ⟨i, hi, a⟩
    · exact Or.inl a
  · have z := am.p (j := j) (k := k) (by omega) hk
    refine ⟨_, Nat.le_trans z.2 hB, ?_⟩
    have y := e2 (768 + 32 * j + (8 + k)) (960 + 32 * j + (8 + k)) (tw_pr.h (by omega) (by omega))
    rw [← Nat.add_assoc, ← Nat.add_assoc] at y
    rw [y]
    exact z.1
  · obtain ⟨⟨v, hv, a⟩, ⟨t, ht, b⟩, x, y, hx, hy, -, ex, ey⟩ := dh j (by omega)
    rw [e2 _ _ (tw_pr.d (k := 0) (by omega) (by decide)), e2 _ _ (tw_pr.d (k := 1) (by omega) (by decide)), e2 _ _ (tw_pr.d (k := 3) (by omega) (by decide)), e2 _ _ (tw_pr.d (k := 4) (by omega) (by decide))]
    exact ⟨⟨v, hv, a⟩, ⟨t, ht, b⟩, ⟨x, by omega, ex⟩, y, by omega, ey⟩
/-- cells change, what is there stays: houses and debts as they stand -/
theorem tw_I5.re {B C : Nat} {g gL g9 : tw_G} (I : tw_I5 B g) (e : tw_E2 gL g9) (cL : ∀ a, tw_cc a → g9.1 a = gL.1 a) (am : tw_AM C g9) (c2 : g9.2 = g.2) (hs : ∀ j, j < g.2 4 → tw_hs g9 (g.2 22) j) (dd : ∀ j c, j < 10 → (c < 2 ∨ 3 ≤ c ∧ c < 5) → g9.1 (1232 + 8 * j + c) = g.1 (1232 + 8 * j + c)) (z : tw_Z5 g9) (ry : ∀ i, 416 ≤ i → i < 448 → g9.1 i = g.1 i) : tw_I5 C g9 := by
  obtain ⟨-, -, -, dh, -, r, f, bd⟩ := I
  refine ⟨e.cg cL (fun _ _ => rfl), am, fun j hj => ?_, fun j hj => ?_, z, r.cg ry, by unfold tw_FR; rw [c2]; exact f, by unfold tw_BD; rw [c2]; exact bd⟩
  · rw [c2] at hj ⊢
    exact hs j hj
  · rw [c2] at hj
    have h5 := bd.2.2.1
    rw [dd j 0 (by omega) (by omega), dd j 1 (by omega) (by omega), dd j 3 (by omega) (by omega), dd j 4 (by omega) (by omega), c2]
    exact dh j hj
theorem tw_I5.hsre {B : Nat} {g g9 : tw_G} (I : tw_I5 B g) (c2 : g9.2 = g.2) (h : ∀ j c, j < 6 → c < 3 → g9.1 (960 + 32 * j + c) = g.1 (960 + 32 * j + c)) : ∀ j, j < g.2 4 → tw_hs g9 (g.2 22) j := fun j hj => by
  have h4 := I.2.2.2.2.2.2.2.2.1
  exact (I.2.2.1 j hj).cg (fun c hc => h j c (by omega) hc) (by rw [c2]; exact Nat.le_refl _)
theorem tw_dsM_z (g : tw_G) (h3 : g.2 3 ≤ 4) (h4 : g.2 4 ≤ 6) : ∀ n i, (960 ≤ i ∧ i < 1152 ∧ 3 ≤ i % 32 ∨ ∃ j k, g.2 3 ≤ j ∧ j < 4 ∧ k < 2 ∧ i = 480 + 64 * j + 16 + k) → (tw_dsM g n).1 i = g.1 i
  | 0, _, _ => rfl
  | n + 1, i, h => by
    have ih := tw_dsM_z g h3 h4 n i h
    have e := tw_dsM_2 g n
    have k3 : (tw_dsM g n).2 3 = g.2 3 := by rw [e]; rfl
    have k4 : (tw_dsM g n).2 4 = g.2 4 := by rw [e]; rfl
    rw [← ih]
    show (tw_dyM (tw_dsM g n)).1 i = _
    have p : i < 960 ∨ 1152 ≤ i ∨ 3 ≤ i % 32 := by
      rcases h with h | ⟨j, k, a, b, c, d⟩
      · omega
      · omega
    have a := tw_fd_1 (f := tw_arM ((tw_dsM g n).2 22 + 1)) (g := tw_g2 (tw_dsM g n) 22 ((tw_dsM g n).2 22 + 1)) (P := fun x => x < 960 ∨ 1152 ≤ x ∨ 3 ≤ x % 32) (N := 6) (fun g' j x hj hx => tw_arM_1 _ _ _ (by have hx : x < 960 ∨ 1152 ≤ x ∨ 3 ≤ x % 32 := hx; omega)) ((tw_dsM g n).2 4) (by rw [k4]; exact h4) i p
    unfold tw_dyM
    split
    · refine (tw_fd_1 (P := fun x => x = i) (N := (tw_dsM g n).2 3) (fun g' j x hj hx => tw_weM_1 _ _ _ ?_) _ (Nat.le_refl _) _ rfl).trans a
      have hx : x = i := hx
      rw [k3] at hj
      rcases h with h | ⟨j2, k, a1, b1, c1, d1⟩
      · omega
      · omega
    · exact a
/-- days: class and reference pass them alike -/
theorem tw_I5.pass {B D : Nat} {g gL g9 : tw_G} (I : tw_I5 B g) (hB : B ≤ 60000000) (c6 : g.2 6 = g.2 3) (c7 : g.2 7 = g.2 4) (t : g.2 21 = g.2 22) (h3 : g.2 3 ≤ 4) (h4 : g.2 4 ≤ 6) (h5 : g.2 5 ≤ 10) (hD : g.2 22 + D ≤ 3000) (eL : gL = tw_dsC g D) (e9 : g9 = tw_dsM gL D) : tw_I5 B g9 := by
  have k6 : g.2 6 ≤ 4 := by omega
  have k7 : g.2 7 ≤ 6 := by omega
  have l2 : gL.2 = (tw_g2 g 21 (g.2 21 + D)).2 := by rw [eL]; exact tw_dsC_2 g D
  have l3 : gL.2 3 = g.2 3 := by rw [l2]; rfl
  have l4 : gL.2 4 = g.2 4 := by rw [l2]; rfl
  have l22 : gL.2 22 = g.2 22 := by rw [l2]; rfl
  have fL : ∀ b, tw_mc b → gL.1 b = g.1 b := fun b h => by
    have hn := h.n
    rw [eL]
    exact tw_dsC_1 g k6 k7 D b (by omega)
  have dL : ∀ b, 960 ≤ b ∧ b < 1152 ∨ 1232 ≤ b ∧ b < 1312 → gL.1 b = g.1 b := fun b h => fL b (by unfold tw_mc; omega)
  obtain ⟨e2, am, hs, dh, z, ry, fr, bd⟩ := I
  have aL : tw_AM B gL := am.cg (fun i l hi hl => fL _ (by have x := tw_ac_c i l; unfold tw_mc; omega))
  have s0 : tw_SM B g gL := ⟨e2.cg (fun _ _ => rfl) fL, by rw [l22]; exact t, by rw [l3]; exact c6, by rw [l4]; exact c7, by rw [l3]; exact h3, by rw [l4]; exact h4, fun j hj => by
    rw [l4] at hj
    rw [l22]
    exact (hs j hj).cg (fun k hk => dL _ (by omega)) (by rw [l3]; exact Nat.le_refl _), aL⟩
  have s1 := tw_ds_S s0 hB D (by rw [l22]; exact hD)
  rw [← eL, ← e9] at s1
  obtain ⟨f2, -, -, -, -, -, fh, fa⟩ := s1
  have n2 : g9.2 = (tw_g2 gL 22 (gL.2 22 + D)).2 := by rw [e9]; exact tw_dsM_2 gL D
  have n3 : g9.2 3 = g.2 3 := by rw [n2]; exact l3
  have n4 : g9.2 4 = g.2 4 := by rw [n2]; exact l4
  have f9 : ∀ i, i < 480 ∨ 736 ≤ i ∧ i < 960 ∨ 1152 ≤ i ∧ i < 1360 ∨ 1364 ≤ i → g9.1 i = gL.1 i := fun i h => by
    rw [e9]
    exact tw_dsM_1 gL (by rw [l3]; exact h3) (by rw [l4]; exact h4) D i (by omega)
  have zv : ∀ j k, j < 4 → g9.2 3 ≤ j → k < 2 → g9.1 (480 + 64 * j + 16 + k) = g.1 (480 + 64 * j + 16 + k) := fun j k hj h hk => by
    rw [e9, tw_dsM_z gL (by rw [l3]; exact h3) (by rw [l4]; exact h4) D _ (Or.inr ⟨j, k, by rw [l3]; omega, hj, hk, rfl⟩)]
    exact fL _ (by unfold tw_mc; omega)
  have zp : ∀ j k, j < 6 → g9.2 4 ≤ j → k < 2 → g9.1 (960 + 32 * j + 8 + k) = g.1 (960 + 32 * j + 8 + k) := fun j k hj h hk => by
    rw [e9, tw_dsM_z gL (by rw [l3]; exact h3) (by rw [l4]; exact h4) D _ (Or.inl (by omega))]
    exact dL _ (by omega)
  refine ⟨f2.cg (fun a h => by have hn := h.n; exact f9 a (by omega)) (fun _ _ => rfl), fa, fh, fun j hj => ?_, ⟨fun j k hj h hk => ?_, fun j k hj h hk => ?_⟩, ry.cg (fun i h1 h2 => (f9 i (by omega)).trans (by rw [eL]; exact tw_dsC_1 g k6 k7 D i (by omega))), ?_, ?_⟩
  · have n5 : g9.2 5 = g.2 5 := by rw [n2]; show gL.2 5 = _; rw [l2]; rfl
    rw [n5] at hj
    rw [f9 _ (by omega), f9 _ (by omega), f9 _ (by omega), f9 _ (by omega), dL _ (by omega), dL _ (by omega), dL _ (by omega), dL _ (by omega), n4]
    exact dh j hj
  · exact (zv j k hj h hk).trans (z.1 j k hj (by omega) hk)
  · exact (zp j k hj h hk).trans (z.2 j k hj (by omega) hk)
  · unfold tw_FR
    rw [n2]
    show gL.2 130 = 768 + 32 * gL.2 7 ∧ gL.2 131 = 960 + 32 * gL.2 4 ∧ gL.2 132 = 1152 + 8 * gL.2 8 ∧ gL.2 133 = 1232 + 8 * gL.2 5
    rw [l2]
    exact fr
  · unfold tw_BD
    rw [n3, n4, n2]
    show g.2 3 ≤ 4 ∧ g.2 4 ≤ 6 ∧ gL.2 5 ≤ 10 ∧ gL.2 22 + D ≤ 3000
    rw [l22, l2]
    exact ⟨h3, h4, h5, hD⟩
/-- at the start there is nothing -/
theorem tw_I5.start {g : tw_G} (Z : ∀ i, 128 ≤ i → (i < 416 ∨ 480 ≤ i) → g.1 i = 0) (r : ∀ j k, j < 4 → k < 4 → g.1 (416 + 8 * j + k) = 3 ∧ g.1 (448 + 8 * j + k) = 10) (h3 : g.2 3 = 0) (h4 : g.2 4 = 0) (h5 : g.2 5 = 0) (h7 : g.2 7 = 0) (h8 : g.2 8 = 0) (h22 : g.2 22 = 0) (f0 : g.2 130 = 768) (f1 : g.2 131 = 960) (f2 : g.2 132 = 1152) (f3 : g.2 133 = 1232) : tw_I5 (100000 * 0) g := by
  refine ⟨fun a b p => ?_, ?_, fun j hj => absurd hj (by omega), fun j hj => absurd hj (by omega), ⟨fun j k hj h hk => Z _ (by omega) (by omega), fun j k hj h hk => Z _ (by omega) (by omega)⟩, fun a b ha hb => ⟨3, by decide, by decide, (r a b ha hb).1, (r b a hb ha).1⟩, ⟨by omega, by omega, by omega, by omega⟩, by omega, by omega, by omega, by omega⟩
  · unfold tw_pr at p
    rw [Z a (by omega) (by omega), Z b (by omega) (by omega)]
  · exact tw_AM.of (f := fun _ _ => 0) (by decide) (fun i k hi hk => Z _ (by have x := tw_ac_c i k; omega) (by have x := tw_ac_c i k; omega)) (fun k hk => ⟨by decide, by decide⟩)
/-! the market on both sides -/
def tw_MK (g : tw_G) : Prop := g.1 0 = g.1 1 ∧ 100 ≤ g.1 1 ∧ g.1 1 ≤ 200
theorem tw_MK.cg {g g1 : tw_G} (m : tw_MK g) (e : ∀ i, i < 2 → g1.1 i = g.1 i) : tw_MK g1 := by
  unfold tw_MK
  rw [e 0 (by decide), e 1 (by decide)]
  exact m
theorem tw_ga.i {g g1 : tw_G} {i : Nat} (a : tw_ga g g1) (hi : i < 2) : g1.1 i = g.1 i := by
  rcases (show i = 0 ∨ i = 1 by omega) with rfl | rfl
  · exact a.1
  · exact a.2
theorem tw_M_house {g gL g9 : tw_G} {n m y p : Nat} {r r2 u u2 v v2 go go2 si si2 : Int32} (eL : gL = tw_ad (tw_ad (tw_gI (tw_gH g (768 + 32 * n) y p r u v) 7 1) (1336 + 0) go) (1336 + 1) si) (gk : ∃ y9 p9, tw_gk 4 (tw_gHM (tw_ad (tw_ad gL (1368 + 0) go2) (1368 + 1) si2) (960 + 32 * m) y9 p9 r2 u2 v2) g9) (i : Nat) (hi : i < 2) : g9.1 i = g.1 i := by
  obtain ⟨y9, p9, a0, -⟩ := gk
  rw [a0.i hi, tw_gHM_1 (by omega), tw_ad_ne (by omega), tw_ad_ne (by omega), eL, tw_ad_ne (by omega), tw_ad_ne (by omega)]
  show (tw_gH g (768 + 32 * n) y p r u v).1 i = _
  exact tw_gH_1 (by omega)
theorem tw_M_owe {g gL g9 : tw_G} {n m y : Nat} {v v2 dy dy2 f f2 c c2 : Int32} (eL : gL = tw_gI (tw_gD g (1152 + 8 * n) y v dy f c) 8 2) (gk : ∃ y9, tw_gk 5 (tw_gDM gL (1232 + 8 * m) y9 v2 dy2 f2 c2) g9) (i : Nat) (hi : i < 2) : g9.1 i = g.1 i := by
  obtain ⟨y9, a0, -⟩ := gk
  rw [a0.i hi, tw_gDM_1 (by omega), eL]
  show (tw_gD g (1152 + 8 * n) y v dy f c).1 i = _
  exact tw_gD_1 (by omega)
theorem tw_M_country {g gL g9 : tw_G} {n n2 y d f t m v : Nat} {r r2 c c2 u u2 w w2 go go2 si si2 : Int32} (eL : gL = tw_ad (tw_ad (tw_gI (tw_gC g (160 + 64 * n) y d f t m v r c u w) 6 0) (1336 + 0) go) (1336 + 1) si) (gk : ∃ y9 o9 t9 w8, tw_gk 3 (tw_gN (tw_ad (tw_ad gL (1368 + 0) go2) (1368 + 1) si2) (480 + 64 * n2) y9 o9 t9 w8 r2 c2 u2 w2) g9) (i : Nat) (hi : i < 2) : g9.1 i = g.1 i := by
  obtain ⟨y9, o9, t9, w8, a0, -⟩ := gk
  rw [a0.i hi, tw_gN_1 (by omega), tw_ad_ne (by omega), tw_ad_ne (by omega), eL, tw_ad_ne (by omega), tw_ad_ne (by omega)]
  show (tw_gC g (160 + 64 * n) y d f t m v r c u w).1 i = _
  exact tw_gC_1 (by omega)
theorem tw_M_pass {g gL g9 : tw_G} {D : Nat} (h6 : g.2 6 ≤ 4) (h7 : g.2 7 ≤ 6) (h3 : gL.2 3 ≤ 4) (h4 : gL.2 4 ≤ 6) (eL : gL = tw_dsC g D) (e9 : g9 = tw_dsM gL D) (i : Nat) (hi : i < 2) : g9.1 i = g.1 i := by
  rw [e9, tw_dsM_1 gL h3 h4 D i (by omega), eL]
  exact tw_dsC_1 g h6 h7 D i (by omega)
/-- rates, cuts, gates, roads of class and reference are the same -/
def tw_EQ (g : tw_G) : Prop := ∀ j, j < 4 → (j < g.2 3 → g.1 (160 + 64 * j) = g.1 (480 + 64 * j) ∧ g.1 (160 + 64 * j + 1) = g.1 (480 + 64 * j + 1) ∧ g.1 (160 + 64 * j + 2) = g.1 (480 + 64 * j + 8) ∧ g.1 (160 + 64 * j + 3) = g.1 (480 + 64 * j + 9) ∧ ∀ k, k < 4 → g.1 (160 + 64 * j + 8 + k) = g.1 (416 + 8 * j + k) ∧ g.1 (160 + 64 * j + 16 + k) = g.1 (448 + 8 * j + k)) ∧ (g.2 3 ≤ j → ∀ k, k < 4 → g.1 (416 + 8 * j + k) = 3 ∧ g.1 (448 + 8 * j + k) = 10)
/-- rates, cuts, freights are within their ranges, and a road is the same both ways -/
def tw_EV (g : tw_G) : Prop := (∀ j, j < g.2 3 → (100 ≤ g.1 (480 + 64 * j) ∧ g.1 (480 + 64 * j) ≤ 200) ∧ 0 ≤ g.1 (480 + 64 * j + 1) ∧ g.1 (480 + 64 * j + 1) ≤ 50) ∧ ∀ a b, a < 4 → b < 4 → (0 ≤ g.1 (448 + 8 * a + b) ∧ g.1 (448 + 8 * a + b) ≤ 100) ∧ g.1 (448 + 8 * a + b) = g.1 (448 + 8 * b + a)
def tw_ET (g : tw_G) : Prop := ∀ j, j < g.2 3 → ∀ k, k < 5 → g.1 (160 + 64 * j + 32 + k) = g.1 (480 + 64 * j + 24 + k) ∧ 0 ≤ g.1 (480 + 64 * j + 24 + k) ∧ g.1 (480 + 64 * j + 24 + k) ≤ 9
/-- class and reference have as many things -/
def tw_I9 (B : Nat) (g : tw_G) : Prop := g.2 0 = g.2 3 ∧ g.2 1 = g.2 4 ∧ g.2 2 = g.2 5 ∧ g.2 6 = g.2 0 ∧ g.2 7 = g.2 1 ∧ g.2 8 = g.2 2 ∧ g.2 21 = g.2 22 ∧ g.2 24 = 160 + 64 * g.2 0 ∧ g.2 9 = 480 + 64 * g.2 3 ∧ tw_EQ g ∧ tw_EV g ∧ tw_ET g ∧ tw_I5 B g
theorem tw_EV.of {g g1 : tw_G} (e : tw_EV g) (h1 : ∀ i, 448 ≤ i → i < 480 → g1.1 i = g.1 i) (h2 : ∀ j, j < g.2 3 → g1.1 (480 + 64 * j) = g.1 (480 + 64 * j) ∧ g1.1 (480 + 64 * j + 1) = g.1 (480 + 64 * j + 1)) (h3 : g1.2 3 = g.2 3) : tw_EV g1 := by
  refine ⟨fun j hj => ?_, fun a b ha hb => ?_⟩
  · rw [h3] at hj
    rw [(h2 j hj).1, (h2 j hj).2]
    exact e.1 j hj
  · rw [h1 _ (by omega) (by omega), h1 (448 + 8 * b + a) (by omega) (by omega)]
    exact e.2 a b ha hb
theorem tw_EV.of2 {g g1 : tw_G} (e : tw_EV g) (h1 : ∀ i, 128 ≤ i → g1.1 i = g.1 i) (h3 : g1.2 3 = g.2 3) : tw_EV g1 := e.of (fun i _ _ => h1 i (by omega)) (fun j _ => ⟨h1 _ (by omega), h1 _ (by omega)⟩) h3
theorem tw_I9.ev {B : Nat} {g : tw_G} (i : tw_I9 B g) : tw_EV g := i.2.2.2.2.2.2.2.2.2.2.1
theorem tw_I9.et {B : Nat} {g : tw_G} (i : tw_I9 B g) : tw_ET g := i.2.2.2.2.2.2.2.2.2.2.2.1
theorem tw_I9.i5 {B : Nat} {g : tw_G} (i : tw_I9 B g) : tw_I5 B g := i.2.2.2.2.2.2.2.2.2.2.2.2
theorem tw_ET.of {g g1 : tw_G} (e : tw_ET g) (h1 : ∀ j, j < g.2 3 → ∀ k, k < 5 → g1.1 (160 + 64 * j + 32 + k) = g.1 (160 + 64 * j + 32 + k) ∧ g1.1 (480 + 64 * j + 24 + k) = g.1 (480 + 64 * j + 24 + k)) (h3 : g1.2 3 = g.2 3) : tw_ET g1 := by
  intro j hj k hk
  rw [h3] at hj
  rw [(h1 j hj k hk).1, (h1 j hj k hk).2]
  exact e j hj k hk
theorem tw_ET.of2 {g g1 : tw_G} (e : tw_ET g) (h1 : ∀ i, 128 ≤ i → g1.1 i = g.1 i) (h3 : g1.2 3 = g.2 3) : tw_ET g1 := e.of (fun j _ k _ => ⟨h1 _ (by omega), h1 _ (by omega)⟩) h3
theorem tw_EQ.of {g g1 : tw_G} (e : tw_EQ g) (h1 : ∀ i, 128 ≤ i → g1.1 i = g.1 i) (h3 : g1.2 3 = g.2 3) : tw_EQ g1 := by
  intro j hj
  have e := e j hj
  rw [← h3] at e
  refine ⟨fun hl => ?_, fun hl k hk => ?_⟩
  · obtain ⟨a, b, c, d, f⟩ := e.1 hl
    rw [← h1 _ (by omega), ← h1 (480 + 64 * j) (by omega)] at a
    rw [← h1 _ (by omega), ← h1 (480 + 64 * j + 1) (by omega)] at b
    rw [← h1 _ (by omega), ← h1 (480 + 64 * j + 8) (by omega)] at c
    rw [← h1 _ (by omega), ← h1 (480 + 64 * j + 9) (by omega)] at d
    refine ⟨a, b, c, d, fun k hk => ?_⟩
    obtain ⟨f1, f2⟩ := f k hk
    rw [← h1 _ (by omega), ← h1 (416 + 8 * j + k) (by omega)] at f1
    rw [← h1 _ (by omega), ← h1 (448 + 8 * j + k) (by omega)] at f2
    exact ⟨f1, f2⟩
  · obtain ⟨f1, f2⟩ := e.2 hl k hk
    rw [← h1 _ (by omega)] at f1
    rw [← h1 _ (by omega)] at f2
    exact ⟨f1, f2⟩
theorem tw_I9.eq {B : Nat} {g : tw_G} (i : tw_I9 B g) : tw_EQ g := i.2.2.2.2.2.2.2.2.2.1
theorem tw_I9.mk {B : Nat} {g : tw_G} {i : Nat} {m : Int32} (I : tw_I9 B g) (hi : i < 128) : tw_I9 B (tw_g1 g i m) :=
  ⟨I.1, I.2.1, I.2.2.1, I.2.2.2.1, I.2.2.2.2.1, I.2.2.2.2.2.1, I.2.2.2.2.2.2.1, I.2.2.2.2.2.2.2.1, I.2.2.2.2.2.2.2.2.1, I.eq.of (fun k hk => tw_g1_ne (by omega)) rfl, I.ev.of2 (fun k hk => tw_g1_ne (by omega)) rfl, I.et.of2 (fun k hk => tw_g1_ne (by omega)) rfl, I.i5.of2 (fun k hk => tw_g1_ne (by omega)) (fun _ _ => rfl)⟩
theorem tw_gCI_2 {g : tw_G} {n y d f t m v i : Nat} {r c go si : Int32} (h0 : i ≠ 0) (h6 : i ≠ 6) (h24 : i ≠ 24) (hi : i < 160) : (tw_gI (tw_gC g (160 + 64 * n) y d f t m v r c go si) 6 0).2 i = g.2 i := by
  show (if i = 0 then _ else if i = 6 then _ else _) = _
  rw [if_neg h0, if_neg h6]
  exact tw_gC_2 h24 (by omega) (by omega)
theorem tw_gC_g {g : tw_G} {b x rd rf t m v : Nat} {r c gd sv : Int32} : (tw_gC g b x rd rf t m v r c gd sv).1 (b + 24) = gd ∧ (tw_gC g b x rd rf t m v r c gd sv).1 (b + 25) = sv := by
  unfold tw_gC
  dsimp only
  constructor
  · rw [if_neg (by omega), if_neg (by omega), if_neg (by omega), if_neg (by omega), if_neg (by omega), if_neg (by omega), if_pos rfl]
  · rw [if_neg (by omega), if_neg (by omega), if_neg (by omega), if_neg (by omega), if_neg (by omega), if_neg (by omega), if_neg (by omega), if_pos rfl]
theorem tw_gN_g {g : tw_G} {b x o t v : Nat} {r c gd sv : Int32} : (tw_gN g b x o t v r c gd sv).1 (b + 16) = gd ∧ (tw_gN g b x o t v r c gd sv).1 (b + 17) = sv := by
  unfold tw_gN
  dsimp only
  constructor
  · rw [if_neg (by omega), if_neg (by omega), if_neg (by omega), if_neg (by omega), if_pos rfl]
  · rw [if_neg (by omega), if_neg (by omega), if_neg (by omega), if_neg (by omega), if_neg (by omega), if_pos rfl]
theorem tw_V_law {B : Nat} {g : tw_G} {n rt ct : Int32} (I : tw_I9 B g) (i : tw_ix (g.2 6) n) (h4 : g.2 6 ≤ 4) : g.1 (160 + 64 * tw_DN n) = (tw_g1 (tw_g1 g (160 + 64 * tw_DN n) rt) (160 + 64 * tw_DN n + 1) ct).1 (480 + 64 * tw_DN n) := by
  have e := I.eq
  obtain ⟨i1, i2, i3, i4, -⟩ := I
  obtain ⟨j, hj, rfl⟩ := i
  rw [show tw_DN (nI j) = j from nI_clamp (by omega)]
  have E := (e j (by omega)).1 (by omega)
  repeat rw [tw_g1_ne (by omega)]
  exact E.1
set_option maxHeartbeats 4000000 in
theorem tw_I9.law {B : Nat} {g : tw_G} {n rt ct : Int32} (I : tw_I9 B g) (i : tw_ix (g.2 6) n) (hR : tw_RL rt ct) (h4 : g.2 6 ≤ 4) : tw_I9 B (tw_g1 (tw_g1 (tw_g1 (tw_g1 g (160 + 64 * tw_DN n) rt) (160 + 64 * tw_DN n + 1) ct) (480 + 64 * tw_DN n) rt) (480 + 64 * tw_DN n + 1) ct) := by
  have e := I.eq
  have I0 := I
  obtain ⟨i1, i2, i3, i4, -⟩ := I
  obtain ⟨j, hj, rfl⟩ := i
  rw [show tw_DN (nI j) = j from nI_clamp (by omega)]
  refine ⟨I0.1, I0.2.1, I0.2.2.1, I0.2.2.2.1, I0.2.2.2.2.1, I0.2.2.2.2.2.1, I0.2.2.2.2.2.2.1, I0.2.2.2.2.2.2.2.1, I0.2.2.2.2.2.2.2.2.1, ⟨fun j2 hj2 => ⟨fun hl => ?_, fun hl k2 hk2 => ?_⟩, ?_, I0.et.of (fun j3 hj3 k3 hk3 => ⟨by repeat rw [tw_g1_ne (by omega)], by repeat rw [tw_g1_ne (by omega)]⟩) rfl, I0.i5.of (fun i9 h9 => by have h9 : tw_x5 i9 ∨ 416 ≤ i9 ∧ i9 < 448 := h9; unfold tw_x5 at h9; repeat rw [tw_g1_ne (by omega)]) (fun _ _ => rfl)⟩⟩
  · obtain ⟨b1, b2, b3, b4, b5⟩ := (e j2 hj2).1 hl
    simp only [tw_g1]
    refine ⟨?_, ?_, ?_, ?_, fun k2 hk2 => ⟨?_, ?_⟩⟩
    · repeat' split
      all_goals first | rfl | exact b1 | omega
    · repeat' split
      all_goals first | rfl | exact b2 | omega
    · repeat' split
      all_goals first | rfl | exact b3 | omega
    · repeat' split
      all_goals first | rfl | exact b4 | omega
    · have b5 := (b5 k2 hk2).1
      repeat' split
      all_goals first | rfl | exact b5 | omega
    · have b5 := (b5 k2 hk2).2
      repeat' split
      all_goals first | rfl | exact b5 | omega
  · have b := (e j2 hj2).2 hl k2 hk2
    have hl : g.2 3 ≤ j2 := hl
    repeat rw [tw_g1_ne (by omega)]
    exact b
  · have v := I0.ev
    refine ⟨fun j3 hj3 => ?_, fun a3 b3 ha3 hb3 => ?_⟩
    · have v1 := v.1 j3 hj3
      have hj3 : j3 < g.2 3 := hj3
      simp only [tw_g1]
      repeat' split
      all_goals first | exact hR | exact v1 | (exfalso; omega)
    · have v2 := v.2 a3 b3 ha3 hb3
      repeat rw [tw_g1_ne (by omega)]
      exact v2
theorem tw_V_gate {B : Nat} {g : tw_G} {n m b : Int32} (I : tw_I9 B g) (i : tw_ix (g.2 6) n) (hm : tw_RM m) (h4 : g.2 6 ≤ 4) : g.1 (160 + 64 * tw_DN n + 2 + tw_DN m) = (tw_g1 g (160 + 64 * tw_DN n + 2 + tw_DN m) b).1 (480 + 64 * tw_DN n + 8 + tw_DN m) := by
  have e := I.eq
  obtain ⟨i1, i2, i3, i4, -⟩ := I
  obtain ⟨j, hj, rfl⟩ := i
  rw [show tw_DN (nI j) = j from nI_clamp (by omega)]
  obtain ⟨k, hk, rfl⟩ := hm.k
  rw [show tw_DN (nI k) = k from nI_clamp (by omega)]
  have E := (e j (by omega)).1 (by omega)
  repeat rw [tw_g1_ne (by omega)]
  rcases (show k = 0 ∨ k = 1 by omega) with rfl | rfl
  · exact E.2.2.1
  · exact E.2.2.2.1
set_option maxHeartbeats 4000000 in
theorem tw_I9.gate {B : Nat} {g : tw_G} {n m b : Int32} (I : tw_I9 B g) (i : tw_ix (g.2 6) n) (hm : tw_RM m) (h4 : g.2 6 ≤ 4) : tw_I9 B (tw_g1 (tw_g1 g (160 + 64 * tw_DN n + 2 + tw_DN m) b) (480 + 64 * tw_DN n + 8 + tw_DN m) b) := by
  have e := I.eq
  have I0 := I
  obtain ⟨i1, i2, i3, i4, -⟩ := I
  obtain ⟨j, hj, rfl⟩ := i
  rw [show tw_DN (nI j) = j from nI_clamp (by omega)]
  obtain ⟨k, hk, rfl⟩ := hm.k
  rw [show tw_DN (nI k) = k from nI_clamp (by omega)]
  refine ⟨I0.1, I0.2.1, I0.2.2.1, I0.2.2.2.1, I0.2.2.2.2.1, I0.2.2.2.2.2.1, I0.2.2.2.2.2.2.1, I0.2.2.2.2.2.2.2.1, I0.2.2.2.2.2.2.2.2.1, ⟨fun j2 hj2 => ⟨fun hl => ?_, fun hl k2 hk2 => ?_⟩, ?_, I0.et.of (fun j3 hj3 k3 hk3 => ⟨by repeat rw [tw_g1_ne (by omega)], by repeat rw [tw_g1_ne (by omega)]⟩) rfl, I0.i5.of (fun i9 h9 => by have h9 : tw_x5 i9 ∨ 416 ≤ i9 ∧ i9 < 448 := h9; unfold tw_x5 at h9; repeat rw [tw_g1_ne (by omega)]) (fun _ _ => rfl)⟩⟩
  · obtain ⟨b1, b2, b3, b4, b5⟩ := (e j2 hj2).1 hl
    simp only [tw_g1]
    refine ⟨?_, ?_, ?_, ?_, fun k2 hk2 => ⟨?_, ?_⟩⟩
    · repeat' split
      all_goals first | rfl | exact b1 | omega
    · repeat' split
      all_goals first | rfl | exact b2 | omega
    · repeat' split
      all_goals first | rfl | exact b3 | omega
    · repeat' split
      all_goals first | rfl | exact b4 | omega
    · have b5 := (b5 k2 hk2).1
      repeat' split
      all_goals first | rfl | exact b5 | omega
    · have b5 := (b5 k2 hk2).2
      repeat' split
      all_goals first | rfl | exact b5 | omega
  · have b := (e j2 hj2).2 hl k2 hk2
    have hl : g.2 3 ≤ j2 := hl
    repeat rw [tw_g1_ne (by omega)]
    exact b
  · exact I0.ev.of (fun i h1 h2 => by repeat rw [tw_g1_ne (by omega)]) (fun j3 hj3 => ⟨by repeat rw [tw_g1_ne (by omega)], by repeat rw [tw_g1_ne (by omega)]⟩) rfl
theorem tw_V_road {B : Nat} {g : tw_G} {a b dy fr : Int32} (I : tw_I9 B g) (i : (tw_ix (g.2 6) a ∧ tw_ix (g.2 6) b)) (h4 : g.2 6 ≤ 4) : g.1 (160 + 64 * tw_DN a + 8 + tw_DN b) = (tw_g1 (tw_g1 (tw_g1 (tw_g1 g (160 + 64 * tw_DN a + 8 + tw_DN b) dy) (160 + 64 * tw_DN a + 16 + tw_DN b) fr) (160 + 64 * tw_DN b + 8 + tw_DN a) dy) (160 + 64 * tw_DN b + 16 + tw_DN a) fr).1 (416 + 8 * tw_DN a + tw_DN b) := by
  have e := I.eq
  obtain ⟨i1, i2, i3, i4, -⟩ := I
  obtain ⟨⟨j, hj, rfl⟩, ⟨w, hw, rfl⟩⟩ := i
  rw [show tw_DN (nI j) = j from nI_clamp (by omega), show tw_DN (nI w) = w from nI_clamp (by omega)]
  have E := (e j (by omega)).1 (by omega)
  repeat rw [tw_g1_ne (by omega)]
  exact (E.2.2.2.2 w (by omega)).1
theorem tw_g1_ap {g : tw_G} {i j : Nat} {v : Int32} : (tw_g1 g i v).1 j = if j = i then v else g.1 j := rfl
theorem tw_road_c1 {g : tw_G} {a b p q : Nat} {dy fr : Int32} (ha : a < 4) (hb : b < 4) (hp : p < 4) (hq : q < 4) : (tw_g1 (tw_g1 (tw_g1 (tw_g1 (tw_g1 (tw_g1 (tw_g1 (tw_g1 g (160 + 64 * a + 8 + b) dy) (160 + 64 * a + 16 + b) fr) (160 + 64 * b + 8 + a) dy) (160 + 64 * b + 16 + a) fr) (416 + 8 * a + b) dy) (416 + 8 * b + a) dy) (448 + 8 * a + b) fr) (448 + 8 * b + a) fr).1 (160 + 64 * p + 8 + q) = if p = a ∧ q = b ∨ p = b ∧ q = a then dy else g.1 (160 + 64 * p + 8 + q) := by
  rw [tw_g1_ap, tw_g1_ap, tw_g1_ap, tw_g1_ap, tw_g1_ap, tw_g1_ap, tw_g1_ap, tw_g1_ap]
  repeat' split
  all_goals first | rfl | (exfalso; omega)
theorem tw_road_c2 {g : tw_G} {a b p q : Nat} {dy fr : Int32} (ha : a < 4) (hb : b < 4) (hp : p < 4) (hq : q < 4) : (tw_g1 (tw_g1 (tw_g1 (tw_g1 (tw_g1 (tw_g1 (tw_g1 (tw_g1 g (160 + 64 * a + 8 + b) dy) (160 + 64 * a + 16 + b) fr) (160 + 64 * b + 8 + a) dy) (160 + 64 * b + 16 + a) fr) (416 + 8 * a + b) dy) (416 + 8 * b + a) dy) (448 + 8 * a + b) fr) (448 + 8 * b + a) fr).1 (160 + 64 * p + 16 + q) = if p = a ∧ q = b ∨ p = b ∧ q = a then fr else g.1 (160 + 64 * p + 16 + q) := by
  rw [tw_g1_ap, tw_g1_ap, tw_g1_ap, tw_g1_ap, tw_g1_ap, tw_g1_ap, tw_g1_ap, tw_g1_ap]
  repeat' split
  all_goals first | rfl | (exfalso; omega)
theorem tw_road_m1 {g : tw_G} {a b p q : Nat} {dy fr : Int32} (ha : a < 4) (hb : b < 4) (hp : p < 4) (hq : q < 4) : (tw_g1 (tw_g1 (tw_g1 (tw_g1 (tw_g1 (tw_g1 (tw_g1 (tw_g1 g (160 + 64 * a + 8 + b) dy) (160 + 64 * a + 16 + b) fr) (160 + 64 * b + 8 + a) dy) (160 + 64 * b + 16 + a) fr) (416 + 8 * a + b) dy) (416 + 8 * b + a) dy) (448 + 8 * a + b) fr) (448 + 8 * b + a) fr).1 (416 + 8 * p + q) = if p = a ∧ q = b ∨ p = b ∧ q = a then dy else g.1 (416 + 8 * p + q) := by
  rw [tw_g1_ap, tw_g1_ap, tw_g1_ap, tw_g1_ap, tw_g1_ap, tw_g1_ap, tw_g1_ap, tw_g1_ap]
  repeat' split
  all_goals first | rfl | (exfalso; omega)
theorem tw_road_m2 {g : tw_G} {a b p q : Nat} {dy fr : Int32} (ha : a < 4) (hb : b < 4) (hp : p < 4) (hq : q < 4) : (tw_g1 (tw_g1 (tw_g1 (tw_g1 (tw_g1 (tw_g1 (tw_g1 (tw_g1 g (160 + 64 * a + 8 + b) dy) (160 + 64 * a + 16 + b) fr) (160 + 64 * b + 8 + a) dy) (160 + 64 * b + 16 + a) fr) (416 + 8 * a + b) dy) (416 + 8 * b + a) dy) (448 + 8 * a + b) fr) (448 + 8 * b + a) fr).1 (448 + 8 * p + q) = if p = a ∧ q = b ∨ p = b ∧ q = a then fr else g.1 (448 + 8 * p + q) := by
  rw [tw_g1_ap, tw_g1_ap, tw_g1_ap, tw_g1_ap, tw_g1_ap, tw_g1_ap, tw_g1_ap, tw_g1_ap]
  repeat' split
  all_goals first | rfl | (exfalso; omega)
theorem tw_road_n {g : tw_G} {a b i : Nat} {dy fr : Int32} (ha : a < 4) (hb : b < 4) (h : i < 416 ∧ (∀ p, p < 4 → i < 160 + 64 * p + 8 ∨ 160 + 64 * p + 20 ≤ i) ∨ 480 ≤ i) : (tw_g1 (tw_g1 (tw_g1 (tw_g1 (tw_g1 (tw_g1 (tw_g1 (tw_g1 g (160 + 64 * a + 8 + b) dy) (160 + 64 * a + 16 + b) fr) (160 + 64 * b + 8 + a) dy) (160 + 64 * b + 16 + a) fr) (416 + 8 * a + b) dy) (416 + 8 * b + a) dy) (448 + 8 * a + b) fr) (448 + 8 * b + a) fr).1 i = g.1 i := by
  have h1 := fun z : i < 416 ∧ (∀ p, p < 4 → i < 160 + 64 * p + 8 ∨ 160 + 64 * p + 20 ≤ i) => z.2 a ha
  have h2 := fun z : i < 416 ∧ (∀ p, p < 4 → i < 160 + 64 * p + 8 ∨ 160 + 64 * p + 20 ≤ i) => z.2 b hb
  rcases h with h | h
  · have h1 := h1 h
    have h2 := h2 h
    have h3 := h.1
    clear h
    repeat rw [tw_g1_ne (by omega)]
  · repeat rw [tw_g1_ne (by omega)]
theorem tw_I9.road {B : Nat} {g : tw_G} {a b dy fr : Int32} (I : tw_I9 B g) (i : (tw_ix (g.2 6) a ∧ tw_ix (g.2 6) b)) (hR : tw_RD a b dy fr) (h4 : g.2 6 ≤ 4) : tw_I9 B (tw_g1 (tw_g1 (tw_g1 (tw_g1 (tw_g1 (tw_g1 (tw_g1 (tw_g1 g (160 + 64 * tw_DN a + 8 + tw_DN b) dy) (160 + 64 * tw_DN a + 16 + tw_DN b) fr) (160 + 64 * tw_DN b + 8 + tw_DN a) dy) (160 + 64 * tw_DN b + 16 + tw_DN a) fr) (416 + 8 * tw_DN a + tw_DN b) dy) (416 + 8 * tw_DN b + tw_DN a) dy) (448 + 8 * tw_DN a + tw_DN b) fr) (448 + 8 * tw_DN b + tw_DN a) fr) := by
  have e := I.eq
  have I0 := I
  obtain ⟨i1, i2, i3, i4, -⟩ := I
  obtain ⟨⟨j, hj, rfl⟩, ⟨w, hw, rfl⟩⟩ := i
  rw [show tw_DN (nI j) = j from nI_clamp (by omega), show tw_DN (nI w) = w from nI_clamp (by omega)]
  have ha : j < 4 := by omega
  have hb : w < 4 := by omega
  obtain ⟨G, eG⟩ : ∃ z : tw_G, z = tw_g1 (tw_g1 (tw_g1 (tw_g1 (tw_g1 (tw_g1 (tw_g1 (tw_g1 g (160 + 64 * j + 8 + w) dy) (160 + 64 * j + 16 + w) fr) (160 + 64 * w + 8 + j) dy) (160 + 64 * w + 16 + j) fr) (416 + 8 * j + w) dy) (416 + 8 * w + j) dy) (448 + 8 * j + w) fr) (448 + 8 * w + j) fr := ⟨_, rfl⟩
  rw [← eG]
  have c1 : ∀ p q, p < 4 → q < 4 → G.1 (160 + 64 * p + 8 + q) = if p = j ∧ q = w ∨ p = w ∧ q = j then dy else g.1 (160 + 64 * p + 8 + q) := by rw [eG]; exact fun p q hp hq => tw_road_c1 ha hb hp hq
  have c2 : ∀ p q, p < 4 → q < 4 → G.1 (160 + 64 * p + 16 + q) = if p = j ∧ q = w ∨ p = w ∧ q = j then fr else g.1 (160 + 64 * p + 16 + q) := by rw [eG]; exact fun p q hp hq => tw_road_c2 ha hb hp hq
  have m1 : ∀ p q, p < 4 → q < 4 → G.1 (416 + 8 * p + q) = if p = j ∧ q = w ∨ p = w ∧ q = j then dy else g.1 (416 + 8 * p + q) := by rw [eG]; exact fun p q hp hq => tw_road_m1 ha hb hp hq
  have m2 : ∀ p q, p < 4 → q < 4 → G.1 (448 + 8 * p + q) = if p = j ∧ q = w ∨ p = w ∧ q = j then fr else g.1 (448 + 8 * p + q) := by rw [eG]; exact fun p q hp hq => tw_road_m2 ha hb hp hq
  have n : ∀ i, (i < 416 ∧ (∀ p, p < 4 → i < 160 + 64 * p + 8 ∨ 160 + 64 * p + 20 ≤ i) ∨ 480 ≤ i) → G.1 i = g.1 i := by rw [eG]; exact fun i h => tw_road_n ha hb h
  have g2 : G.2 = g.2 := by rw [eG]; rfl
  clear eG
  have E : tw_EQ G := by
    intro j2 hj2
    rw [g2]
    refine ⟨fun hl => ?_, fun hl k2 hk2 => ?_⟩
    · obtain ⟨b1, b2, b3, b4, b5⟩ := (e j2 hj2).1 hl
      refine ⟨?_, ?_, ?_, ?_, fun k2 hk2 => ⟨?_, ?_⟩⟩
      · rw [n _ (Or.inl ⟨by omega, fun p hp => by omega⟩), n _ (Or.inr (by omega))]; exact b1
      · rw [n _ (Or.inl ⟨by omega, fun p hp => by omega⟩), n _ (Or.inr (by omega))]; exact b2
      · rw [n _ (Or.inl ⟨by omega, fun p hp => by omega⟩), n _ (Or.inr (by omega))]; exact b3
      · rw [n _ (Or.inl ⟨by omega, fun p hp => by omega⟩), n _ (Or.inr (by omega))]; exact b4
      · rw [c1 j2 k2 hj2 hk2, m1 j2 k2 hj2 hk2, (b5 k2 hk2).1]
      · rw [c2 j2 k2 hj2 hk2, m2 j2 k2 hj2 hk2, (b5 k2 hk2).2]
    · obtain ⟨b1, b2⟩ := (e j2 hj2).2 hl k2 hk2
      rw [m1 j2 k2 hj2 hk2, m2 j2 k2 hj2 hk2, if_neg (by omega), if_neg (by omega)]
      exact ⟨b1, b2⟩
  have V : tw_EV G := by
    have v := I0.ev
    refine ⟨fun j3 hj3 => ?_, fun a3 b3 ha3 hb3 => ?_⟩
    · rw [g2] at hj3
      rw [n _ (Or.inr (by omega)), n _ (Or.inr (by omega))]
      exact v.1 j3 hj3
    · rw [m2 a3 b3 ha3 hb3, m2 b3 a3 hb3 ha3]
      have v2 := v.2 a3 b3 ha3 hb3
      by_cases q : a3 = j ∧ b3 = w ∨ a3 = w ∧ b3 = j
      · rw [if_pos q, if_pos (by omega)]; exact ⟨hR.2.2, rfl⟩
      · rw [if_neg q, if_neg (by omega)]; exact v2
  have RY5 : tw_RY G := fun a3 b3 ha3 hb3 => by
    rw [m1 a3 b3 ha3 hb3, m1 b3 a3 hb3 ha3]
    by_cases q : a3 = j ∧ b3 = w ∨ a3 = w ∧ b3 = j
    · rw [if_pos q, if_pos (by omega)]
      obtain ⟨n9, l1, l2, e9⟩ := tw_I_rng (a := 1) (b := 30) hR.2.1.1 hR.2.1.2 (by decide) (by decide)
      exact ⟨n9, l1, l2, e9, e9⟩
    · rw [if_neg q, if_neg (by omega)]
      exact I0.i5.2.2.2.2.2.1 a3 b3 ha3 hb3
  unfold tw_I9
  rw [g2]
  exact ⟨I0.1, I0.2.1, I0.2.2.1, I0.2.2.2.1, I0.2.2.2.2.1, I0.2.2.2.2.2.1, I0.2.2.2.2.2.2.1, I0.2.2.2.2.2.2.2.1, I0.2.2.2.2.2.2.2.2.1, E, V, I0.et.of (fun j3 hj3 k3 hk3 => ⟨n _ (Or.inl ⟨by omega, fun p hp => by omega⟩), n _ (Or.inr (by omega))⟩) (by rw [g2]), I0.i5.of0 (fun i9 h9 => by unfold tw_x5 at h9; rcases h9 with h9 | h9; exact n _ (Or.inl ⟨by omega, fun p hp => by omega⟩); exact n _ (Or.inr (by omega))) RY5 (fun i9 _ => by rw [g2])⟩
theorem tw_DNr {a b : Nat} {x : Int32} (h1 : nI a ≤ x) (h2 : x ≤ nI b) (ha : a < 2 ^ 31) (hb : b < 2 ^ 31) : a ≤ tw_DN x ∧ tw_DN x ≤ b ∧ x = nI (tw_DN x) := by
  obtain ⟨n, l1, l2, rfl⟩ := tw_I_rng h1 h2 hb ha
  rw [show tw_DN (nI n) = n from nI_clamp (by omega)]
  exact ⟨l1, l2, rfl⟩
theorem tw_I9.em {B : Nat} {g : tw_G} (I : tw_I9 B g) (h3 : g.2 3 ≤ 4) : tw_EM g := by
  have v := I.ev
  intro j hj
  have r := tw_DNr (a := 100) (b := 200) (v.1 j hj).1.1 (v.1 j hj).1.2 (by decide) (by decide)
  have c := tw_DNr (a := 0) (b := 50) (v.1 j hj).2.1 (v.1 j hj).2.2 (by decide) (by decide)
  refine ⟨r, c.2, fun k hk => ?_⟩
  exact (tw_DNr (a := 0) (b := 100) (v.2 j k (by omega) hk).1.1 (v.2 j k (by omega) hk).1.2 (by decide) (by decide)).2
theorem tw_I9.ec {B : Nat} {g : tw_G} (I : tw_I9 B g) (h4 : g.2 6 ≤ 4) : tw_EC g := by
  have e := I.eq
  have h63 : g.2 6 = g.2 3 := I.2.2.2.1.trans I.1
  have m := I.em (by omega)
  intro j hj
  have m := m j (by omega)
  obtain ⟨e1, e2, -, -, e5⟩ := (e j (by omega)).1 (by omega)
  rw [e1, e2]
  exact ⟨m.1, m.2.1, fun k hk => by rw [(e5 k hk).2]; exact m.2.2 k hk⟩
theorem tw_I9.tt {B : Nat} {g : tw_G} {a b k n : Nat} (I : tw_I9 B g) (h4 : g.2 6 ≤ 4) (ha : a < g.2 6) (hb : b < g.2 6) : tw_tC g a b k n = tw_tM g a b k n := by
  have e := I.eq
  have h63 : g.2 6 = g.2 3 := I.2.2.2.1.trans I.1
  obtain ⟨a1, a2, -, -, a5⟩ := (e a (by omega)).1 (by omega)
  obtain ⟨b1, b2, -, -, -⟩ := (e b (by omega)).1 (by omega)
  unfold tw_tC tw_tM
  rw [a1, a2, b1, b2, (a5 b (by omega)).2, (I.ev.2 b a (by omega) (by omega)).2]
theorem tw_V_trip {B : Nat} {g : tw_G} {a b m gr : Int32} (I : tw_I9 B g) (i : tw_ix (g.2 6) a ∧ tw_ix (g.2 6) b) (h4 : g.2 6 ≤ 4) : nI (tw_tC g (tw_DN a) (tw_DN b) (tw_DN m) (tw_DN gr)) = nI (tw_tM g (tw_DN a) (tw_DN b) (tw_DN m) (tw_DN gr)) := by
  obtain ⟨⟨j, hj, rfl⟩, ⟨w, hw, rfl⟩⟩ := i
  rw [show tw_DN (nI j) = j from nI_clamp (by omega), show tw_DN (nI w) = w from nI_clamp (by omega), I.tt h4 hj hw]
theorem tw_I9.bb {B : Nat} {g : tw_G} {a k n j : Nat} (I : tw_I9 B g) (h4 : g.2 6 ≤ 4) (ha : a < g.2 6) (hj : j ≤ g.2 6) : tw_bC g a k n j = tw_bM g a k n j := tw_bs_congr j (fun i hi => I.tt h4 ha (by omega))
theorem tw_V_bestTrip {B : Nat} {g : tw_G} {n m gr : Int32} (I : tw_I9 B g) (i : tw_ix (g.2 6) n) (h4 : g.2 6 ≤ 4) : tw_bno (tw_bC g (tw_DN n) (tw_DN m) (tw_DN gr) (g.2 6)).1 = tw_bno (tw_bM g (tw_DN n) (tw_DN m) (tw_DN gr) (g.2 3)).1 := by
  obtain ⟨j, hj, rfl⟩ := i
  have h63 : g.2 6 = g.2 3 := I.2.2.2.1.trans I.1
  rw [show tw_DN (nI j) = j from nI_clamp (by omega), I.bb h4 hj (Nat.le_refl _), h63]
theorem tw_V_rest {B : Nat} {g : tw_G} {gr : Int32} (I : tw_I9 B g) (h4 : g.2 6 ≤ 4) : tw_rbi (tw_rC g (tw_DN gr) (g.2 6)) = tw_rbi (tw_rM g (tw_DN gr) (g.2 3)) := by
  have h63 : g.2 6 = g.2 3 := I.2.2.2.1.trans I.1
  unfold tw_rC tw_rM
  rw [← h63]
  exact congrArg tw_rbi (tw_rb_congr _ (fun i hi k _ => by rw [I.bb h4 hi (Nat.le_refl _)]))
theorem tw_ix_DN {m : Nat} {n : Int32} (i : tw_ix m n) (h : m ≤ 10) : tw_DN n < m := by
  obtain ⟨j, hj, rfl⟩ := i
  rw [show tw_DN (nI j) = j from nI_clamp (by omega)]
  exact hj
theorem tw_I9.tc {B : Nat} {g : tw_G} (I : tw_I9 B g) (h4 : g.2 6 ≤ 4) : tw_TC g := fun j hj k hk => by
  have h63 : g.2 6 = g.2 3 := I.2.2.2.1.trans I.1
  have e := I.et j (by omega) k hk
  rw [e.1]
  exact e.2
theorem tw_I9.ch {B : Nat} {g : tw_G} {n am : Int32} (I : tw_I9 B g) (i : tw_ix (g.2 6) n) (h4 : g.2 6 ≤ 4) : tw_chC g n am = tw_chM g n am := by
  have h63 : g.2 6 = g.2 3 := I.2.2.2.1.trans I.1
  have l := tw_ix_DN i (by omega)
  unfold tw_chC tw_chM
  rw [tw_tl_congr (g := g) (g' := g) (a := 160 + 64 * tw_DN n + 32) (b := 480 + 64 * tw_DN n + 24) (fun k hk => (I.et _ (by omega) k hk).1)]
theorem tw_gT_1 {g : tw_G} {b i : Nat} {F : tw_F} (h : i < b ∨ b + 5 ≤ i) : (tw_gT g b F).1 i = g.1 i := if_neg (by omega)
theorem tw_chM_L {g : tw_G} {a : Nat} {F : tw_F} {n am : Int32} (ha : a < 4) : tw_chM (tw_gT g (160 + 64 * a + 32) F) n am = tw_chM g n am := by
  unfold tw_chM
  rw [tw_tl_congr (g := tw_gT g (160 + 64 * a + 32) F) (g' := g) (a := 480 + 64 * tw_DN n + 24) (b := 480 + 64 * tw_DN n + 24) (fun k hk => tw_gT_1 (by omega))]
theorem tw_V_coins {B : Nat} {g : tw_G} {n am : Int32} (I : tw_I9 B g) (i : tw_ix (g.2 6) n) (h4 : g.2 6 ≤ 4) : tw_cd (tw_chC g n am) = tw_cd (tw_chM g n am) := by rw [I.ch i h4]
theorem tw_V_give {B : Nat} {g : tw_G} {n am : Int32} (I : tw_I9 B g) (i : tw_ix (g.2 6) n) (h4 : g.2 6 ≤ 4) : nI (tw_sum5 (tw_gF (tw_chC g n am))) = nI (tw_sum5 (tw_gF (tw_chM (tw_gT g (160 + 64 * tw_DN n + 32) (tw_gF (tw_chC g n am))) n am))) := by
  rw [tw_chM_L (Nat.lt_of_lt_of_le (tw_ix_DN i (by omega)) h4), I.ch i h4]
theorem tw_V_till {B : Nat} {g : tw_G} {n kd my : Int32} (I : tw_I9 B g) (i : (tw_ix (g.2 6) n ∧ tw_ix 5 kd)) (h4 : g.2 6 ≤ 4) : g.1 (160 + 64 * tw_DN n + 32 + tw_DN kd) = (tw_g1 g (160 + 64 * tw_DN n + 32 + tw_DN kd) my).1 (480 + 64 * tw_DN n + 24 + tw_DN kd) := by
  have h63 : g.2 6 = g.2 3 := I.2.2.2.1.trans I.1
  have l := tw_ix_DN i.1 (by omega)
  have k := tw_ix_DN i.2 (by omega)
  rw [tw_g1_ne (by omega)]
  exact (I.et _ (by omega) _ k).1
theorem tw_I9.till {B : Nat} {g : tw_G} {n kd my : Int32} (I : tw_I9 B g) (i : (tw_ix (g.2 6) n ∧ tw_ix 5 kd)) (hR : tw_R9 my) (h4 : g.2 6 ≤ 4) : tw_I9 B (tw_g1 (tw_g1 g (160 + 64 * tw_DN n + 32 + tw_DN kd) my) (480 + 64 * tw_DN n + 24 + tw_DN kd) my) := by
  have h63 : g.2 6 = g.2 3 := I.2.2.2.1.trans I.1
  have l := tw_ix_DN i.1 (by omega)
  have k := tw_ix_DN i.2 (by omega)
  obtain ⟨a, ea⟩ : ∃ z, z = tw_DN n := ⟨_, rfl⟩
  obtain ⟨b, eb⟩ : ∃ z, z = tw_DN kd := ⟨_, rfl⟩
  rw [← ea] at l ⊢
  rw [← eb] at k ⊢
  refine ⟨I.1, I.2.1, I.2.2.1, I.2.2.2.1, I.2.2.2.2.1, I.2.2.2.2.2.1, I.2.2.2.2.2.2.1, I.2.2.2.2.2.2.2.1, I.2.2.2.2.2.2.2.2.1, fun j2 hj2 => ⟨fun hl => ?_, fun hl k2 hk2 => ?_⟩, I.ev.of (fun i9 h1 h2 => by repeat rw [tw_g1_ne (by omega)]) (fun j3 hj3 => ⟨by repeat rw [tw_g1_ne (by omega)], by repeat rw [tw_g1_ne (by omega)]⟩) rfl, fun j3 hj3 k3 hk3 => ?_, I.i5.of (fun i9 h9 => by have h9 : tw_x5 i9 ∨ 416 ≤ i9 ∧ i9 < 448 := h9; unfold tw_x5 at h9; repeat rw [tw_g1_ne (by omega)]) (fun _ _ => rfl)⟩
  · obtain ⟨b1, b2, b3, b4, b5⟩ := (I.eq j2 hj2).1 hl
    have hl : j2 < g.2 3 := hl
    refine ⟨?_, ?_, ?_, ?_, fun k2 hk2 => ⟨?_, ?_⟩⟩
    · repeat rw [tw_g1_ne (by omega)]
      exact b1
    · repeat rw [tw_g1_ne (by omega)]
      exact b2
    · repeat rw [tw_g1_ne (by omega)]
      exact b3
    · repeat rw [tw_g1_ne (by omega)]
      exact b4
    · repeat rw [tw_g1_ne (by omega)]
      exact (b5 k2 hk2).1
    · repeat rw [tw_g1_ne (by omega)]
      exact (b5 k2 hk2).2
  · have b := (I.eq j2 hj2).2 hl k2 hk2
    have hl : g.2 3 ≤ j2 := hl
    repeat rw [tw_g1_ne (by omega)]
    exact b
  · have hj3 : j3 < g.2 3 := hj3
    have e := I.et j3 hj3 k3 hk3
    by_cases q : j3 = a ∧ k3 = b
    · obtain ⟨rfl, rfl⟩ := q
      rw [tw_g1_ne (i := 480 + 64 * j3 + 24 + k3) (by omega), tw_g1_eq, tw_g1_eq]
      exact ⟨rfl, hR⟩
    · repeat rw [tw_g1_ne (by omega)]
      exact e
theorem tw_I9.give {B : Nat} {g : tw_G} {n am : Int32} (I : tw_I9 B g) (i : tw_ix (g.2 6) n) (hR : tw_RA am) (h4 : g.2 6 ≤ 4) : tw_I9 B (tw_gT (tw_gT g (160 + 64 * tw_DN n + 32) (tw_gF (tw_chC g n am))) (480 + 64 * tw_DN n + 24) (tw_gF (tw_chM (tw_gT g (160 + 64 * tw_DN n + 32) (tw_gF (tw_chC g n am))) n am))) := by
  have h63 : g.2 6 = g.2 3 := I.2.2.2.1.trans I.1
  have l := tw_ix_DN i (by omega)
  rw [tw_chM_L (by omega), ← I.ch i h4]
  have gl : ∀ k, tw_gF (tw_chC g n am) k ≤ tw_tl g (160 + 64 * tw_DN n + 32) k := by
    cases z : tw_chC g n am with
    | none => exact fun k => Nat.zero_le _
    | some F => exact (tw_ch_0 _ _ _ z).2
  obtain ⟨F, eF⟩ : ∃ z, z = tw_gF (tw_chC g n am) := ⟨_, rfl⟩
  rw [← eF] at gl ⊢
  obtain ⟨a, ea⟩ : ∃ z, z = tw_DN n := ⟨_, rfl⟩
  rw [← ea] at l gl ⊢
  have N : ∀ i9, (i9 < 160 + 64 * a + 32 ∨ 160 + 64 * a + 37 ≤ i9) → (i9 < 480 + 64 * a + 24 ∨ 480 + 64 * a + 29 ≤ i9) → (tw_gT (tw_gT g (160 + 64 * a + 32) F) (480 + 64 * a + 24) F).1 i9 = g.1 i9 := fun i9 h1 h2 => (tw_gT_1 (by omega)).trans (tw_gT_1 (by omega))
  obtain ⟨G, eG⟩ : ∃ z : tw_G, z = tw_gT (tw_gT g (160 + 64 * a + 32) F) (480 + 64 * a + 24) F := ⟨_, rfl⟩
  have T1 : ∀ k, k < 5 → G.1 (160 + 64 * a + 32 + k) = g.1 (160 + 64 * a + 32 + k) - nI (F k) := fun k hk => by
    rw [eG, tw_gT_1 (by omega)]
    show (if _ then _ else _) = _
    rw [if_pos (by omega), show 160 + 64 * a + 32 + k - (160 + 64 * a + 32) = k by omega]
  have T2 : ∀ k, k < 5 → G.1 (480 + 64 * a + 24 + k) = g.1 (480 + 64 * a + 24 + k) - nI (F k) := fun k hk => by
    rw [eG]
    show (if _ then (tw_gT g (160 + 64 * a + 32) F).1 _ - _ else _) = _
    rw [if_pos (by omega), tw_gT_1 (by omega), show 480 + 64 * a + 24 + k - (480 + 64 * a + 24) = k by omega]
  have G2 : G.2 = g.2 := by rw [eG]; rfl
  rw [← eG] at N ⊢
  clear eG
  unfold tw_I9
  rw [G2]
  refine ⟨I.1, I.2.1, I.2.2.1, I.2.2.2.1, I.2.2.2.2.1, I.2.2.2.2.2.1, I.2.2.2.2.2.2.1, I.2.2.2.2.2.2.2.1, I.2.2.2.2.2.2.2.2.1, fun j2 hj2 => ⟨fun hl => ?_, fun hl k2 hk2 => ?_⟩, I.ev.of (fun i9 h1 h2 => N _ (by omega) (by omega)) (fun j3 hj3 => ⟨N _ (by omega) (by omega), N _ (by omega) (by omega)⟩) (by rw [G2]), fun j3 hj3 k3 hk3 => ?_, I.i5.of (fun i9 h9 => N _ (by unfold tw_x5 at h9; omega) (by unfold tw_x5 at h9; omega)) (fun i9 _ => by rw [G2])⟩
  · rw [G2] at hl
    obtain ⟨b1, b2, b3, b4, b5⟩ := (I.eq j2 hj2).1 hl
    refine ⟨?_, ?_, ?_, ?_, fun k2 hk2 => ⟨?_, ?_⟩⟩
    · rw [N _ (by omega) (by omega), N (480 + 64 * j2) (by omega) (by omega)]; exact b1
    · rw [N _ (by omega) (by omega), N (480 + 64 * j2 + 1) (by omega) (by omega)]; exact b2
    · rw [N _ (by omega) (by omega), N (480 + 64 * j2 + 8) (by omega) (by omega)]; exact b3
    · rw [N _ (by omega) (by omega), N (480 + 64 * j2 + 9) (by omega) (by omega)]; exact b4
    · rw [N _ (by omega) (by omega), N (416 + 8 * j2 + k2) (by omega) (by omega)]; exact (b5 k2 hk2).1
    · rw [N _ (by omega) (by omega), N (448 + 8 * j2 + k2) (by omega) (by omega)]; exact (b5 k2 hk2).2
  · rw [G2] at hl
    have b := (I.eq j2 hj2).2 hl k2 hk2
    rw [N _ (by omega) (by omega), N (448 + 8 * j2 + k2) (by omega) (by omega)]
    exact b
  · rw [G2] at hj3
    have e := I.et j3 hj3 k3 hk3
    by_cases q : j3 = a
    · subst q
      rw [T1 k3 hk3, T2 k3 hk3, e.1]
      have u : ∀ k, k < 5 → 0 ≤ g.1 (160 + 64 * j3 + 32 + k) ∧ g.1 (160 + 64 * j3 + 32 + k) ≤ 9 := fun k hk => by
        have e9 := I.et j3 hj3 k hk
        rw [e9.1]
        exact e9.2
      have z := tw_tsub u k3 hk3 gl
      rw [e.1] at z
      exact ⟨rfl, z⟩
    · rw [N _ (by omega) (by omega), N (480 + 64 * j3 + 24 + k3) (by omega) (by omega)]
      exact e
theorem tw_EQ.of3 {g g1 : tw_G} (e : tw_EQ g) (h1 : ∀ i, 128 ≤ i → i < 768 → g1.1 i = g.1 i) (b3 : g.2 3 ≤ 4) (h3 : g1.2 3 = g.2 3) : tw_EQ g1 := by
  intro j hj
  rw [h3]
  refine ⟨fun hl => ?_, fun hl k hk => ?_⟩
  · obtain ⟨e1, e2, e3, e4, e5⟩ := (e j hj).1 hl
    rw [h1 (160 + 64 * j) (by omega) (by omega), h1 (480 + 64 * j) (by omega) (by omega), h1 (160 + 64 * j + 1) (by omega) (by omega), h1 (480 + 64 * j + 1) (by omega) (by omega), h1 (160 + 64 * j + 2) (by omega) (by omega), h1 (480 + 64 * j + 8) (by omega) (by omega), h1 (160 + 64 * j + 3) (by omega) (by omega), h1 (480 + 64 * j + 9) (by omega) (by omega)]
    refine ⟨e1, e2, e3, e4, fun k hk => ?_⟩
    rw [h1 (160 + 64 * j + 8 + k) (by omega) (by omega), h1 (416 + 8 * j + k) (by omega) (by omega), h1 (160 + 64 * j + 16 + k) (by omega) (by omega), h1 (448 + 8 * j + k) (by omega) (by omega)]
    exact e5 k hk
  · rw [h1 (416 + 8 * j + k) (by omega) (by omega), h1 (448 + 8 * j + k) (by omega) (by omega)]
    exact (e j hj).2 hl k hk
theorem tw_dn {j : Nat} (h : j < 2 ^ 31) : tw_DN (nI j) = j := nI_clamp h
theorem tw_I9.c6 {B : Nat} {g : tw_G} (I : tw_I9 B g) : g.2 6 = g.2 3 := I.2.2.2.1.trans I.1
theorem tw_I9.c7 {B : Nat} {g : tw_G} (I : tw_I9 B g) : g.2 7 = g.2 4 := I.2.2.2.2.1.trans I.2.1
theorem tw_I9.c8 {B : Nat} {g : tw_G} (I : tw_I9 B g) : g.2 8 = g.2 5 := I.2.2.2.2.2.1.trans I.2.2.1
theorem tw_I9.ct {B : Nat} {g : tw_G} (I : tw_I9 B g) : g.2 21 = g.2 22 := I.2.2.2.2.2.2.1
theorem tw_I9.bd {B : Nat} {g : tw_G} (I : tw_I9 B g) : tw_BD g := I.i5.2.2.2.2.2.2.2
theorem tw_I9.fr {B : Nat} {g : tw_G} (I : tw_I9 B g) : tw_FR g := I.i5.2.2.2.2.2.2.1
theorem tw_I9.am {B : Nat} {g : tw_G} (I : tw_I9 B g) : tw_AM B g := I.i5.2.1
theorem tw_I9.am5 {B : Nat} {g : tw_G} (I : tw_I9 B g) (h : B ≤ 59000000) : tw_AM 59000000 g := I.am.mono h
theorem tw_I9.em5 {B : Nat} {g : tw_G} (I : tw_I9 B g) : tw_EM g := I.em I.bd.1
theorem tw_I9.ch5 {B : Nat} {g : tw_G} (I : tw_I9 B g) (h : B ≤ 59000000) : tw_CH g := I.i5.ch (I.ec (by rw [I.c6]; exact I.bd.1)) h I.c6 I.c7 I.c8
theorem tw_I9.mono {B C : Nat} {g : tw_G} (I : tw_I9 B g) (h : B ≤ C) : tw_I9 C g := by
  obtain ⟨a1, a2, a3, a4, a5, a6, a7, a8, a9, a10, a11, a12, i⟩ := I
  exact ⟨a1, a2, a3, a4, a5, a6, a7, a8, a9, a10, a11, a12, i.mono h⟩
theorem tw_I9.re5 {B C : Nat} {g g9 : tw_G} (I : tw_I9 B g) (n : ∀ i, 128 ≤ i → ¬ tw_x5 i → g9.1 i = g.1 i) (c2 : ∀ i, i ≠ 21 → i ≠ 22 → g9.2 i = g.2 i) (ct : g9.2 21 = g9.2 22) (J : tw_I5 C g9) : tw_I9 C g9 := by
  have b3 := I.bd.1
  obtain ⟨a1, a2, a3, a4, a5, a6, -, a8, a9, eq, ev, et, -⟩ := I
  unfold tw_I9
  rw [c2 0 (by decide) (by decide), c2 1 (by decide) (by decide), c2 2 (by decide) (by decide), c2 3 (by decide) (by decide), c2 4 (by decide) (by decide), c2 5 (by decide) (by decide), c2 6 (by decide) (by decide), c2 7 (by decide) (by decide), c2 8 (by decide) (by decide), c2 9 (by decide) (by decide), c2 24 (by decide) (by decide)]
  have m : ∀ i, 128 ≤ i → i < 768 → (i < 416 → i % 64 ≠ 56 ∧ i % 64 ≠ 57) → (480 ≤ i → i % 64 ≠ 48 ∧ i % 64 ≠ 49) → g9.1 i = g.1 i := fun i h1 h2 h3 h4 => n i h1 (fun z => by have z := z.n; omega)
  refine ⟨a1, a2, a3, a4, a5, a6, ct, a8, a9, fun j hj => ?_, ev.of (fun i h1 h2 => m i (by omega) (by omega) (by omega) (by omega)) (fun j hj => ⟨m _ (by omega) (by omega) (by omega) (by omega), m _ (by omega) (by omega) (by omega) (by omega)⟩) (c2 3 (by decide) (by decide)), et.of (fun j hj k hk => ⟨m _ (by omega) (by omega) (by omega) (by omega), m _ (by omega) (by omega) (by omega) (by omega)⟩) (c2 3 (by decide) (by decide)), J⟩
  rw [c2 3 (by decide) (by decide)]
  refine ⟨fun hl => ?_, fun hl k hk => ?_⟩
  · obtain ⟨e1, e2, e3, e4, e5⟩ := (eq j hj).1 hl
    rw [m (160 + 64 * j) (by omega) (by omega) (by omega) (by omega), m (480 + 64 * j) (by omega) (by omega) (by omega) (by omega), m (160 + 64 * j + 1) (by omega) (by omega) (by omega) (by omega), m (480 + 64 * j + 1) (by omega) (by omega) (by omega) (by omega), m (160 + 64 * j + 2) (by omega) (by omega) (by omega) (by omega), m (480 + 64 * j + 8) (by omega) (by omega) (by omega) (by omega), m (160 + 64 * j + 3) (by omega) (by omega) (by omega) (by omega), m (480 + 64 * j + 9) (by omega) (by omega) (by omega) (by omega)]
    refine ⟨e1, e2, e3, e4, fun k hk => ?_⟩
    rw [m (160 + 64 * j + 8 + k) (by omega) (by omega) (by omega) (by omega), m (416 + 8 * j + k) (by omega) (by omega) (by omega) (by omega), m (160 + 64 * j + 16 + k) (by omega) (by omega) (by omega) (by omega), m (448 + 8 * j + k) (by omega) (by omega) (by omega) (by omega)]
    exact e5 k hk
  · rw [m (416 + 8 * j + k) (by omega) (by omega) (by omega) (by omega), m (448 + 8 * j + k) (by omega) (by omega) (by omega) (by omega)]
    exact (eq j hj).2 hl k hk
/-! what class and reference see is the same -/
theorem tw_I9.ev2 {B : Nat} {g : tw_G} (I : tw_I9 B g) {j k : Nat} (hj : j < 4) (hk : k < 2) : g.1 (160 + 64 * j + 24 + k) = nI (tw_DN (g.1 (480 + 64 * j + 16 + k))) ∧ tw_DN (g.1 (480 + 64 * j + 16 + k)) ≤ B := by
  have z := I.am.v hj hk
  exact ⟨(I.i5.1 _ _ (tw_pr.v hj hk)).trans z.1, z.2⟩
theorem tw_I9.ep2 {B : Nat} {g : tw_G} (I : tw_I9 B g) {j k : Nat} (hj : j < 6) (hk : k < 2) : g.1 (768 + 32 * j + 8 + k) = nI (tw_DN (g.1 (960 + 32 * j + 8 + k))) ∧ tw_DN (g.1 (960 + 32 * j + 8 + k)) ≤ B := by
  have z := I.am.p hj hk
  exact ⟨(I.i5.1 _ _ (by unfold tw_pr; omega)).trans z.1, z.2⟩
theorem tw_I9.pe {B : Nat} {g : tw_G} (I : tw_I9 B g) {a c : Nat} (ha : a < 6) (hc : c < 8) : g.1 (768 + 32 * a + c) = g.1 (960 + 32 * a + c) := I.i5.1 _ _ (tw_pr.h ha (by omega))
theorem tw_I9.de {B : Nat} {g : tw_G} (I : tw_I9 B g) {a c : Nat} (ha : a < 10) (hc : c < 8) : g.1 (1152 + 8 * a + c) = g.1 (1232 + 8 * a + c) := I.i5.1 _ _ (tw_pr.d ha hc)
theorem tw_I9.mP {B : Nat} {g gL : tw_G} (I : tw_I9 B g) (s : tw_sc g gL) {a : Nat} (ha : a < 6) : tw_mP gL a = tw_cP g a := by
  unfold tw_mP tw_cP
  rw [s _ (by omega), I.pe ha (by decide)]
theorem tw_I9.pl {B : Nat} {g : tw_G} (I : tw_I9 B g) {a : Nat} (ha : a < g.2 4) (n : g.1 (768 + 32 * a + 1) ≠ -1) : tw_cP g a < g.2 3 := by
  obtain ⟨b3, b4, -⟩ := I.bd
  have e := I.pe (a := a) (c := 1) (by omega) (by decide)
  rcases I.i5.2.2.1 a ha with ⟨⟨i, hi, h⟩, -⟩ | ⟨h, -⟩
  · unfold tw_cP
    rw [e, h, tw_dn (by omega)]
    exact hi
  · exact absurd (e.trans h) n
theorem tw_I9.rt {B : Nat} {g gL : tw_G} (I : tw_I9 B g) (s : tw_sc g gL) {p : Nat} (hp : p < g.2 3) : gL.1 (480 + 64 * p) = g.1 (160 + 64 * p) ∧ gL.1 (480 + 64 * p + 1) = g.1 (160 + 64 * p + 1) ∧ (∀ k, k < 2 → gL.1 (480 + 64 * p + 8 + k) = g.1 (160 + 64 * p + 2 + k)) ∧ ∀ k, k < 4 → gL.1 (416 + 8 * p + k) = g.1 (160 + 64 * p + 8 + k) ∧ gL.1 (448 + 8 * p + k) = g.1 (160 + 64 * p + 16 + k) := by
  have b3 := I.bd.1
  obtain ⟨e1, e2, e3, e4, e5⟩ := (I.eq p (by omega)).1 hp
  rw [s _ (by omega), s _ (by omega)]
  refine ⟨e1.symm, e2.symm, fun k hk => ?_, fun k hk => ?_⟩
  · rw [s _ (by omega)]
    rcases (show k = 0 ∨ k = 1 by omega) with rfl | rfl
    · exact e3.symm
    · exact e4.symm
  · rw [s _ (by omega), s _ (by omega)]
    exact ⟨(e5 k hk).1.symm, (e5 k hk).2.symm⟩
theorem tw_I9.mg {B : Nat} {g gL : tw_G} (I : tw_I9 B g) (s : tw_sc g gL) {a k n : Nat} (ha : a < 6) (hp : tw_cP g a < g.2 3) : tw_mg gL a k n = tw_cg g a k n := by
  obtain ⟨e1, e2, -⟩ := I.rt s hp
  unfold tw_mg tw_cg
  rw [I.mP s ha, e1, e2]
theorem tw_I9.cgb {B : Nat} {g : tw_G} (I : tw_I9 B g) {a k n : Nat} (hp : tw_cP g a < g.2 3) : tw_cg g a k n ≤ 20 * n := by
  obtain ⟨e1, -⟩ := I.rt tw_sc.rf hp
  have m := (I.em5 _ hp).1
  unfold tw_cg
  refine tw_gv_le ?_ ?_
  · rw [← e1]
    exact m.1
  · rw [← e1]
    exact m.2.1
theorem tw_I9.mf {B : Nat} {g gL : tw_G} (I : tw_I9 B g) (s : tw_sc g gL) {a w k : Nat} (ha : a < 6) (hw : w < 4) (hk : k < 2) (hp : tw_cP g a < g.2 3) : tw_mf gL a w k = tw_fr g a w k := by
  obtain ⟨-, -, -, e⟩ := I.rt s hp
  unfold tw_mf tw_fr
  rw [I.mP s ha, (e w hw).2, s _ (by omega), I.i5.1 (768 + 32 * a + 8 + k) (960 + 32 * a + 8 + k) (by unfold tw_pr; omega)]
theorem tw_I9.frb {B : Nat} {g : tw_G} (I : tw_I9 B g) {a w k : Nat} (ha : a < 6) (hw : w < g.2 3) (hk : k < 2) (hp : tw_cP g a < g.2 3) : tw_fr g a w k ≤ tw_DN (g.1 (960 + 32 * a + 8 + k)) := by
  have b3 := I.bd.1
  obtain ⟨-, -, -, e⟩ := I.rt tw_sc.rf hp
  have m := ((I.em5 _ hp).2.2 w (by omega)).1
  rw [(e w (by omega)).2] at m
  unfold tw_fr
  rw [I.i5.1 (768 + 32 * a + 8 + k) (960 + 32 * a + 8 + k) (by unfold tw_pr; omega)]
  exact tw_up3_le (by omega)
theorem tw_I9.mD {B : Nat} {g gL : tw_G} (I : tw_I9 B g) (s : tw_sc g gL) (c22 : gL.2 22 = g.2 22) {a w : Nat} (ha : a < 6) (hw : w < 4) (hp : tw_cP g a < g.2 3) : tw_mD gL a w = tw_sD g a w := by
  obtain ⟨-, -, -, e⟩ := I.rt s hp
  unfold tw_mD tw_sD
  rw [I.mP s ha, (e w hw).1, c22, I.ct]
theorem tw_I9.sD {B : Nat} {g : tw_G} (I : tw_I9 B g) {a w : Nat} (hw : w < 4) (hp : tw_cP g a < g.2 3) : ∃ t, g.2 22 < t ∧ t ≤ 4000 ∧ tw_sD g a w = nI t := by
  obtain ⟨b3, b4, b5, b22⟩ := I.bd
  obtain ⟨-, -, -, e⟩ := I.rt tw_sc.rf hp
  obtain ⟨n, n1, n2, en, -⟩ := I.i5.2.2.2.2.2.1 (tw_cP g a) w (by omega) hw
  refine ⟨g.2 22 + n, by omega, by omega, ?_⟩
  unfold tw_sD
  rw [← (e w hw).1, en, I.ct]
  exact tw_niadd
theorem tw_I9.deb {B : Nat} {g : tw_G} (I : tw_I9 B g) {a : Nat} (ha : a < g.2 5) : ∃ x y, x < g.2 4 ∧ y < g.2 4 ∧ x ≠ y ∧ tw_dF g a = x ∧ tw_dT g a = y ∧ tw_eF g a = x ∧ tw_eT g a = y := by
  obtain ⟨b3, b4, b5, b22⟩ := I.bd
  obtain ⟨-, -, x, y, hx, hy, n, ex, ey⟩ := I.i5.2.2.2.1 a ha
  refine ⟨x, y, hx, hy, n, ?_, ?_, ?_, ?_⟩
  · unfold tw_dF
    rw [I.de (by omega) (by decide), ex, tw_dn (by omega)]
  · unfold tw_dT
    rw [I.de (by omega) (by decide), ey, tw_dn (by omega)]
  · unfold tw_eF
    rw [ex, tw_dn (by omega)]
  · unfold tw_eT
    rw [ey, tw_dn (by omega)]
theorem tw_I9.eFT {B : Nat} {g gL : tw_G} (I : tw_I9 B g) (s : tw_sc g gL) {a : Nat} (ha : a < g.2 5) : tw_eF gL a = tw_dF g a ∧ tw_eT gL a = tw_dT g a := by
  obtain ⟨b3, b4, b5, b22⟩ := I.bd
  unfold tw_eF tw_eT tw_dF tw_dT
  rw [s _ (by omega), s _ (by omega), I.de (by omega) (by decide), I.de (by omega) (by decide)]
  exact ⟨rfl, rfl⟩
theorem tw_I9.ms {B : Nat} {g gL : tw_G} (I : tw_I9 B g) (s : tw_sc g gL) (c22 : gL.2 22 = g.2 22) {a k : Nat} (ha : a < g.2 5) (hx : tw_dF g a < 6) (hp : tw_cP g (tw_dF g a) < g.2 3) : tw_ms gL a k = tw_sg g a k := by
  obtain ⟨b3, b4, b5, b22⟩ := I.bd
  obtain ⟨e1, -⟩ := I.rt s hp
  have d : tw_md gL a = tw_sd g a := by
    unfold tw_md tw_sd
    rw [s _ (by omega), s _ (by omega), c22, I.ct, I.de (by omega) (by decide), I.de (by omega) (by decide)]
  unfold tw_ms tw_sg
  rw [(I.eFT s ha).1, d, I.mP s hx, e1]
theorem tw_I9.sgb {B : Nat} {g : tw_G} (I : tw_I9 B g) {a k : Nat} (ha : a < g.2 5) (hx : tw_dF g a < 6) (hp : tw_cP g (tw_dF g a) < g.2 3) : tw_sg g a k ≤ 40000 := by
  obtain ⟨b3, b4, b5, b22⟩ := I.bd
  rw [← I.ms tw_sc.rf rfl ha hx hp]
  refine tw_ms_le I.i5.mh ha b22 ?_
  rw [(I.eFT tw_sc.rf ha).1, I.mP tw_sc.rf hx]
  exact (I.em5 _ hp).1.1
theorem tw_nle2 {x : Int32} {A n : Nat} (e : x = nI A) (hA : A < 2 ^ 31) (hn : n < 2 ^ 31) : nI n ≤ x ↔ n ≤ A := by
  rw [e]
  exact tw_nIle hn hA
/-! mine, use -/
theorem tw_Q_mine {B : Nat} {g gL : tw_G} {a m gr : Int32} (I : tw_I9 B g) (s : tw_sc g gL) (hB : B ≤ 59000000) (i : tw_ix (g.2 6) a) (r : tw_RG1 m gr) : g.1 (160 + 64 * tw_DN a + 24 + tw_DN m) ≤ 999999 - gr ↔ tw_DN (gL.1 (480 + 64 * tw_DN a + 16 + tw_DN m)) + tw_DN gr ≤ 999999 := by
  obtain ⟨b3, -⟩ := I.bd
  have c6 := I.c6
  obtain ⟨j, hj, rfl⟩ := i
  obtain ⟨k, hk, rfl⟩ := r.1.k
  obtain ⟨n, n1, n2, rfl⟩ := tw_gr1 r.2
  rw [tw_dn (j := j) (by omega), tw_dn (j := k) (by omega), tw_dn (j := n) (by omega), s _ (by omega)]
  obtain ⟨e, l⟩ := I.ev2 (j := j) (k := k) (by omega) hk
  rw [e, show (999999 : Int32) = nI 999999 from rfl, tw_I_sub (by omega) (by omega), tw_nIle (by omega) (by omega)]
  omega
theorem tw_Q_use {B : Nat} {g gL : tw_G} {a m gr : Int32} (I : tw_I9 B g) (s : tw_sc g gL) (hB : B ≤ 59000000) (i : tw_ix (g.2 6) a) (r : tw_RG1 m gr) : gr ≤ g.1 (160 + 64 * tw_DN a + 24 + tw_DN m) ↔ tw_DN gr ≤ tw_DN (gL.1 (480 + 64 * tw_DN a + 16 + tw_DN m)) := by
  obtain ⟨b3, -⟩ := I.bd
  have c6 := I.c6
  obtain ⟨j, hj, rfl⟩ := i
  obtain ⟨k, hk, rfl⟩ := r.1.k
  obtain ⟨n, n1, n2, rfl⟩ := tw_gr1 r.2
  rw [tw_dn (j := j) (by omega), tw_dn (j := k) (by omega), tw_dn (j := n) (by omega), s _ (by omega)]
  obtain ⟨e, l⟩ := I.ev2 (j := j) (k := k) (by omega) hk
  exact tw_nle2 e (by omega) (by omega)
theorem tw_I9.vv {B : Nat} {g gL : tw_G} {a m gr : Int32} (I : tw_I9 B g) (s : tw_sc g gL) (i : tw_ix (g.2 6) a) (r : tw_RG1 m gr) : g.1 (160 + 64 * tw_DN a + 24 + tw_DN m) = gL.1 (480 + 64 * tw_DN a + 16 + tw_DN m) := by
  obtain ⟨b3, -⟩ := I.bd
  have c6 := I.c6
  obtain ⟨j, hj, rfl⟩ := i
  obtain ⟨k, hk, rfl⟩ := r.1.k
  rw [tw_dn (j := j) (by omega), tw_dn (j := k) (by omega), s _ (by omega)]
  exact I.i5.1 _ _ (tw_pr.v (by omega) hk)
theorem tw_V_mine {B : Nat} {g gL : tw_G} {a m gr : Int32} (I : tw_I9 B g) (s : tw_sc g gL) (i : tw_ix (g.2 6) a) (r : tw_RG1 m gr) : g.1 (160 + 64 * tw_DN a + 24 + tw_DN m) + gr = gL.1 (480 + 64 * tw_DN a + 16 + tw_DN m) + gr := by rw [I.vv s i r]
theorem tw_V_use {B : Nat} {g gL : tw_G} {a m gr : Int32} (I : tw_I9 B g) (s : tw_sc g gL) (i : tw_ix (g.2 6) a) (r : tw_RG1 m gr) : g.1 (160 + 64 * tw_DN a + 24 + tw_DN m) + (-gr) = gL.1 (480 + 64 * tw_DN a + 16 + tw_DN m) + -gr := by rw [I.vv s i r]
theorem tw_S_vs {B : Nat} {g gL : tw_G} {a m u v : Int32} {t : Nat} (I : tw_I9 B g) (i : tw_ix (g.2 6) a) (r : tw_RM m) (ht : t = 1320 ∨ t = 1336) (eL : gL = tw_ad (tw_ad g (160 + 64 * tw_DN a + 24 + tw_DN m) u) (t + tw_DN m) v) : tw_sc g gL := fun b h => by
  obtain ⟨b3, -⟩ := I.bd
  have c6 := I.c6
  obtain ⟨j, hj, rfl⟩ := i
  obtain ⟨k, hk, rfl⟩ := r.k
  rw [tw_dn (j := j) (by omega), tw_dn (j := k) (by omega)] at eL
  rw [eL, tw_ad_ne (by omega), tw_ad_ne (by omega)]
/-- two amounts on each side -/
theorem tw_I9.am2 {B C : Nat} {g gL g9 : tw_G} {j k t : Nat} {u v : Int32} (I : tw_I9 B g) (hj : j < g.2 3) (hk : k < 2) (ht : t = 1320 ∨ t = 1336) (s : tw_sc g gL) (eL : gL = tw_ad (tw_ad g (160 + 64 * j + 24 + k) u) (t + k) v) (e9 : g9 = tw_ad (tw_ad gL (480 + 64 * j + 16 + k) u) (t + 32 + k) v) (am : tw_AM C g9) : tw_I9 C g9 := by
  obtain ⟨b3, b4, b5, b22⟩ := I.bd
  have e : tw_E2 gL g9 := by
    have z := ((s.e2 I.i5.1).ad (v := u) (w := u) (tw_pr.v (j := j) (k := k) (by omega) hk) rfl).ad (v := v) (w := v) (a := t + k) (b := t + 32 + k) (by unfold tw_pr; omega) rfl
    rw [← eL, ← e9] at z
    exact z
  have c2 : g9.2 = g.2 := by rw [e9, eL]; rfl
  have F : ∀ b, b ≠ 480 + 64 * j + 16 + k → b ≠ t + 32 + k → (416 ≤ b ∧ b < 736 ∨ 960 ≤ b ∧ b < 1152 ∨ 1232 ≤ b ∧ b < 1312 ∨ 1344 ≤ b ∧ b < 1376) → g9.1 b = g.1 b := fun b h1 h2 h => by
    rw [e9, tw_ad_ne h2, tw_ad_ne h1]
    exact s b h
  have z := I.i5.2.2.2.2.1
  have J : tw_I5 C g9 := I.i5.re e (fun a h => by have h := h.n; rw [e9, tw_ad_ne (by omega), tw_ad_ne (by omega)]) am c2 (I.i5.hsre c2 (fun i c hi hc => F _ (by omega) (by omega) (by omega))) (fun i c hi hc => F _ (by omega) (by omega) (by omega)) ⟨fun i l hi h hl => by rw [c2] at h; exact (F _ (by omega) (by omega) (by omega)).trans (z.1 i l hi h hl), fun i l hi h hl => by rw [c2] at h; exact (F _ (by omega) (by omega) (by omega)).trans (z.2 i l hi h hl)⟩ (fun i h1 h2 => F i (by omega) (by omega) (by omega))
  refine I.re5 (fun i h1 h2 => ?_) (fun i _ _ => by rw [c2]) (by rw [c2]; exact I.ct) J
  unfold tw_x5 at h2
  rw [e9, tw_ad_ne (by omega), tw_ad_ne (by omega), eL, tw_ad_ne (by omega), tw_ad_ne (by omega)]
theorem tw_I9.mine {B C : Nat} {g gL g9 : tw_G} {a m gr : Int32} (I : tw_I9 B g) (hC : B + 99999 ≤ C) (hC2 : C ≤ 60000000) (i : tw_ix (g.2 6) a) (r : tw_RG1 m gr) (eL : gL = tw_ad (tw_ad g (160 + 64 * tw_DN a + 24 + tw_DN m) gr) (1336 + tw_DN m) gr) (e9 : g9 = tw_ad (tw_ad gL (480 + 64 * tw_DN a + 16 + tw_DN m) (gr)) (1368 + tw_DN m) gr) : tw_I9 C g9 := by
  have s := tw_S_vs I i r.1 (Or.inr rfl) eL
  obtain ⟨b3, -⟩ := I.bd
  have c6 := I.c6
  obtain ⟨j, hj, rfl⟩ := i
  obtain ⟨k, hk, rfl⟩ := r.1.k
  obtain ⟨n, n1, n2, rfl⟩ := tw_gr1 r.2
  rw [tw_dn (j := j) (by omega), tw_dn (j := k) (by omega)] at eL e9
  refine I.am2 (by omega) hk (Or.inr rfl) s eL e9 ?_
  have ac : 480 + 64 * j + 16 + k = tw_ac j k := by rw [tw_ac_v (by omega)]; omega
  have a13 : 1368 + k = tw_ac 13 k := by rw [tw_ac_s (by decide)]
  rw [e9, ac, a13]
  exact ((I.am.sc s).up (by omega) (by omega) hk).mono (by omega)
theorem tw_I9.use {B : Nat} {g gL g9 : tw_G} {a m gr : Int32} (I : tw_I9 B g) (hB : B ≤ 59000000) (i : tw_ix (g.2 6) a) (r : tw_RG1 m gr) (l : gr ≤ g.1 (160 + 64 * tw_DN a + 24 + tw_DN m)) (eL : gL = tw_ad (tw_ad g (160 + 64 * tw_DN a + 24 + tw_DN m) (-gr)) (1320 + tw_DN m) gr) (e9 : g9 = tw_ad (tw_ad gL (480 + 64 * tw_DN a + 16 + tw_DN m) (-gr)) (1352 + tw_DN m) gr) : tw_I9 B g9 := by
  have s := tw_S_vs I i r.1 (Or.inl rfl) eL
  have l := (tw_Q_use I s hB i r).mp l
  obtain ⟨b3, -⟩ := I.bd
  have c6 := I.c6
  obtain ⟨j, hj, rfl⟩ := i
  obtain ⟨k, hk, rfl⟩ := r.1.k
  obtain ⟨n, n1, n2, rfl⟩ := tw_gr1 r.2
  rw [tw_dn (j := j) (by omega), tw_dn (j := k) (by omega)] at eL e9 l
  rw [tw_dn (j := n) (by omega)] at l
  refine I.am2 (by omega) hk (Or.inl rfl) s eL e9 ?_
  have ac : 480 + 64 * j + 16 + k = tw_ac j k := by rw [tw_ac_v (by omega)]; omega
  have a11 : 1352 + k = tw_ac 11 k := by rw [tw_ac_s (by decide)]
  rw [e9, ac, a11]
  refine (I.am.sc s).tr (by omega) (by omega) (by decide) (by omega) hk ?_
  unfold tw_am
  rw [← ac]
  exact l
/-! change -/
theorem tw_Q_change {B : Nat} {g gL : tw_G} {a m gr : Int32} (I : tw_I9 B g) (s : tw_sc g gL) (hB : B ≤ 59000000) (i : tw_ix (g.2 7) a) (r : tw_RG1 m gr) : tw_LC g (tw_DN a) (tw_DN m) (tw_DN gr) ↔ tw_MC gL (tw_DN a) (tw_DN m) (tw_DN gr) := by
  obtain ⟨b3, b4, -⟩ := I.bd
  have c7 := I.c7
  obtain ⟨j, hj, rfl⟩ := i
  obtain ⟨k, hk, rfl⟩ := r.1.k
  obtain ⟨n, n1, n2, rfl⟩ := tw_gr1 r.2
  rw [tw_dn (j := j) (by omega), tw_dn (j := k) (by omega), tw_dn (j := n) (by omega)]
  unfold tw_LC tw_MC
  have e1 : gL.1 (960 + 32 * j + 1) = g.1 (768 + 32 * j + 1) := by rw [s _ (by omega), I.pe (by omega) (by decide)]
  rw [e1]
  by_cases np : g.1 (768 + 32 * j + 1) = -1
  · exact ⟨fun z => absurd np z.1, fun z => absurd np z.1⟩
  · have hp := I.pl (by omega) np
    obtain ⟨f1, f2, f3, f4⟩ := I.rt s hp
    obtain ⟨p1, p2⟩ := I.ep2 (j := j) (k := k) (by omega) hk
    obtain ⟨v1, v2⟩ := I.ev2 (j := tw_cP g j) (k := 1 - k) (by omega) (by omega)
    have cb := I.cgb (a := j) (k := k) (n := n) hp
    rw [I.mP s (by omega), I.mg s (by omega) hp, f3 k hk, s _ (by omega), s _ (by omega), tw_nle2 p1 (by omega) (by omega), tw_nle2 v1 (by omega) (by omega)]
theorem tw_V_change {B : Nat} {g gL : tw_G} {a m gr : Int32} (I : tw_I9 B g) (s : tw_sc g gL) (i : tw_ix (g.2 7) a) (l : tw_LC g (tw_DN a) (tw_DN m) (tw_DN gr)) : nI (tw_cg g (tw_DN a) (tw_DN m) (tw_DN gr)) = nI (tw_mg gL (tw_DN a) (tw_DN m) (tw_DN gr)) := by
  obtain ⟨b3, b4, -⟩ := I.bd
  have c7 := I.c7
  obtain ⟨j, hj, rfl⟩ := i
  rw [tw_dn (j := j) (by omega)] at l ⊢
  rw [I.mg s (by omega) (I.pl (by omega) l.1)]
theorem tw_S_change {B : Nat} {g gL : tw_G} {a m gr : Int32} (I : tw_I9 B g) (i : tw_ix (g.2 7) a) (r : tw_RG1 m gr) (l : tw_LC g (tw_DN a) (tw_DN m) (tw_DN gr)) (eL : gL = tw_ad (tw_ad (tw_ad (tw_ad g (768 + 32 * tw_DN a + 8 + tw_DN m) (-gr)) (160 + 64 * tw_cP g (tw_DN a) + 24 + tw_DN m) gr) (160 + 64 * tw_cP g (tw_DN a) + 24 + (1 - tw_DN m)) (-nI (tw_cg g (tw_DN a) (tw_DN m) (tw_DN gr)))) (768 + 32 * tw_DN a + 8 + (1 - tw_DN m)) (nI (tw_cg g (tw_DN a) (tw_DN m) (tw_DN gr)))) : tw_sc g gL := fun b h => by
  obtain ⟨b3, b4, -⟩ := I.bd
  have c7 := I.c7
  obtain ⟨j, hj, rfl⟩ := i
  obtain ⟨k, hk, rfl⟩ := r.1.k
  rw [tw_dn (j := j) (by omega), tw_dn (j := k) (by omega)] at eL
  rw [tw_dn (j := j) (by omega)] at l
  have hp := I.pl (by omega) l.1
  rw [eL, tw_ad_ne (by omega), tw_ad_ne (by omega), tw_ad_ne (by omega), tw_ad_ne (by omega)]
theorem tw_I9.change {B : Nat} {g gL g9 : tw_G} {a m gr : Int32} (I : tw_I9 B g) (hB : B ≤ 59000000) (i : tw_ix (g.2 7) a) (r : tw_RG1 m gr) (l : tw_LC g (tw_DN a) (tw_DN m) (tw_DN gr)) (eL : gL = tw_ad (tw_ad (tw_ad (tw_ad g (768 + 32 * tw_DN a + 8 + tw_DN m) (-gr)) (160 + 64 * tw_cP g (tw_DN a) + 24 + tw_DN m) gr) (160 + 64 * tw_cP g (tw_DN a) + 24 + (1 - tw_DN m)) (-nI (tw_cg g (tw_DN a) (tw_DN m) (tw_DN gr)))) (768 + 32 * tw_DN a + 8 + (1 - tw_DN m)) (nI (tw_cg g (tw_DN a) (tw_DN m) (tw_DN gr)))) (e9 : g9 = tw_ad (tw_ad (tw_ad (tw_ad gL (960 + 32 * tw_DN a + 8 + tw_DN m) (-gr)) (480 + 64 * tw_mP gL (tw_DN a) + 16 + tw_DN m) gr) (480 + 64 * tw_mP gL (tw_DN a) + 16 + (1 - tw_DN m)) (-nI (tw_mg gL (tw_DN a) (tw_DN m) (tw_DN gr)))) (960 + 32 * tw_DN a + 8 + (1 - tw_DN m)) (nI (tw_mg gL (tw_DN a) (tw_DN m) (tw_DN gr)))) : tw_I9 B g9 := by
  have s := tw_S_change I i r l eL
  obtain ⟨b3, b4, b5, b22⟩ := I.bd
  have c7 := I.c7
  obtain ⟨j, hj, rfl⟩ := i
  obtain ⟨k, hk, rfl⟩ := r.1.k
  obtain ⟨n, n1, n2, rfl⟩ := tw_gr1 r.2
  rw [tw_dn (j := j) (by omega), tw_dn (j := k) (by omega), tw_dn (j := n) (by omega)] at eL e9 l
  have hp := I.pl (by omega) l.1
  have cb := I.cgb (a := j) (k := k) (n := n) hp
  rw [I.mP s (by omega), I.mg s (by omega) hp] at e9
  obtain ⟨-, l1, -, l3⟩ := l
  obtain ⟨p1, p2⟩ := I.ep2 (j := j) (k := k) (by omega) hk
  obtain ⟨v1, v2⟩ := I.ev2 (j := tw_cP g j) (k := 1 - k) (by omega) (by omega)
  rw [tw_nle2 p1 (by omega) (by omega)] at l1
  rw [tw_nle2 v1 (by omega) (by omega)] at l3
  obtain ⟨p, ep⟩ : ∃ p, p = tw_cP g j := ⟨_, rfl⟩
  obtain ⟨c, ec⟩ : ∃ c, c = tw_cg g j k n := ⟨_, rfl⟩
  rw [← ep, ← ec] at eL e9 l3
  rw [← ep] at hp
  obtain ⟨k2, ek2⟩ : ∃ z, z = 1 - k := ⟨_, rfl⟩
  rw [← ek2] at eL e9 l3
  have e : tw_E2 gL g9 := by
    have z := ((((s.e2 I.i5.1).ad (v := -nI n) (w := -nI n) (a := 768 + 32 * j + 8 + k) (b := 960 + 32 * j + 8 + k) (by unfold tw_pr; omega) rfl).ad (v := nI n) (w := nI n) (tw_pr.v (j := p) (k := k) (by omega) hk) rfl).ad (v := -nI c) (w := -nI c) (tw_pr.v (j := p) (k := k2) (by omega) (by omega)) rfl).ad (v := nI c) (w := nI c) (a := 768 + 32 * j + 8 + k2) (b := 960 + 32 * j + 8 + k2) (by unfold tw_pr; omega) rfl
    rw [← eL, ← e9] at z
    exact z
  have c2 : g9.2 = g.2 := by rw [e9, eL]; rfl
  have F : ∀ b, b ≠ 480 + 64 * p + 16 + k → b ≠ 480 + 64 * p + 16 + k2 → b ≠ 960 + 32 * j + 8 + k → b ≠ 960 + 32 * j + 8 + k2 → (416 ≤ b ∧ b < 736 ∨ 960 ≤ b ∧ b < 1152 ∨ 1232 ≤ b ∧ b < 1312 ∨ 1344 ≤ b ∧ b < 1376) → g9.1 b = g.1 b := fun b h1 h2 h3 h4 h => by
    rw [e9, tw_ad_ne h4, tw_ad_ne h2, tw_ad_ne h1, tw_ad_ne h3]
    exact s b h
  have a1 : 960 + 32 * j + 8 + k = tw_ac (4 + j) k := by rw [tw_ac_h (by omega) (by omega)]; omega
  have a2 : 480 + 64 * p + 16 + k = tw_ac p k := by rw [tw_ac_v (by omega)]; omega
  have a3 : 480 + 64 * p + 16 + k2 = tw_ac p k2 := by rw [tw_ac_v (by omega)]; omega
  have a4 : 960 + 32 * j + 8 + k2 = tw_ac (4 + j) k2 := by rw [tw_ac_h (by omega) (by omega)]; omega
  have am : tw_AM B g9 := by
    have A1 : tw_AM B (tw_ad (tw_ad gL (tw_ac (4 + j) k) (-nI n)) (tw_ac p k) (nI n)) := by
      refine (I.am.sc s).tr (by omega) (by omega) (by omega) (by omega) hk ?_
      unfold tw_am
      rw [← a1, s _ (by omega)]
      exact l1
    rw [e9, a1, a2, a3, a4]
    refine A1.tr (by omega) (by omega) (by omega) (by omega) (by omega) ?_
    unfold tw_am
    rw [← a1, ← a2, ← a3, tw_ad_ne (by omega), tw_ad_ne (by omega), s _ (by omega)]
    exact l3
  have z := I.i5.2.2.2.2.1
  have J : tw_I5 B g9 := I.i5.re e (fun a h => by have h := h.n; rw [e9, tw_ad_ne (by omega), tw_ad_ne (by omega), tw_ad_ne (by omega), tw_ad_ne (by omega)]) am c2 (I.i5.hsre c2 (fun i c hi hc => F _ (by omega) (by omega) (by omega) (by omega) (by omega))) (fun i c hi hc => F _ (by omega) (by omega) (by omega) (by omega) (by omega)) ⟨fun i l hi h hl => by rw [c2] at h; exact (F _ (by omega) (by omega) (by omega) (by omega) (by omega)).trans (z.1 i l hi h hl), fun i l hi h hl => by rw [c2] at h; exact (F _ (by omega) (by omega) (by omega) (by omega) (by omega)).trans (z.2 i l hi h hl)⟩ (fun i h1 h2 => F i (by omega) (by omega) (by omega) (by omega) (by omega))
  refine I.re5 (fun i h1 h2 => ?_) (fun i _ _ => by rw [c2]) (by rw [c2]; exact I.ct) J
  unfold tw_x5 at h2
  rw [e9, tw_ad_ne (by omega), tw_ad_ne (by omega), tw_ad_ne (by omega), tw_ad_ne (by omega), eL, tw_ad_ne (by omega), tw_ad_ne (by omega), tw_ad_ne (by omega), tw_ad_ne (by omega)]
/-! send -/
theorem tw_Q_send {B : Nat} {g gL : tw_G} {a b : Int32} (I : tw_I9 B g) (s : tw_sc g gL) (i : tw_ix (g.2 7) a ∧ tw_ix (g.2 6) b) : tw_LS g (tw_DN a) b ↔ tw_MS gL (tw_DN a) b := by
  obtain ⟨b3, b4, -⟩ := I.bd
  have c7 := I.c7
  obtain ⟨⟨j, hj, rfl⟩, -⟩ := i
  rw [tw_dn (j := j) (by omega)]
  unfold tw_LS tw_MS
  rw [s _ (by omega), I.pe (by omega) (by decide)]
theorem tw_V_send {B : Nat} {g gL : tw_G} {a b : Int32} (I : tw_I9 B g) (s : tw_sc g gL) (c22 : gL.2 22 = g.2 22) (i : tw_ix (g.2 7) a ∧ tw_ix (g.2 6) b) (l : tw_LS g (tw_DN a) b) : tw_sD g (tw_DN a) (tw_DN b) = tw_mD gL (tw_DN a) (tw_DN b) := by
  obtain ⟨b3, b4, -⟩ := I.bd
  have c7 := I.c7
  have c6 := I.c6
  obtain ⟨⟨j, hj, rfl⟩, w, hw, rfl⟩ := i
  rw [tw_dn (j := j) (by omega)] at l ⊢
  rw [tw_dn (j := w) (by omega)]
  exact (I.mD s c22 (by omega) (by omega) (I.pl (by omega) l.1)).symm
theorem tw_S_send {B : Nat} {g gL : tw_G} {a b : Int32} (I : tw_I9 B g) (i : tw_ix (g.2 7) a ∧ tw_ix (g.2 6) b) (eL : gL = tw_g1 (tw_g1 (tw_g1 (tw_ad (tw_ad (tw_ad (tw_ad g (768 + 32 * tw_DN a + 8 + 0) (-nI (tw_fr g (tw_DN a) (tw_DN b) 0))) (1312 + 0) (nI (tw_fr g (tw_DN a) (tw_DN b) 0))) (768 + 32 * tw_DN a + 8 + 1) (-nI (tw_fr g (tw_DN a) (tw_DN b) 1))) (1312 + 1) (nI (tw_fr g (tw_DN a) (tw_DN b) 1))) (768 + 32 * tw_DN a + 1) (-1)) (768 + 32 * tw_DN a + 2) b) (768 + 32 * tw_DN a + 0) (tw_sD g (tw_DN a) (tw_DN b))) : tw_sc g gL := fun c h => by
  obtain ⟨b3, b4, -⟩ := I.bd
  have c7 := I.c7
  obtain ⟨⟨j, hj, rfl⟩, -⟩ := i
  rw [tw_dn (j := j) (by omega)] at eL
  rw [eL, tw_g1_ne (by omega), tw_g1_ne (by omega), tw_g1_ne (by omega), tw_ad_ne (by omega), tw_ad_ne (by omega), tw_ad_ne (by omega), tw_ad_ne (by omega)]
theorem tw_I9.send {B : Nat} {g gL g9 : tw_G} {a b : Int32} (I : tw_I9 B g) (hB : B ≤ 59000000) (i : tw_ix (g.2 7) a ∧ tw_ix (g.2 6) b) (l : tw_LS g (tw_DN a) b) (eL : gL = tw_g1 (tw_g1 (tw_g1 (tw_ad (tw_ad (tw_ad (tw_ad g (768 + 32 * tw_DN a + 8 + 0) (-nI (tw_fr g (tw_DN a) (tw_DN b) 0))) (1312 + 0) (nI (tw_fr g (tw_DN a) (tw_DN b) 0))) (768 + 32 * tw_DN a + 8 + 1) (-nI (tw_fr g (tw_DN a) (tw_DN b) 1))) (1312 + 1) (nI (tw_fr g (tw_DN a) (tw_DN b) 1))) (768 + 32 * tw_DN a + 1) (-1)) (768 + 32 * tw_DN a + 2) b) (768 + 32 * tw_DN a + 0) (tw_sD g (tw_DN a) (tw_DN b))) (e9 : g9 = tw_g1 (tw_g1 (tw_g1 (tw_ad (tw_ad (tw_ad (tw_ad gL (960 + 32 * tw_DN a + 8 + 0) (-nI (tw_mf gL (tw_DN a) (tw_DN b) 0))) (1344 + 0) (nI (tw_mf gL (tw_DN a) (tw_DN b) 0))) (960 + 32 * tw_DN a + 8 + 1) (-nI (tw_mf gL (tw_DN a) (tw_DN b) 1))) (1344 + 1) (nI (tw_mf gL (tw_DN a) (tw_DN b) 1))) (960 + 32 * tw_DN a + 1) (-1)) (960 + 32 * tw_DN a + 2) b) (960 + 32 * tw_DN a + 0) (tw_mD gL (tw_DN a) (tw_DN b))) : tw_I9 B g9 := by
  have s := tw_S_send I i eL
  obtain ⟨b3, b4, b5, b22⟩ := I.bd
  have c7 := I.c7
  have c6 := I.c6
  have c2L : gL.2 = g.2 := by rw [eL]; rfl
  obtain ⟨⟨j, hj, rfl⟩, w, hw, rfl⟩ := i
  rw [tw_dn (j := j) (by omega), tw_dn (j := w) (by omega)] at eL e9
  rw [tw_dn (j := j) (by omega)] at l
  have hp := I.pl (by omega) l.1
  rw [I.mD s (by rw [c2L]) (by omega) (by omega) hp, I.mf s (by omega) (by omega) (by decide) hp, I.mf s (by omega) (by omega) (by decide) hp] at e9
  have q0 := I.frb (a := j) (w := w) (k := 0) (by omega) (by omega) (by decide) hp
  have q1 := I.frb (a := j) (w := w) (k := 1) (by omega) (by omega) (by decide) hp
  obtain ⟨t, t1, t2, et⟩ := I.sD (a := j) (w := w) (by omega) hp
  rw [et] at eL e9
  obtain ⟨f0, e0⟩ : ∃ z, z = tw_fr g j w 0 := ⟨_, rfl⟩
  obtain ⟨f1, e1⟩ : ∃ z, z = tw_fr g j w 1 := ⟨_, rfl⟩
  rw [← e0, ← e1] at eL e9
  rw [← e0] at q0
  rw [← e1] at q1
  have e : tw_E2 gL g9 := by
    have z := (((((((s.e2 I.i5.1).ad (v := -nI f0) (w := -nI f0) (a := 768 + 32 * j + 8 + 0) (b := 960 + 32 * j + 8 + 0) (by unfold tw_pr; omega) rfl).ad (v := nI f0) (w := nI f0) (a := 1312 + 0) (b := 1344 + 0) (by unfold tw_pr; omega) rfl).ad (v := -nI f1) (w := -nI f1) (a := 768 + 32 * j + 8 + 1) (b := 960 + 32 * j + 8 + 1) (by unfold tw_pr; omega) rfl).ad (v := nI f1) (w := nI f1) (a := 1312 + 1) (b := 1344 + 1) (by unfold tw_pr; omega) rfl).g1 (v := -1) (w := -1) (tw_pr.h (j := j) (k := 1) (by omega) (by decide)) rfl).g1 (v := nI w) (w := nI w) (tw_pr.h (j := j) (k := 2) (by omega) (by decide)) rfl).g1 (v := nI t) (w := nI t) (tw_pr.h (j := j) (k := 0) (by omega) (by decide)) rfl
    rw [← eL, ← e9] at z
    exact z
  have c2 : g9.2 = g.2 := by rw [e9, eL]; rfl
  have a0 : 960 + 32 * j + 8 + 0 = tw_ac (4 + j) 0 := by rw [tw_ac_h (by omega) (by omega)]; omega
  have a1 : 960 + 32 * j + 8 + 1 = tw_ac (4 + j) 1 := by rw [tw_ac_h (by omega) (by omega)]; omega
  have s0 : 1344 + 0 = tw_ac 10 0 := by decide
  have s1 : 1344 + 1 = tw_ac 10 1 := by decide
  have am : tw_AM B g9 := by
    have A1 : tw_AM B (tw_ad (tw_ad gL (tw_ac (4 + j) 0) (-nI f0)) (tw_ac 10 0) (nI f0)) := by
      refine (I.am.sc s).tr (by omega) (by omega) (by decide) (by omega) (by decide) ?_
      unfold tw_am
      rw [← a0, s _ (by omega)]
      exact q0
    have A2 : tw_AM B (tw_ad (tw_ad (tw_ad (tw_ad gL (tw_ac (4 + j) 0) (-nI f0)) (tw_ac 10 0) (nI f0)) (tw_ac (4 + j) 1) (-nI f1)) (tw_ac 10 1) (nI f1)) := by
      refine A1.tr (by omega) (by omega) (by decide) (by omega) (by decide) ?_
      unfold tw_am
      rw [← a0, ← s0, ← a1, tw_ad_ne (by omega), tw_ad_ne (by omega), s _ (by omega)]
      exact q1
    refine A2.cg (fun i k hi hk => ?_)
    have x := tw_ac_c i k
    rw [e9, tw_g1_ne (by omega), tw_g1_ne (by omega), tw_g1_ne (by omega), a1, a0, s1, s0]
  have F : ∀ b, (b < 960 + 32 * j ∨ 960 + 32 * j + 10 ≤ b) → b ≠ 1344 → b ≠ 1345 → (416 ≤ b ∧ b < 736 ∨ 960 ≤ b ∧ b < 1152 ∨ 1232 ≤ b ∧ b < 1312 ∨ 1344 ≤ b ∧ b < 1376) → g9.1 b = g.1 b := fun b h1 h2 h3 h => by
    rw [e9, tw_g1_ne (by omega), tw_g1_ne (by omega), tw_g1_ne (by omega), tw_ad_ne (by omega), tw_ad_ne (by omega), tw_ad_ne (by omega), tw_ad_ne (by omega)]
    exact s b h
  have z := I.i5.2.2.2.2.1
  have hs : ∀ j2, j2 < g.2 4 → tw_hs g9 (g.2 22) j2 := fun j2 hj2 => by
    by_cases q : j2 = j
    · rw [q]
      refine Or.inr ⟨?_, ⟨w, by rw [c2]; omega, ?_⟩, t, t1, t2, ?_⟩
      · rw [e9, tw_g1_ne (by omega), tw_g1_ne (by omega), tw_g1_eq]
      · rw [e9, tw_g1_ne (by omega), tw_g1_eq]
      · rw [e9, tw_g1_eq]
    · exact (I.i5.2.2.1 j2 hj2).cg (fun c hc => F _ (by omega) (by omega) (by omega) (by omega)) (by rw [c2]; exact Nat.le_refl _)
  have J : tw_I5 B g9 := I.i5.re e (fun a h => by have h := h.n; rw [e9, tw_g1_ne (by omega), tw_g1_ne (by omega), tw_g1_ne (by omega), tw_ad_ne (by omega), tw_ad_ne (by omega), tw_ad_ne (by omega), tw_ad_ne (by omega)]) am c2 hs (fun i c hi hc => F _ (by omega) (by omega) (by omega) (by omega)) ⟨fun i l hi h hl => by rw [c2] at h; exact (F _ (by omega) (by omega) (by omega) (by omega)).trans (z.1 i l hi h hl), fun i l hi h hl => by rw [c2] at h; exact (F _ (by omega) (by omega) (by omega) (by omega)).trans (z.2 i l hi h hl)⟩ (fun i h1 h2 => F i (by omega) (by omega) (by omega) (by omega))
  refine I.re5 (fun i h1 h2 => ?_) (fun i _ _ => by rw [c2]) (by rw [c2]; exact I.ct) J
  unfold tw_x5 at h2
  rw [e9, tw_g1_ne (by omega), tw_g1_ne (by omega), tw_g1_ne (by omega), tw_ad_ne (by omega), tw_ad_ne (by omega), tw_ad_ne (by omega), tw_ad_ne (by omega), eL, tw_g1_ne (by omega), tw_g1_ne (by omega), tw_g1_ne (by omega), tw_ad_ne (by omega), tw_ad_ne (by omega), tw_ad_ne (by omega), tw_ad_ne (by omega)]
/-! settle -/
theorem tw_Q_settle {B : Nat} {g gL : tw_G} {a m : Int32} (I : tw_I9 B g) (s : tw_sc g gL) (hB : B ≤ 59000000) (c22 : gL.2 22 = g.2 22) (i : tw_ix (g.2 8) a) (r : tw_RM m) : tw_LT g (tw_DN a) (tw_DN m) ↔ tw_MT gL (tw_DN a) (tw_DN m) := by
  obtain ⟨b3, b4, b5, b22⟩ := I.bd
  have c8 := I.c8
  obtain ⟨j, hj, rfl⟩ := i
  obtain ⟨k, hk, rfl⟩ := r.k
  rw [tw_dn (j := j) (by omega), tw_dn (j := k) (by omega)]
  obtain ⟨x, y, hx, hy, nxy, d1, d2, d3, d4⟩ := I.deb (a := j) (by omega)
  obtain ⟨q1, q2⟩ := I.eFT s (a := j) (by omega)
  unfold tw_LT tw_MT
  rw [q1, q2, d1, d2, s (1232 + 8 * j + 2) (by omega), s (960 + 32 * x + 1) (by omega), s (960 + 32 * y + 1) (by omega), I.de (a := j) (c := 2) (by omega) (by decide), I.pe (a := x) (c := 1) (by omega) (by decide), I.pe (a := y) (c := 1) (by omega) (by decide)]
  by_cases np : g.1 (960 + 32 * x + 1) = -1
  · exact ⟨fun z => absurd np z.2.1, fun z => absurd np z.2.1⟩
  · have hp := I.pl hx (by rw [I.pe (by omega) (by decide)]; exact np)
    have hp2 : tw_cP g (tw_dF g j) < g.2 3 := by rw [d1]; exact hp
    have sb := I.sgb (a := j) (k := k) (by omega) (by omega) hp2
    obtain ⟨p1, p2⟩ := I.ep2 (j := x) (k := k) (by omega) hk
    rw [I.ms s c22 (by omega) (by omega) hp2, s (960 + 32 * x + 8 + k) (by omega), tw_nle2 p1 (by omega) (by omega)]
theorem tw_V_settle {B : Nat} {g gL : tw_G} {a m : Int32} (I : tw_I9 B g) (s : tw_sc g gL) (c22 : gL.2 22 = g.2 22) (i : tw_ix (g.2 8) a) (l : tw_LT g (tw_DN a) (tw_DN m)) : nI (tw_sg g (tw_DN a) (tw_DN m)) = nI (tw_ms gL (tw_DN a) (tw_DN m)) := by
  obtain ⟨b3, b4, b5, b22⟩ := I.bd
  have c8 := I.c8
  obtain ⟨j, hj, rfl⟩ := i
  rw [tw_dn (j := j) (by omega)] at l ⊢
  obtain ⟨x, y, hx, hy, nxy, d1, d2, d3, d4⟩ := I.deb (a := j) (by omega)
  rw [I.ms s c22 (by omega) (by omega) (I.pl (by omega) l.2.1)]
theorem tw_S_settle {B : Nat} {g gL : tw_G} {a m : Int32} (I : tw_I9 B g) (i : tw_ix (g.2 8) a) (r : tw_RM m) (eL : gL = tw_g1 (tw_ad (tw_ad g (768 + 32 * tw_dF g (tw_DN a) + 8 + tw_DN m) (-nI (tw_sg g (tw_DN a) (tw_DN m)))) (768 + 32 * tw_dT g (tw_DN a) + 8 + tw_DN m) (nI (tw_sg g (tw_DN a) (tw_DN m)))) (1152 + 8 * tw_DN a + 2) 1) : tw_sc g gL := fun b h => by
  obtain ⟨b3, b4, b5, b22⟩ := I.bd
  have c8 := I.c8
  obtain ⟨j, hj, rfl⟩ := i
  obtain ⟨k, hk, rfl⟩ := r.k
  obtain ⟨x, y, hx, hy, nxy, d1, d2, d3, d4⟩ := I.deb (a := j) (by omega)
  rw [tw_dn (j := j) (by omega), tw_dn (j := k) (by omega), d1, d2] at eL
  rw [eL, tw_g1_ne (by omega), tw_ad_ne (by omega), tw_ad_ne (by omega)]
theorem tw_I9.settle {B : Nat} {g gL g9 : tw_G} {a m : Int32} (I : tw_I9 B g) (hB : B ≤ 59000000) (i : tw_ix (g.2 8) a) (r : tw_RM m) (l : tw_LT g (tw_DN a) (tw_DN m)) (eL : gL = tw_g1 (tw_ad (tw_ad g (768 + 32 * tw_dF g (tw_DN a) + 8 + tw_DN m) (-nI (tw_sg g (tw_DN a) (tw_DN m)))) (768 + 32 * tw_dT g (tw_DN a) + 8 + tw_DN m) (nI (tw_sg g (tw_DN a) (tw_DN m)))) (1152 + 8 * tw_DN a + 2) 1) (e9 : g9 = tw_g1 (tw_ad (tw_ad gL (960 + 32 * tw_eF gL (tw_DN a) + 8 + tw_DN m) (-nI (tw_ms gL (tw_DN a) (tw_DN m)))) (960 + 32 * tw_eT gL (tw_DN a) + 8 + tw_DN m) (nI (tw_ms gL (tw_DN a) (tw_DN m)))) (1232 + 8 * tw_DN a + 2) 1) : tw_I9 B g9 := by
  have s := tw_S_settle I i r eL
  obtain ⟨b3, b4, b5, b22⟩ := I.bd
  have c8 := I.c8
  have c2L : gL.2 = g.2 := by rw [eL]; rfl
  obtain ⟨j, hj, rfl⟩ := i
  obtain ⟨k, hk, rfl⟩ := r.k
  rw [tw_dn (j := j) (by omega), tw_dn (j := k) (by omega)] at eL e9 l
  obtain ⟨x, y, hx, hy, nxy, d1, d2, d3, d4⟩ := I.deb (a := j) (by omega)
  obtain ⟨q1, q2⟩ := I.eFT s (a := j) (by omega)
  obtain ⟨-, l1, -, l3⟩ := l
  have hp2 := I.pl (a := tw_dF g j) (by omega) l1
  have sb := I.sgb (a := j) (k := k) (by omega) (by omega) hp2
  rw [I.ms s (by rw [c2L]) (by omega) (by omega) hp2, q1, q2, d1, d2] at e9
  rw [d1, d2] at eL
  rw [d1] at l3
  obtain ⟨p1, p2⟩ := I.ep2 (j := x) (k := k) (by omega) hk
  rw [tw_nle2 p1 (by omega) (by omega)] at l3
  obtain ⟨c, ec⟩ : ∃ c, c = tw_sg g j k := ⟨_, rfl⟩
  rw [← ec] at eL e9 l3
  have e : tw_E2 gL g9 := by
    have z := (((s.e2 I.i5.1).ad (v := -nI c) (w := -nI c) (a := 768 + 32 * x + 8 + k) (b := 960 + 32 * x + 8 + k) (by unfold tw_pr; omega) rfl).ad (v := nI c) (w := nI c) (a := 768 + 32 * y + 8 + k) (b := 960 + 32 * y + 8 + k) (by unfold tw_pr; omega) rfl).g1 (v := 1) (w := 1) (tw_pr.d (j := j) (k := 2) (by omega) (by decide)) rfl
    rw [← eL, ← e9] at z
    exact z
  have c2 : g9.2 = g.2 := by rw [e9, eL]; rfl
  have a1 : 960 + 32 * x + 8 + k = tw_ac (4 + x) k := by rw [tw_ac_h (by omega) (by omega)]; omega
  have a2 : 960 + 32 * y + 8 + k = tw_ac (4 + y) k := by rw [tw_ac_h (by omega) (by omega)]; omega
  have am : tw_AM B g9 := by
    have A1 : tw_AM B (tw_ad (tw_ad gL (tw_ac (4 + x) k) (-nI c)) (tw_ac (4 + y) k) (nI c)) := by
      refine (I.am.sc s).tr (by omega) (by omega) (by omega) (by omega) hk ?_
      unfold tw_am
      rw [← a1, s _ (by omega)]
      exact l3
    refine A1.cg (fun i k2 hi hk2 => ?_)
    have z := tw_ac_c i k2
    rw [e9, tw_g1_ne (by omega), a1, a2]
  have F : ∀ b, b ≠ 960 + 32 * x + 8 + k → b ≠ 960 + 32 * y + 8 + k → b ≠ 1232 + 8 * j + 2 → (416 ≤ b ∧ b < 736 ∨ 960 ≤ b ∧ b < 1152 ∨ 1232 ≤ b ∧ b < 1312 ∨ 1344 ≤ b ∧ b < 1376) → g9.1 b = g.1 b := fun b h1 h2 h3 h => by
    rw [e9, tw_g1_ne h3, tw_ad_ne h2, tw_ad_ne h1]
    exact s b h
  have z := I.i5.2.2.2.2.1
  have J : tw_I5 B g9 := I.i5.re e (fun a h => by have h := h.n; rw [e9, tw_g1_ne (by omega), tw_ad_ne (by omega), tw_ad_ne (by omega)]) am c2 (I.i5.hsre c2 (fun i c hi hc => F _ (by omega) (by omega) (by omega) (by omega))) (fun i c hi hc => F _ (by omega) (by omega) (by omega) (by omega)) ⟨fun i l hi h hl => by rw [c2] at h; exact (F _ (by omega) (by omega) (by omega) (by omega)).trans (z.1 i l hi h hl), fun i l hi h hl => by rw [c2] at h; exact (F _ (by omega) (by omega) (by omega) (by omega)).trans (z.2 i l hi h hl)⟩ (fun i h1 h2 => F i (by omega) (by omega) (by omega) (by omega))
  refine I.re5 (fun i h1 h2 => ?_) (fun i _ _ => by rw [c2]) (by rw [c2]; exact I.ct) J
  unfold tw_x5 at h2
  rw [e9, tw_g1_ne (by omega), tw_ad_ne (by omega), tw_ad_ne (by omega), eL, tw_g1_ne (by omega), tw_ad_ne (by omega), tw_ad_ne (by omega)]
/-! house, owe, country: something comes -/
theorem tw_E2.h {g g' : tw_G} (e : tw_E2 g g') {j x p x2 p2 : Nat} {r gd sv : Int32} (hj : j < 6) : tw_E2 (tw_gH g (768 + 32 * j) x p r gd sv) (tw_gHM g' (960 + 32 * j) x2 p2 r gd sv) := fun a b q =>
  (((((e.g1 (v := sv) (w := sv) (tw_pr.h (k := 9) hj (by decide)) rfl).g1 (v := gd) (w := gd) (tw_pr.h (k := 8) hj (by decide)) rfl).g1 (v := -1) (w := -1) (tw_pr.h (k := 2) hj (by decide)) rfl).g1 (v := r) (w := r) (tw_pr.h (k := 1) hj (by decide)) rfl).g1 (v := -1) (w := -1) (tw_pr.h (k := 0) hj (by decide)) rfl) a b q
theorem tw_E2.d {g g' : tw_G} (e : tw_E2 g g') {j x x2 : Nat} {v dy f c : Int32} (hj : j < 10) : tw_E2 (tw_gD g (1152 + 8 * j) x v dy f c) (tw_gDM g' (1232 + 8 * j) x2 v dy f c) := fun a b q =>
  (((((e.g1 (v := c) (w := c) (tw_pr.d (k := 4) hj (by decide)) rfl).g1 (v := f) (w := f) (tw_pr.d (k := 3) hj (by decide)) rfl).g1 (v := 0) (w := 0) (tw_pr.d (k := 2) hj (by decide)) rfl).g1 (v := dy) (w := dy) (tw_pr.d (k := 1) hj (by decide)) rfl).g1 (v := v) (w := v) (tw_pr.d (k := 0) hj (by decide)) rfl) a b q
/-- grams of both metals come to one place, where there were none -/
theorem tw_AM.up2 {B C : Nat} {g g9 : tw_G} {i : Nat} {u v : Int32} (h : tw_AM B g) (hC : B + 99999 ≤ C) (hC2 : C ≤ 60000000) (hi : i < 13) (hu : 0 ≤ u ∧ u ≤ 99999) (hv : 0 ≤ v ∧ v ≤ 99999) (z0 : g.1 (tw_ac i 0) = 0) (z1 : g.1 (tw_ac i 1) = 0) (e0 : g9.1 (tw_ac i 0) = u) (e1 : g9.1 (tw_ac i 1) = v) (f0 : g9.1 (tw_ac 13 0) = g.1 (tw_ac 13 0) + u) (f1 : g9.1 (tw_ac 13 1) = g.1 (tw_ac 13 1) + v) (n : ∀ a k, a < 13 → k < 2 → a ≠ i → g9.1 (tw_ac a k) = g.1 (tw_ac a k)) : tw_AM C g9 := by
  obtain ⟨m, -, hm, rfl⟩ := tw_I_rng (a := 0) (b := 99999) hu.1 hu.2 (by decide) (by decide)
  obtain ⟨w, -, hw, rfl⟩ := tw_I_rng (a := 0) (b := 99999) hv.1 hv.2 (by decide) (by decide)
  have b0 := (h.2 0 (by decide)).2
  have b1 := (h.2 1 (by decide)).2
  have A1 := (h.mono (C := C) (by omega)).upC (i := i) (k := 0) (n := m) (by omega) hC2 hi (by decide)
  have ne : ∀ a b k l, a < 14 → b < 14 → k < 2 → l < 2 → (a ≠ b ∨ k ≠ l) → tw_ac a k ≠ tw_ac b l := fun a b k l ha hb hk hl q z => by
    have y := tw_ac_i ha hb hk hl z
    omega
  have A2 := A1.upC (i := i) (k := 1) (n := w) (by
    unfold tw_am
    rw [tw_ad_ne (ne _ _ _ _ (by decide) (by decide) (by decide) (by decide) (by decide)), tw_ad_ne (ne _ _ _ _ (by decide) (by omega) (by decide) (by decide) (by omega))]
    unfold tw_am at b1
    omega) hC2 hi (by decide)
  refine A2.cg (fun a k ha hk => ?_)
  rcases (show k = 0 ∨ k = 1 by omega) with rfl | rfl
  · by_cases q : a = i
    · rw [q, e0, tw_ad_ne (ne _ _ _ _ (by omega) (by decide) (by decide) (by decide) (by omega)), tw_ad_ne (ne _ _ _ _ (by omega) (by omega) (by decide) (by decide) (by omega)), tw_ad_ne (ne _ _ _ _ (by omega) (by decide) (by decide) (by decide) (by omega)), tw_ad_eq, z0]
      exact (Int32.zero_add _).symm
    · by_cases q2 : a = 13
      · rw [q2, f0, tw_ad_ne (ne _ _ _ _ (by decide) (by decide) (by decide) (by decide) (by omega)), tw_ad_ne (ne _ _ _ _ (by decide) (by omega) (by decide) (by decide) (by omega)), tw_ad_eq, tw_ad_ne (ne _ _ _ _ (by decide) (by omega) (by decide) (by decide) (by omega))]
      · rw [n a 0 (by omega) (by decide) q, tw_ad_ne (ne _ _ _ _ ha (by decide) (by decide) (by decide) (by omega)), tw_ad_ne (ne _ _ _ _ ha (by omega) (by decide) (by decide) (by omega)), tw_ad_ne (ne _ _ _ _ ha (by decide) (by decide) (by decide) (by omega)), tw_ad_ne (ne _ _ _ _ ha (by omega) (by decide) (by decide) (by omega))]
  · by_cases q : a = i
    · rw [q, e1, tw_ad_ne (ne _ _ _ _ (by omega) (by decide) (by decide) (by decide) (by omega)), tw_ad_eq, tw_ad_ne (ne _ _ _ _ (by omega) (by decide) (by decide) (by decide) (by omega)), tw_ad_ne (ne _ _ _ _ (by omega) (by omega) (by decide) (by decide) (by omega)), z1]
      exact (Int32.zero_add _).symm
    · by_cases q2 : a = 13
      · rw [q2, f1, tw_ad_eq, tw_ad_ne (ne _ _ _ _ (by decide) (by omega) (by decide) (by decide) (by omega)), tw_ad_ne (ne _ _ _ _ (by decide) (by decide) (by decide) (by decide) (by omega)), tw_ad_ne (ne _ _ _ _ (by decide) (by omega) (by decide) (by decide) (by omega))]
      · rw [n a 1 (by omega) (by decide) q, tw_ad_ne (ne _ _ _ _ ha (by decide) (by decide) (by decide) (by omega)), tw_ad_ne (ne _ _ _ _ ha (by omega) (by decide) (by decide) (by omega)), tw_ad_ne (ne _ _ _ _ ha (by decide) (by decide) (by decide) (by omega)), tw_ad_ne (ne _ _ _ _ ha (by omega) (by decide) (by decide) (by omega))]
theorem tw_gHI_2 {g : tw_G} {n y p i : Nat} {r u v go si : Int32} (h1 : i ≠ 1) (h7 : i ≠ 7) (h0 : i ≠ 130) (hi : i < 768) : (tw_ad (tw_ad (tw_gI (tw_gH g (768 + 32 * n) y p r u v) 7 1) (1336 + 0) go) (1336 + 1) si).2 i = g.2 i := by
  show (if i = 1 then _ else if i = 7 then _ else _) = _
  rw [if_neg h1, if_neg h7]
  exact tw_gH_2 h0 (by omega) (by omega)
theorem tw_gHI_7 {g : tw_G} {n y p : Nat} {r u v go si : Int32} : (tw_ad (tw_ad (tw_gI (tw_gH g (768 + 32 * n) y p r u v) 7 1) (1336 + 0) go) (1336 + 1) si).2 7 = g.2 7 + 1 ∧ (tw_ad (tw_ad (tw_gI (tw_gH g (768 + 32 * n) y p r u v) 7 1) (1336 + 0) go) (1336 + 1) si).2 1 = g.2 1 + 1 ∧ (tw_ad (tw_ad (tw_gI (tw_gH g (768 + 32 * n) y p r u v) 7 1) (1336 + 0) go) (1336 + 1) si).2 130 = 768 + 32 * n + 32 := by
  refine ⟨?_, ?_, rfl⟩
  · show (tw_gH g (768 + 32 * n) y p r u v).2 7 + 1 = _
    rw [tw_gH_2 (by decide) (by omega) (by omega)]
  · show (tw_gH g (768 + 32 * n) y p r u v).2 1 + 1 = _
    rw [tw_gH_2 (by decide) (by omega) (by omega)]
theorem tw_S_house {g gL : tw_G} {n y p : Nat} {r u v go si : Int32} (hn : n < 6) (eL : gL = tw_ad (tw_ad (tw_gI (tw_gH g (768 + 32 * n) y p r u v) 7 1) (1336 + 0) go) (1336 + 1) si) : tw_sc g gL := fun b h => by
  rw [eL, tw_ad_ne (by omega), tw_ad_ne (by omega)]
  show (tw_gH g (768 + 32 * n) y p r u v).1 b = _
  exact tw_gH_1 (by omega)
theorem tw_I9.house {B C : Nat} {g gL g9 : tw_G} {a go si : Int32} {y p : Nat} (I : tw_I9 B g) (hC : B + 99999 ≤ C) (hC2 : C ≤ 60000000) (i : tw_ix (g.2 6) a) (r : tw_RH go si) (l : g.2 1 < 6) (eL : gL = tw_ad (tw_ad (tw_gI (tw_gH g (768 + 32 * g.2 7) y p a go si) 7 1) (1336 + 0) go) (1336 + 1) si) (gk : ∃ y9 p9, tw_gk 4 (tw_gHM (tw_ad (tw_ad gL (1368 + 0) go) (1368 + 1) si) (960 + 32 * gL.2 4) y9 p9 a go si) g9) : tw_I9 C g9 := by
  obtain ⟨b3, b4, b5, b22⟩ := I.bd
  obtain ⟨r0, r1, r2, r3⟩ := I.fr
  have c6 := I.c6
  have c7 := I.c7
  have c8 := I.c8
  have ct := I.ct
  have c14 := I.2.1
  have L : ∀ i, i ≠ 1 → i ≠ 7 → i ≠ 130 → i < 768 → gL.2 i = g.2 i := by rw [eL]; exact fun i h1 h7 h0 hi => tw_gHI_2 h1 h7 h0 hi
  obtain ⟨k7, k1, k130⟩ : gL.2 7 = g.2 7 + 1 ∧ gL.2 1 = g.2 1 + 1 ∧ gL.2 130 = 768 + 32 * g.2 7 + 32 := by rw [eL]; exact tw_gHI_7
  obtain ⟨n, en⟩ : ∃ n, n = g.2 4 := ⟨_, rfl⟩
  have s : tw_sc g gL := tw_S_house (by omega) eL
  obtain ⟨y9, p9, -, a1, a2, a3⟩ := gk
  rw [L 4 (by decide) (by decide) (by decide) (by decide), ← en] at a1 a2 a3
  rw [c7, ← en] at eL k130
  have N : ∀ i, i ≠ 131 → i < 768 → (tw_gHM (tw_ad (tw_ad gL (1368 + 0) go) (1368 + 1) si) (960 + 32 * n) y9 p9 a go si).2 i = gL.2 i := fun i h h2 => tw_gHM_2 h (by omega) (by omega)
  have n4 : g9.2 4 = n + 1 := by rw [a1, N 4 (by decide) (by decide), L 4 (by decide) (by decide) (by decide) (by decide), en]
  have n131 : g9.2 131 = 960 + 32 * n + 32 := by rw [a2 131 (by decide) (by decide)]; rfl
  have P : ∀ i, i ≠ 4 → i ≠ 131 → (i < 10 ∨ i = 21 ∨ i = 22 ∨ i = 24 ∨ 130 ≤ i ∧ i < 134) → g9.2 i = gL.2 i := fun i h3 h9 h => by rw [a2 i (by omega) h3, N i h9 (by omega)]
  have Q : ∀ i, i ≠ 1 → i ≠ 4 → i ≠ 7 → i ≠ 130 → i ≠ 131 → (i < 10 ∨ i = 21 ∨ i = 22 ∨ i = 24 ∨ 130 ≤ i ∧ i < 134) → g9.2 i = g.2 i := fun i h1 h4 h7 h130 h131 h => by rw [P i h4 h131 h, L i h1 h7 h130 (by omega)]
  have q0 := Q 0 (by decide) (by decide) (by decide) (by decide) (by decide) (by decide)
  have q2 := Q 2 (by decide) (by decide) (by decide) (by decide) (by decide) (by decide)
  have q3 := Q 3 (by decide) (by decide) (by decide) (by decide) (by decide) (by decide)
  have q5 := Q 5 (by decide) (by decide) (by decide) (by decide) (by decide) (by decide)
  have q6 := Q 6 (by decide) (by decide) (by decide) (by decide) (by decide) (by decide)
  have q8 := Q 8 (by decide) (by decide) (by decide) (by decide) (by decide) (by decide)
  have q9 := Q 9 (by decide) (by decide) (by decide) (by decide) (by decide) (by decide)
  have q21 := Q 21 (by decide) (by decide) (by decide) (by decide) (by decide) (by decide)
  have q22 := Q 22 (by decide) (by decide) (by decide) (by decide) (by decide) (by decide)
  have q24 := Q 24 (by decide) (by decide) (by decide) (by decide) (by decide) (by decide)
  have q132 := Q 132 (by decide) (by decide) (by decide) (by decide) (by decide) (by decide)
  have q133 := Q 133 (by decide) (by decide) (by decide) (by decide) (by decide) (by decide)
  have p1 := P 1 (by decide) (by decide) (by decide)
  have p7 := P 7 (by decide) (by decide) (by decide)
  have p130 := P 130 (by decide) (by decide) (by decide)
  have W := tw_gHM_v (g := tw_ad (tw_ad gL (1368 + 0) go) (1368 + 1) si) (b := 960 + 32 * n) (x := y9) (p := p9) (r := a) (gd := go) (sv := si)
  -- the cells
  have F1 : ∀ i, 128 ≤ i → (i < 960 + 32 * n ∨ 960 + 32 * n + 10 ≤ i) → i ≠ 1368 → i ≠ 1369 → g9.1 i = gL.1 i := fun i h1 h2 h3 h4 => by
    rw [a3 i h1, tw_gHM_1 h2, tw_ad_ne (by omega), tw_ad_ne (by omega)]
  have F : ∀ i, 128 ≤ i → (i < 960 + 32 * n ∨ 960 + 32 * n + 10 ≤ i) → (i < 768 + 32 * n ∨ 768 + 32 * n + 10 ≤ i) → i ≠ 1368 → i ≠ 1369 → i ≠ 1336 → i ≠ 1337 → g9.1 i = g.1 i := fun i h1 h2 h3 h4 h5 h6 h7 => by
    rw [F1 i h1 h2 h4 h5, eL, tw_ad_ne (by omega), tw_ad_ne (by omega)]
    show (tw_gH g (768 + 32 * n) y p a go si).1 i = _
    exact tw_gH_1 h3
  have w0 : g9.1 (960 + 32 * n + 0) = -1 := by rw [a3 _ (by omega)]; exact W.1
  have w1 : g9.1 (960 + 32 * n + 1) = a := by rw [a3 _ (by omega)]; exact W.2.1
  have w2 : g9.1 (960 + 32 * n + 2) = -1 := by rw [a3 _ (by omega)]; exact W.2.2.1
  have w8 : g9.1 (960 + 32 * n + 8) = go := by rw [a3 _ (by omega)]; exact W.2.2.2.1
  have w9 : g9.1 (960 + 32 * n + 9) = si := by rw [a3 _ (by omega)]; exact W.2.2.2.2
  have m0 : g9.1 1368 = g.1 1368 + go := by
    rw [a3 _ (by omega), tw_gHM_1 (by omega), tw_ad_ne (by omega), show (1368 : Nat) = 1368 + 0 from rfl, tw_ad_eq, s _ (by omega)]
  have m1 : g9.1 1369 = g.1 1369 + si := by
    rw [a3 _ (by omega), tw_gHM_1 (by omega), show (1369 : Nat) = 1368 + 1 from rfl, tw_ad_eq, tw_ad_ne (by omega), s _ (by omega)]
  have v : tw_E2 gL g9 := by
    have z := (((s.e2 I.i5.1).h (j := n) (x := y) (p := p) (x2 := y9) (p2 := p9) (r := a) (gd := go) (sv := si) (by omega)).ad (v := go) (w := go) (a := 1336 + 0) (b := 1368 + 0) (by unfold tw_pr; omega) rfl).ad (v := si) (w := si) (a := 1336 + 1) (b := 1368 + 1) (by unfold tw_pr; omega) rfl
    refine z.cg (fun x h => by rw [eL]; rfl) (fun x h => ?_)
    have h := h.n
    by_cases q : x = 1369
    · rw [q, m1, show (1369 : Nat) = 1368 + 1 from rfl, tw_ad_eq, tw_ad_ne (by omega), tw_gHM_1 (by omega), s _ (by omega)]
    · by_cases q2 : x = 1368
      · rw [q2, m0, tw_ad_ne (by omega), show (1368 : Nat) = 1368 + 0 from rfl, tw_ad_eq, tw_gHM_1 (by omega), s _ (by omega)]
      · rw [tw_ad_ne (by omega), tw_ad_ne (by omega), a3 x (by omega)]
        by_cases q3 : x < 960 + 32 * n ∨ 960 + 32 * n + 10 ≤ x
        · rw [tw_gHM_1 q3, tw_gHM_1 q3, tw_ad_ne (by omega), tw_ad_ne (by omega)]
        · have z9 : (tw_ad (tw_ad gL (1368 + 0) go) (1368 + 1) si).1 x = gL.1 x := by rw [tw_ad_ne (by omega), tw_ad_ne (by omega)]
          unfold tw_gHM
          dsimp only
          rw [z9]
  have z := I.i5.2.2.2.2.1
  have h4 : n < 6 := by omega
  have c8 : ∀ k, k < 2 → 960 + 32 * n + 8 + k = tw_ac (4 + n) k := fun k hk => by rw [tw_ac_h (by omega) (by omega)]; omega
  have am : tw_AM C g9 := by
    refine I.am.up2 (i := 4 + n) hC hC2 (by omega) r.1 r.2 ?_ ?_ ?_ ?_ ?_ ?_ (fun b k hb hk hn => ?_)
    · rw [← c8 0 (by decide)]; exact z.2 n 0 h4 (by omega) (by decide)
    · rw [← c8 1 (by decide)]; exact z.2 n 1 h4 (by omega) (by decide)
    · rw [← c8 0 (by decide)]; exact w8
    · rw [← c8 1 (by decide)]; exact w9
    · exact m0
    · exact m1
    · have x := tw_ac_c b k
      exact F _ (by omega) (by omega) (by omega) (by omega) (by omega) (by omega) (by omega)
  have J : tw_I5 C g9 := by
    refine ⟨v.cg (fun x h => by unfold tw_cc at h; exact F1 x (by omega) (by omega) (by omega) (by omega)) (fun _ _ => rfl), am, fun j hj => ?_, fun j hj => ?_, ⟨fun j k hj h hk => ?_, fun j k hj h hk => ?_⟩, I.i5.2.2.2.2.2.1.cg (fun x h1 h2 => F x (by omega) (by omega) (by omega) (by omega) (by omega) (by omega) (by omega)), ⟨by omega, by omega, by omega, by omega⟩, by omega, by omega, by omega, by omega⟩
    · rw [n4] at hj
      rw [q22]
      by_cases q : j = n
      · rw [q]
        obtain ⟨w, hw, ew⟩ := i
        exact Or.inl ⟨⟨w, by omega, w1.trans ew⟩, w2, w0⟩
      · exact (I.i5.2.2.1 j (by omega)).cg (fun c hc => F _ (by omega) (by omega) (by omega) (by omega) (by omega) (by omega) (by omega)) (by rw [q3]; exact Nat.le_refl _)
    · rw [q5] at hj
      obtain ⟨d1, d2, x1, x2, h1, h2, h3⟩ := I.i5.2.2.2.1 j hj
      rw [F _ (by omega) (by omega) (by omega) (by omega) (by omega) (by omega) (by omega), F _ (by omega) (by omega) (by omega) (by omega) (by omega) (by omega) (by omega), F _ (by omega) (by omega) (by omega) (by omega) (by omega) (by omega) (by omega), F _ (by omega) (by omega) (by omega) (by omega) (by omega) (by omega) (by omega)]
      exact ⟨d1, d2, x1, x2, by omega, by omega, h3⟩
    · rw [q3] at h
      rw [F _ (by omega) (by omega) (by omega) (by omega) (by omega) (by omega) (by omega)]
      exact z.1 j k hj h hk
    · rw [n4] at h
      rw [F _ (by omega) (by omega) (by omega) (by omega) (by omega) (by omega) (by omega)]
      exact z.2 j k hj (by omega) hk
  obtain ⟨i1, i2, i3, i4, i5, i6, i7, i8, i9, eq, ev, et, -⟩ := I
  exact ⟨by omega, by omega, by omega, by omega, by omega, by omega, by omega, by omega, by omega, eq.of3 (fun x h1 h2 => F x (by omega) (by omega) (by omega) (by omega) (by omega) (by omega) (by omega)) (by omega) q3, ev.of (fun x h1 h2 => F x (by omega) (by omega) (by omega) (by omega) (by omega) (by omega) (by omega)) (fun j hj => ⟨F _ (by omega) (by omega) (by omega) (by omega) (by omega) (by omega) (by omega), F _ (by omega) (by omega) (by omega) (by omega) (by omega) (by omega) (by omega)⟩) q3, et.of (fun j hj k hk => ⟨F _ (by omega) (by omega) (by omega) (by omega) (by omega) (by omega) (by omega), F _ (by omega) (by omega) (by omega) (by omega) (by omega) (by omega) (by omega)⟩) q3, J⟩
theorem tw_gDI_2 {g : tw_G} {n y i : Nat} {v dy f c : Int32} (h1 : i ≠ 2) (h7 : i ≠ 8) (h0 : i ≠ 132) (hi : i < 1152) : (tw_gI (tw_gD g (1152 + 8 * n) y v dy f c) 8 2).2 i = g.2 i := by
  show (if i = 2 then _ else if i = 8 then _ else _) = _
  rw [if_neg h1, if_neg h7]
  exact tw_gD_2 h0 (by omega) (by omega)
theorem tw_gDI_7 {g : tw_G} {n y : Nat} {v dy f c : Int32} : (tw_gI (tw_gD g (1152 + 8 * n) y v dy f c) 8 2).2 8 = g.2 8 + 1 ∧ (tw_gI (tw_gD g (1152 + 8 * n) y v dy f c) 8 2).2 2 = g.2 2 + 1 ∧ (tw_gI (tw_gD g (1152 + 8 * n) y v dy f c) 8 2).2 132 = 1152 + 8 * n + 8 := by
  refine ⟨?_, ?_, rfl⟩
  · show (tw_gD g (1152 + 8 * n) y v dy f c).2 8 + 1 = _
    rw [tw_gD_2 (by decide) (by omega) (by omega)]
  · show (tw_gD g (1152 + 8 * n) y v dy f c).2 2 + 1 = _
    rw [tw_gD_2 (by decide) (by omega) (by omega)]
theorem tw_S_owe {g gL : tw_G} {n y : Nat} {v dy f c : Int32} (hn : n < 10) (eL : gL = tw_gI (tw_gD g (1152 + 8 * n) y v dy f c) 8 2) : tw_sc g gL := fun b h => by
  rw [eL]
  show (tw_gD g (1152 + 8 * n) y v dy f c).1 b = _
  exact tw_gD_1 (by omega)
theorem tw_I9.owe {B : Nat} {g gL g9 : tw_G} {a b v dy : Int32} {y : Nat} (I : tw_I9 B g) (i : tw_ix (g.2 7) a ∧ tw_ix (g.2 7) b) (r : tw_RO a b v dy) (l : g.2 2 < 10) (eL : gL = tw_gI (tw_gD g (1152 + 8 * g.2 8) y v (nI (g.2 21) + dy) a b) 8 2) (gk : ∃ y9, tw_gk 5 (tw_gDM gL (1232 + 8 * gL.2 5) y9 v (nI (gL.2 22) + dy) a b) g9) : tw_I9 B g9 := by
  obtain ⟨b3, b4, b5, b22⟩ := I.bd
  obtain ⟨r0, r1, r2, r3⟩ := I.fr
  have c6 := I.c6
  have c7 := I.c7
  have c8 := I.c8
  have ct := I.ct
  have c25 := I.2.2.1
  have L : ∀ i, i ≠ 2 → i ≠ 8 → i ≠ 132 → i < 1152 → gL.2 i = g.2 i := by rw [eL]; exact fun i h1 h7 h0 hi => tw_gDI_2 h1 h7 h0 hi
  obtain ⟨k7, k1, k130⟩ : gL.2 8 = g.2 8 + 1 ∧ gL.2 2 = g.2 2 + 1 ∧ gL.2 132 = 1152 + 8 * g.2 8 + 8 := by rw [eL]; exact tw_gDI_7
  obtain ⟨n, en⟩ : ∃ n, n = g.2 5 := ⟨_, rfl⟩
  have s : tw_sc g gL := tw_S_owe (by omega) eL
  obtain ⟨y9, -, a1, a2, a3⟩ := gk
  rw [L 5 (by decide) (by decide) (by decide) (by decide), L 22 (by decide) (by decide) (by decide) (by decide), ← en, ← ct] at a1 a2 a3
  rw [c8, ← en] at eL k130
  have N : ∀ i, i ≠ 133 → i < 1152 → (tw_gDM gL (1232 + 8 * n) y9 v (nI (g.2 21) + dy) a b).2 i = gL.2 i := fun i h h2 => tw_gDM_2 h (by omega) (by omega)
  have n5 : g9.2 5 = n + 1 := by rw [a1, N 5 (by decide) (by decide), L 5 (by decide) (by decide) (by decide) (by decide), en]
  have n133 : g9.2 133 = 1232 + 8 * n + 8 := by rw [a2 133 (by decide) (by decide)]; rfl
  have P : ∀ i, i ≠ 5 → i ≠ 133 → (i < 10 ∨ i = 21 ∨ i = 22 ∨ i = 24 ∨ 130 ≤ i ∧ i < 134) → g9.2 i = gL.2 i := fun i h3 h9 h => by rw [a2 i (by omega) h3, N i h9 (by omega)]
  have Q : ∀ i, i ≠ 2 → i ≠ 5 → i ≠ 8 → i ≠ 132 → i ≠ 133 → (i < 10 ∨ i = 21 ∨ i = 22 ∨ i = 24 ∨ 130 ≤ i ∧ i < 134) → g9.2 i = g.2 i := fun i h1 h4 h7 h130 h131 h => by rw [P i h4 h131 h, L i h1 h7 h130 (by omega)]
  have q0 := Q 0 (by decide) (by decide) (by decide) (by decide) (by decide) (by decide)
  have q1 := Q 1 (by decide) (by decide) (by decide) (by decide) (by decide) (by decide)
  have q3 := Q 3 (by decide) (by decide) (by decide) (by decide) (by decide) (by decide)
  have q4 := Q 4 (by decide) (by decide) (by decide) (by decide) (by decide) (by decide)
  have q6 := Q 6 (by decide) (by decide) (by decide) (by decide) (by decide) (by decide)
  have q7 := Q 7 (by decide) (by decide) (by decide) (by decide) (by decide) (by decide)
  have q9 := Q 9 (by decide) (by decide) (by decide) (by decide) (by decide) (by decide)
  have q21 := Q 21 (by decide) (by decide) (by decide) (by decide) (by decide) (by decide)
  have q22 := Q 22 (by decide) (by decide) (by decide) (by decide) (by decide) (by decide)
  have q24 := Q 24 (by decide) (by decide) (by decide) (by decide) (by decide) (by decide)
  have q130 := Q 130 (by decide) (by decide) (by decide) (by decide) (by decide) (by decide)
  have q131 := Q 131 (by decide) (by decide) (by decide) (by decide) (by decide) (by decide)
  have p2 := P 2 (by decide) (by decide) (by decide)
  have p8 := P 8 (by decide) (by decide) (by decide)
  have p132 := P 132 (by decide) (by decide) (by decide)
  have W := tw_gDM_v (g := gL) (b := 1232 + 8 * n) (x := y9) (v := v) (dy := nI (g.2 21) + dy) (f := a) (c := b)
  have F1 : ∀ i, 128 ≤ i → (i < 1232 + 8 * n ∨ 1232 + 8 * n + 8 ≤ i) → g9.1 i = gL.1 i := fun i h1 h2 => by rw [a3 i h1, tw_gDM_1 h2]
  have F : ∀ i, 128 ≤ i → (i < 1232 + 8 * n ∨ 1232 + 8 * n + 8 ≤ i) → (i < 1152 + 8 * n ∨ 1152 + 8 * n + 8 ≤ i) → g9.1 i = g.1 i := fun i h1 h2 h3 => by
    rw [F1 i h1 h2, eL]
    show (tw_gD g (1152 + 8 * n) y v (nI (g.2 21) + dy) a b).1 i = _
    exact tw_gD_1 h3
  have e : tw_E2 gL g9 := by
    have z := (s.e2 I.i5.1).d (j := n) (x := y) (x2 := y9) (v := v) (dy := nI (g.2 21) + dy) (f := a) (c := b) (by omega)
    exact z.cg (fun x h => by rw [eL]; rfl) (fun x h => by have h := h.n; exact a3 x (by omega))
  have z := I.i5.2.2.2.2.1
  have J : tw_I5 B g9 := by
    refine ⟨e.cg (fun x h => by unfold tw_cc at h; exact F1 x (by omega) (by omega)) (fun _ _ => rfl), I.am.cg (fun x k hx hk => by have y := tw_ac_c x k; exact F _ (by omega) (by omega) (by omega)), fun j hj => ?_, fun j hj => ?_, ⟨fun j k hj h hk => ?_, fun j k hj h hk => ?_⟩, I.i5.2.2.2.2.2.1.cg (fun x h1 h2 => F x (by omega) (by omega) (by omega)), ⟨by omega, by omega, by omega, by omega⟩, by omega, by omega, by omega, by omega⟩
    · rw [q4] at hj
      rw [q22]
      exact (I.i5.2.2.1 j hj).cg (fun c hc => F _ (by omega) (by omega) (by omega)) (by rw [q3]; exact Nat.le_refl _)
    · rw [n5] at hj
      by_cases q : j = n
      · rw [q, a3 _ (by omega), a3 _ (by omega), a3 _ (by omega), a3 _ (by omega), W.1, W.2.1, W.2.2.2.1, W.2.2.2.2]
        obtain ⟨⟨x1, h1, e1⟩, x2, h2, e2⟩ := i
        obtain ⟨o1, o2, o3⟩ := r
        obtain ⟨m, -, hm, rfl⟩ := tw_I_rng (a := 1) (b := 9999) o2.1 o2.2 (by decide) (by decide)
        obtain ⟨w, -, hw, rfl⟩ := tw_I_rng (a := 0) (b := 1000) o3.1 o3.2 (by decide) (by decide)
        exact ⟨⟨m, hm, rfl⟩, ⟨g.2 21 + w, by omega, tw_niadd⟩, x1, x2, by omega, by omega, fun z9 => o1 (by rw [e1, e2, z9]), e1, e2⟩
      · rw [F _ (by omega) (by omega) (by omega), F _ (by omega) (by omega) (by omega), F _ (by omega) (by omega) (by omega), F _ (by omega) (by omega) (by omega), q4]
        exact I.i5.2.2.2.1 j (by omega)
    · rw [q3] at h
      rw [F _ (by omega) (by omega) (by omega)]
      exact z.1 j k hj h hk
    · rw [q4] at h
      rw [F _ (by omega) (by omega) (by omega)]
      exact z.2 j k hj h hk
  obtain ⟨i1, i2, i3, i4, i5, i6, i7, i8, i9, eq, ev, et, -⟩ := I
  exact ⟨by omega, by omega, by omega, by omega, by omega, by omega, by omega, by omega, by omega, eq.of3 (fun x h1 h2 => F x (by omega) (by omega) (by omega)) (by omega) q3, ev.of (fun x h1 h2 => F x (by omega) (by omega) (by omega)) (fun j hj => ⟨F _ (by omega) (by omega) (by omega), F _ (by omega) (by omega) (by omega)⟩) q3, et.of (fun j hj k hk => ⟨F _ (by omega) (by omega) (by omega), F _ (by omega) (by omega) (by omega)⟩) q3, J⟩
/-! pass -/
theorem tw_S_pass {g gL : tw_G} {D : Nat} (h6 : g.2 6 ≤ 4) (h7 : g.2 7 ≤ 6) (eL : gL = tw_dsC g D) : tw_sc g gL := fun b h => by
  rw [eL]
  exact tw_dsC_1 g h6 h7 D b (by omega)
theorem tw_I9.pass {B D : Nat} {g gL g9 : tw_G} (I : tw_I9 B g) (hB : B ≤ 59000000) (hD : g.2 21 + D ≤ 3000) (eL : gL = tw_dsC g D) (e9 : g9 = tw_dsM gL D) : tw_I9 B g9 := by
  obtain ⟨b3, b4, b5, b22⟩ := I.bd
  have c6 := I.c6
  have c7 := I.c7
  have ct := I.ct
  have l2 : gL.2 = (tw_g2 g 21 (g.2 21 + D)).2 := by rw [eL]; exact tw_dsC_2 g D
  have l3 : gL.2 3 = g.2 3 := by rw [l2]; rfl
  have l4 : gL.2 4 = g.2 4 := by rw [l2]; rfl
  have l22 : gL.2 22 = g.2 22 := by rw [l2]; rfl
  have n2 : g9.2 = (tw_g2 gL 22 (gL.2 22 + D)).2 := by rw [e9]; exact tw_dsM_2 gL D
  have n2' : ∀ i, i ≠ 21 → i ≠ 22 → g9.2 i = g.2 i := fun i h1 h2 => by
    rw [n2]
    show (if i = 22 then _ else gL.2 i) = _
    rw [if_neg h2, l2]
    exact if_neg h1
  have n21 : g9.2 21 = g.2 21 + D := by
    rw [n2]
    show gL.2 21 = _
    rw [l2]
    rfl
  have n22 : g9.2 22 = g.2 22 + D := by
    rw [n2]
    show gL.2 22 + D = _
    rw [l22]
  have J := I.i5.pass (by omega) c6 c7 ct b3 b4 b5 (by omega) eL e9
  refine I.re5 (fun i h1 h2 => ?_) n2' (by omega) J
  unfold tw_x5 at h2
  rw [e9, tw_dsM_1 gL (by omega) (by omega) D i (by omega), eL]
  exact tw_dsC_1 g (by omega) (by omega) D i (by omega)
theorem tw_gCI5_2 {g : tw_G} {n y d f t m v i : Nat} {r c go si u w : Int32} (h0 : i ≠ 0) (h6 : i ≠ 6) (h24 : i ≠ 24) (hi : i < 160) : (tw_ad (tw_ad (tw_gI (tw_gC g (160 + 64 * n) y d f t m v r c go si) 6 0) (1336 + 0) u) (1336 + 1) w).2 i = g.2 i := tw_gCI_2 h0 h6 h24 hi
theorem tw_S_country {g gL : tw_G} {n y d f t m v : Nat} {r c go si u w : Int32} (hn : n < 4) (eL : gL = tw_ad (tw_ad (tw_gI (tw_gC g (160 + 64 * n) y d f t m v r c go si) 6 0) (1336 + 0) u) (1336 + 1) w) : tw_sc g gL := fun b h => by
  rw [eL, tw_ad_ne (by omega), tw_ad_ne (by omega)]
  show (tw_gC g (160 + 64 * n) y d f t m v r c go si).1 b = _
  exact tw_gC_1 (by omega)
theorem tw_I9.country {B K9 : Nat} {g gL g9 : tw_G} {y d f t m v9 : Nat} {r ct go si : Int32} (I : tw_I9 B g) (hR : (100 ≤ r ∧ r ≤ 200) ∧ 0 ≤ ct ∧ ct ≤ 50) (hG : (0 ≤ go ∧ go ≤ 99999) ∧ 0 ≤ si ∧ si ≤ 99999) (hC : B + 99999 ≤ K9) (hC2 : K9 ≤ 60000000) (hL : g.2 0 < 4) (a : ∃ y9 o9 t9 w8, tw_gk 3 (tw_gN (tw_ad (tw_ad gL (1368 + 0) go) (1368 + 1) si) (480 + 64 * gL.2 3) y9 o9 t9 w8 r ct go si) g9) (eL : gL = tw_ad (tw_ad (tw_gI (tw_gC g (160 + 64 * g.2 0) y d f t m v9 r ct go si) 6 0) (1336 + 0) go) (1336 + 1) si) : tw_I9 K9 g9 := by
  have I0 := I
  obtain ⟨y9, o9, t9, w8, a0, a1, a2, a3⟩ := a
  have e := I.eq
  have v := I.ev
  have w9 := I.et
  obtain ⟨i1, i2, i3, i4, i5, i6, i7, i8, i9, -⟩ := I
  have L : ∀ i, i ≠ 0 → i ≠ 6 → i ≠ 24 → i < 160 → gL.2 i = g.2 i := by rw [eL]; exact fun i h0 h6 h24 hi => tw_gCI5_2 h0 h6 h24 hi
  have l3 := L 3 (by decide) (by decide) (by decide) (by decide)
  have c0 : (tw_gC g (160 + 64 * g.2 0) y d f t m v9 r ct go si).2 0 = g.2 0 := tw_gC_2 (by decide) (by omega) (by omega)
  have c6 : (tw_gC g (160 + 64 * g.2 0) y d f t m v9 r ct go si).2 6 = g.2 6 := tw_gC_2 (by decide) (by omega) (by omega)
  have l0 : gL.2 0 = g.2 0 + 1 := by rw [eL]; show (tw_gC g (160 + 64 * g.2 0) y d f t m v9 r ct go si).2 0 + 1 = _; rw [c0]
  have l6 : gL.2 6 = g.2 6 + 1 := by rw [eL]; show (tw_gC g (160 + 64 * g.2 0) y d f t m v9 r ct go si).2 6 + 1 = _; rw [c6]
  have l24 : gL.2 24 = 160 + 64 * g.2 0 + 64 := by rw [eL]; rfl
  rw [l3] at a1 a2 a3
  have N : ∀ i, i ≠ 9 → i < 480 → (tw_gN (tw_ad (tw_ad gL (1368 + 0) go) (1368 + 1) si) (480 + 64 * g.2 3) y9 o9 t9 w8 r ct go si).2 i = gL.2 i := fun i h h2 => tw_gN_2 h (by omega) (by omega)
  have n3 : g9.2 3 = g.2 3 + 1 := by rw [a1, N 3 (by decide) (by decide), l3]
  have n9 : g9.2 9 = 480 + 64 * g.2 3 + 64 := by rw [a2 9 (by decide) (by decide)]; rfl
  have P : ∀ i, i ≠ 3 → i ≠ 9 → (i < 10 ∨ i = 21 ∨ i = 22 ∨ i = 24 ∨ 130 ≤ i ∧ i < 134) → g9.2 i = gL.2 i := fun i h3 h9 h => by rw [a2 i (by omega) h3, N i h9 (by omega)]
  have p0 := P 0 (by decide) (by decide) (by decide)
  have p1 := P 1 (by decide) (by decide) (by decide)
  have p2 := P 2 (by decide) (by decide) (by decide)
  have p4 := P 4 (by decide) (by decide) (by decide)
  have p5 := P 5 (by decide) (by decide) (by decide)
  have p6 := P 6 (by decide) (by decide) (by decide)
  have p7 := P 7 (by decide) (by decide) (by decide)
  have p8 := P 8 (by decide) (by decide) (by decide)
  have p21 := P 21 (by decide) (by decide) (by decide)
  have p22 := P 22 (by decide) (by decide) (by decide)
  have p24 := P 24 (by decide) (by decide) (by decide)
  rw [L 1 (by decide) (by decide) (by decide) (by decide)] at p1
  rw [L 2 (by decide) (by decide) (by decide) (by decide)] at p2
  rw [L 4 (by decide) (by decide) (by decide) (by decide)] at p4
  rw [L 5 (by decide) (by decide) (by decide) (by decide)] at p5
  rw [L 7 (by decide) (by decide) (by decide) (by decide)] at p7
  rw [L 8 (by decide) (by decide) (by decide) (by decide)] at p8
  rw [L 21 (by decide) (by decide) (by decide) (by decide)] at p21
  rw [L 22 (by decide) (by decide) (by decide) (by decide)] at p22
  have C : ∀ i, 128 ≤ i ∧ i < 1312 → (i < 160 + 64 * g.2 0 ∨ 160 + 64 * g.2 0 + 40 ≤ i) → (i < 480 + 64 * g.2 3 ∨ 480 + 64 * g.2 3 + 32 ≤ i) → g9.1 i = g.1 i := fun i h1 h2 h3 => by
    rw [a3 i h1.1, tw_gN_1 (by omega), tw_ad_ne (by omega), tw_ad_ne (by omega), eL, tw_ad_ne (by omega), tw_ad_ne (by omega)]
    show (tw_gC g (160 + 64 * g.2 0) y d f t m v9 r ct go si).1 i = _
    exact tw_gC_1 (by omega)
  have V := tw_gC_v (g := g) (b := 160 + 64 * g.2 0) (x := y) (rd := d) (rf := f) (t := t) (m := m) (v := v9) (r := r) (c := ct) (gd := go) (sv := si)
  have W := tw_gN_v (g := tw_ad (tw_ad gL (1368 + 0) go) (1368 + 1) si) (b := 480 + 64 * g.2 3) (x := y9) (o := o9) (t := t9) (v := w8) (r := r) (c := ct) (gd := go) (sv := si)
  have D : ∀ i, 128 ≤ i ∧ i < 1312 → (i < 480 + 64 * g.2 3 ∨ 480 + 64 * g.2 3 + 32 ≤ i) → g9.1 i = (tw_gC g (160 + 64 * g.2 0) y d f t m v9 r ct go si).1 i := fun i h1 h3 => by
    rw [a3 i h1.1, tw_gN_1 (by omega), tw_ad_ne (by omega), tw_ad_ne (by omega), eL, tw_ad_ne (by omega), tw_ad_ne (by omega)]
    rfl
  refine ⟨by omega, by omega, by omega, by omega, by omega, by omega, by omega, by omega, by omega, ⟨fun j hj => ⟨fun hl => ?_, fun hl k hk => ?_⟩, ?_, ?_, ?_⟩⟩
  · have ej := e j hj
    by_cases q : j = g.2 0
    · have q3 : j = g.2 3 := by omega
      rw [← q] at D V
      rw [← q3] at D W
      have E := ej.2 (by omega)
      refine ⟨?_, ?_, ?_, ?_, fun k hk => ⟨?_, ?_⟩⟩
      · rw [D _ (by omega) (by omega), a3 _ (by omega), ← q3, V.1, W.1]
      · rw [D _ (by omega) (by omega), a3 _ (by omega), ← q3, V.2.1, W.2.1]
      · rw [D _ (by omega) (by omega), a3 _ (by omega), ← q3, V.2.2.1]; exact (W.2.2 0 (by decide)).symm
      · rw [D _ (by omega) (by omega), a3 _ (by omega), ← q3, V.2.2.2.1]; exact (W.2.2 1 (by decide)).symm
      · rw [D _ (by omega) (by omega), C _ (by omega) (by omega) (by omega), V.2.2.2.2.1 k hk, (E k hk).1]
      · rw [D _ (by omega) (by omega), C _ (by omega) (by omega) (by omega), V.2.2.2.2.2 k hk, (E k hk).2]
    · obtain ⟨b1, b2, b3, b4, b5⟩ := ej.1 (by omega)
      refine ⟨?_, ?_, ?_, ?_, fun k hk => ⟨?_, ?_⟩⟩
      · rw [C _ (by omega) (by omega) (by omega), C (480 + 64 * j) (by omega) (by omega) (by omega)]; exact b1
      · rw [C _ (by omega) (by omega) (by omega), C (480 + 64 * j + 1) (by omega) (by omega) (by omega)]; exact b2
      · rw [C _ (by omega) (by omega) (by omega), C (480 + 64 * j + 8) (by omega) (by omega) (by omega)]; exact b3
      · rw [C _ (by omega) (by omega) (by omega), C (480 + 64 * j + 9) (by omega) (by omega) (by omega)]; exact b4
      · rw [C _ (by omega) (by omega) (by omega), C (416 + 8 * j + k) (by omega) (by omega) (by omega)]; exact (b5 k hk).1
      · rw [C _ (by omega) (by omega) (by omega), C (448 + 8 * j + k) (by omega) (by omega) (by omega)]; exact (b5 k hk).2
  · have E := (e j hj).2 (by omega) k hk
    rw [C _ (by omega) (by omega) (by omega), C _ (by omega) (by omega) (by omega)]
    exact E
  · refine ⟨fun j hj => ?_, fun a b ha hb => ?_⟩
    · by_cases q : j = g.2 3
      · rw [a3 _ (by omega), a3 _ (by omega), q, W.1, W.2.1]; exact hR
      · rw [C _ (by omega) (by omega) (by omega), C _ (by omega) (by omega) (by omega)]; exact v.1 j (by omega)
    · rw [C _ (by omega) (by omega) (by omega), C (448 + 8 * b + a) (by omega) (by omega) (by omega)]; exact v.2 a b ha hb
  · intro j hj k hk
    by_cases q : j = g.2 3
    · have z1 : g9.1 (160 + 64 * j + 32 + k) = 0 := by
        rw [D _ (by omega) (by omega), show 160 + 64 * j + 32 + k = 160 + 64 * g.2 0 + 32 + k by omega]
        exact tw_gC_v5 k hk
      have z2 : g9.1 (480 + 64 * j + 24 + k) = 0 := by
        rw [a3 _ (by omega), show 480 + 64 * j + 24 + k = 480 + 64 * g.2 3 + 24 + k by omega]
        exact tw_gN_v5 k hk
      rw [z1, z2]
      exact ⟨rfl, by decide, by decide⟩
    · rw [C _ (by omega) (by omega) (by omega), C (480 + 64 * j + 24 + k) (by omega) (by omega) (by omega)]
      exact w9 j (by omega) k hk
  · have s : tw_sc g gL := tw_S_country (n := g.2 0) (by omega) eL
    obtain ⟨f0, f1, f2, f3⟩ := I0.fr
    obtain ⟨b3, b4, b5, b22⟩ := I0.bd
    have c7 := I0.c7
    have c8 := I0.c8
    have cg := tw_gC_g (g := g) (b := 160 + 64 * g.2 0) (x := y) (rd := d) (rf := f) (t := t) (m := m) (v := v9) (r := r) (c := ct) (gd := go) (sv := si)
    have mg := tw_gN_g (g := tw_ad (tw_ad gL (1368 + 0) go) (1368 + 1) si) (b := 480 + 64 * g.2 3) (x := y9) (o := o9) (t := t9) (v := w8) (r := r) (c := ct) (gd := go) (sv := si)
    obtain ⟨n, en⟩ : ∃ n, n = g.2 3 := ⟨_, rfl⟩
    have en0 : g.2 0 = n := by omega
    rw [← en] at a3 mg C
    rw [en0] at eL cg C
    have w16 : g9.1 (480 + 64 * n + 16) = go := by rw [a3 _ (by omega)]; exact mg.1
    have w17 : g9.1 (480 + 64 * n + 17) = si := by rw [a3 _ (by omega)]; exact mg.2
    have m0 : g9.1 1368 = g.1 1368 + go := by
      rw [a3 _ (by omega), tw_gN_1 (by omega), tw_ad_ne (by omega), show (1368 : Nat) = 1368 + 0 from rfl, tw_ad_eq, s _ (by omega)]
    have m1 : g9.1 1369 = g.1 1369 + si := by
      rw [a3 _ (by omega), tw_gN_1 (by omega), show (1369 : Nat) = 1368 + 1 from rfl, tw_ad_eq, tw_ad_ne (by omega), s _ (by omega)]
    have l24 : gL.1 (160 + 64 * n + 24) = go := by
      rw [eL, tw_ad_ne (by omega), tw_ad_ne (by omega)]
      exact cg.1
    have l25 : gL.1 (160 + 64 * n + 25) = si := by
      rw [eL, tw_ad_ne (by omega), tw_ad_ne (by omega)]
      exact cg.2
    have F1 : ∀ i, 128 ≤ i → (i < 480 + 64 * n ∨ 480 + 64 * n + 32 ≤ i) → i ≠ 1368 → i ≠ 1369 → g9.1 i = gL.1 i := fun i h1 h2 h3 h4 => by
      rw [a3 i h1, tw_gN_1 h2, tw_ad_ne (by omega), tw_ad_ne (by omega)]
    have e5 : tw_E2 gL g9 := by
      have z := ((((s.e2 I0.i5.1).g1 (v := go) (w := go) (a := 160 + 64 * n + 24) (b := 480 + 64 * n + 16) (by unfold tw_pr; omega) rfl).g1 (v := si) (w := si) (a := 160 + 64 * n + 25) (b := 480 + 64 * n + 17) (by unfold tw_pr; omega) rfl).ad (v := go) (w := go) (a := 1336) (b := 1368) (by unfold tw_pr; omega) rfl).ad (v := si) (w := si) (a := 1337) (b := 1369) (by unfold tw_pr; omega) rfl
      refine z.cg (fun x h => ?_) (fun x h => ?_)
      · unfold tw_cc at h
        by_cases q1 : x = 160 + 64 * n + 24
        · rw [q1, l24, tw_ad_ne (by omega), tw_ad_ne (by omega), tw_g1_ne (by omega), tw_g1_eq]
        · by_cases q2 : x = 160 + 64 * n + 25
          · rw [q2, l25, tw_ad_ne (by omega), tw_ad_ne (by omega), tw_g1_eq]
          · by_cases q3 : x = 1336
            · rw [q3, tw_ad_ne (by omega), tw_ad_eq, tw_g1_ne (by omega), tw_g1_ne (by omega), eL, tw_ad_ne (by omega)]
              exact congrArg (fun v : Int32 => v + go) (show (tw_gC g (160 + 64 * n) y d f t m v9 r ct go si).1 1336 = g.1 1336 from tw_gC_1 (by omega))
            · by_cases q4 : x = 1337
              · rw [q4, tw_ad_eq, tw_ad_ne (by omega), tw_g1_ne (by omega), tw_g1_ne (by omega), eL]
                exact congrArg (fun v : Int32 => v + si) ((tw_ad_ne (by omega)).trans (show (tw_gC g (160 + 64 * n) y d f t m v9 r ct go si).1 1337 = g.1 1337 from tw_gC_1 (by omega)))
              · rw [tw_ad_ne q4, tw_ad_ne q3, tw_g1_ne q2, tw_g1_ne q1, eL, tw_ad_ne (by omega), tw_ad_ne (by omega)]
                show (tw_gC g (160 + 64 * n) y d f t m v9 r ct go si).1 x = _
                exact tw_gC_1 (by omega)
      · unfold tw_mc at h
        by_cases q1 : x = 480 + 64 * n + 16
        · rw [q1, w16, tw_ad_ne (by omega), tw_ad_ne (by omega), tw_g1_ne (by omega), tw_g1_eq]
        · by_cases q2 : x = 480 + 64 * n + 17
          · rw [q2, w17, tw_ad_ne (by omega), tw_ad_ne (by omega), tw_g1_eq]
          · by_cases q3 : x = 1368
            · rw [q3, m0, tw_ad_ne (by omega), tw_ad_eq, tw_g1_ne (by omega), tw_g1_ne (by omega), s _ (by omega)]
            · by_cases q4 : x = 1369
              · rw [q4, m1, tw_ad_eq, tw_ad_ne (by omega), tw_g1_ne (by omega), tw_g1_ne (by omega), s _ (by omega)]
              · rw [tw_ad_ne q4, tw_ad_ne q3, tw_g1_ne q2, tw_g1_ne q1]
                exact F1 x (by omega) (by omega) q3 q4
    have z := I0.i5.2.2.2.2.1
    have a1' : ∀ k, k < 2 → 480 + 64 * n + 16 + k = tw_ac n k := fun k hk => by rw [tw_ac_v (by omega)]; omega
    have am : tw_AM K9 g9 := by
      refine I0.am.up2 (i := n) hC hC2 (by omega) hG.1 hG.2 ?_ ?_ ?_ ?_ ?_ ?_ (fun b k hb hk hn => ?_)
      · rw [← a1' 0 (by decide)]; exact z.1 n 0 (by omega) (by omega) (by decide)
      · rw [← a1' 1 (by decide)]; exact z.1 n 1 (by omega) (by omega) (by decide)
      · rw [← a1' 0 (by decide)]; exact w16
      · rw [← a1' 1 (by decide)]; exact w17
      · exact m0
      · exact m1
      · have x := tw_ac_c b k
        rw [F1 _ (by omega) (by omega) (by omega) (by omega)]
        exact s _ (by omega)
    have p130 := P 130 (by decide) (by decide) (by decide)
    have p131 := P 131 (by decide) (by decide) (by decide)
    have p132 := P 132 (by decide) (by decide) (by decide)
    have p133 := P 133 (by decide) (by decide) (by decide)
    rw [L 130 (by decide) (by decide) (by decide) (by decide)] at p130
    rw [L 131 (by decide) (by decide) (by decide) (by decide)] at p131
    rw [L 132 (by decide) (by decide) (by decide) (by decide)] at p132
    rw [L 133 (by decide) (by decide) (by decide) (by decide)] at p133
    refine ⟨e5.cg (fun x h => by unfold tw_cc at h; exact F1 x (by omega) (by omega) (by omega) (by omega)) (fun _ _ => rfl), am, fun j hj => ?_, fun j hj => ?_, ⟨fun j k hj h hk => ?_, fun j k hj h hk => ?_⟩, I0.i5.2.2.2.2.2.1.cg (fun x h1 h2 => C x (by omega) (by omega) (by omega)), ⟨by omega, by omega, by omega, by omega⟩, by omega, by omega, by omega, by omega⟩
    · rw [p4] at hj
      rw [p22]
      exact (I0.i5.2.2.1 j hj).cg (fun c hc => C _ (by omega) (by omega) (by omega)) (by omega)
    · rw [p5] at hj
      rw [C _ (by omega) (by omega) (by omega), C _ (by omega) (by omega) (by omega), C _ (by omega) (by omega) (by omega), C _ (by omega) (by omega) (by omega), p4]
      exact I0.i5.2.2.2.1 j hj
    · rw [C _ (by omega) (by omega) (by omega)]
      exact z.1 j k hj (by omega) hk
    · rw [p4] at h
      rw [C _ (by omega) (by omega) (by omega)]
      exact z.2 j k hj h hk
/-! what is asked: the same on both sides -/
theorem tw_I9.cv5 {B : Nat} {g : tw_G} (I : tw_I9 B g) (h : B ≤ 59000000) : tw_CV g := fun j hj k hk => by
  obtain ⟨b3, -⟩ := I.bd
  have c6 := I.c6
  have z := I.am.v (j := j) (k := k) (by omega) hk
  rw [I.i5.1 _ _ (tw_pr.v (j := j) (k := k) (by omega) hk)]
  exact ⟨z.1, Nat.le_trans z.2 h⟩
theorem tw_I9.wv {B : Nat} {g : tw_G} (I : tw_I9 B g) {k w : Nat} (hk : k < 2) (hw : w ≤ 5) : tw_wC g k w = nI (tw_wM g k w) := by
  obtain ⟨b3, b4, -⟩ := I.bd
  rcases (show w = 0 ∨ w = 1 ∨ ∃ s, s < 4 ∧ w = s + 2 by rcases (show w = 0 ∨ w = 1 ∨ 2 ≤ w by omega) with z | z | z; exact Or.inl z; exact Or.inr (Or.inl z); exact Or.inr (Or.inr ⟨w - 2, by omega, by omega⟩)) with rfl | rfl | ⟨s, hs, rfl⟩
  · show tw_isum (fun j => g.1 (160 + 64 * j + 24 + k)) (g.2 6) = nI (tw_sum (fun j => tw_DN (g.1 (480 + 64 * j + 16 + k))) (g.2 3))
    rw [I.c6]
    exact tw_isum_n _ (fun j hj => (I.ev2 (by omega) hk).1)
  · show tw_isum (fun j => g.1 (768 + 32 * j + 8 + k)) (g.2 7) = nI (tw_sum (fun j => tw_DN (g.1 (960 + 32 * j + 8 + k))) (g.2 4))
    rw [I.c7]
    exact tw_isum_n _ (fun j hj => (I.ep2 (by omega) hk).1)
  · show g.1 (1312 + 8 * s + k) = nI (tw_DN (g.1 (1344 + 8 * s + k)))
    exact (I.i5.1 _ _ (by unfold tw_pr; omega)).trans (I.am.s hs hk).1
theorem tw_V_world {B : Nat} {g : tw_G} {m wh : Int32} (I : tw_I9 B g) (r : tw_RW m wh) : tw_wC g (tw_DN m) (tw_DN wh) = nI (tw_wM g (tw_DN m) (tw_DN wh)) := by
  obtain ⟨k, hk, rfl⟩ := r.1.k
  obtain ⟨w, -, hw, rfl⟩ := tw_I_rng (a := 0) (b := 5) r.2.1 r.2.2 (by decide) (by decide)
  rw [tw_dn (j := k) (by omega), tw_dn (j := w) (by omega)]
  exact I.wv hk hw
theorem tw_V_last {B : Nat} {g : tw_G} {a m gr : Int32} (I : tw_I9 B g) (i : tw_ix (g.2 6) a) (r : tw_RG1 m gr) : tw_ld (g.2 21) (tw_DN m) (tw_DN gr) (3001 - g.2 21) (g.2 21) (tw_DN (g.1 (160 + 64 * tw_DN a + 24 + tw_DN m))) = tw_ld (g.2 22) (tw_DN m) (tw_DN gr) (3001 - g.2 22) (g.2 22) (tw_DN (g.1 (480 + 64 * tw_DN a + 16 + tw_DN m))) := by
  rw [I.ct, I.vv tw_sc.rf i r]
theorem tw_MK.nn {g : tw_G} (m : tw_MK g) : g.1 1 = nI (tw_DN (g.1 1)) ∧ tw_DN (g.1 1) ≤ 200 := by
  have z := tw_DNr (a := 100) (b := 200) m.2.1 m.2.2 (by decide) (by decide)
  exact ⟨z.2.2, z.2.1⟩
theorem tw_I9.cw5 {B : Nat} {g : tw_G} (I : tw_I9 B g) (m : tw_MK g) (h : B ≤ 59000000) : tw_CW g := by
  obtain ⟨b3, b4, -⟩ := I.bd
  have c7 := I.c7
  refine ⟨I.cv5 h, fun j hj k hk => ?_, by rw [m.1]; exact m.nn⟩
  have z := I.am.p (j := j) (k := k) (by omega) hk
  rw [I.i5.1 (768 + 32 * j + 8 + k) (960 + 32 * j + 8 + k) (by unfold tw_pr; omega)]
  exact ⟨z.1, Nat.le_trans z.2 h⟩
theorem tw_I9.cx5 {B : Nat} {g : tw_G} (I : tw_I9 B g) (m : tw_MK g) (h : B ≤ 59000000) : tw_CX g := ⟨I.ch5 h, by rw [m.1]; exact m.nn⟩
theorem tw_I9.hs5 {B : Nat} {g : tw_G} (I : tw_I9 B g) (i : Nat) (hi : i < g.2 4) (n : g.1 (960 + 32 * i + 1) ≠ -1) : tw_mP g i < g.2 3 := by
  obtain ⟨b3, b4, -⟩ := I.bd
  rw [I.mP tw_sc.rf (by omega)]
  exact I.pl hi (by rw [I.pe (by omega) (by decide)]; exact n)
theorem tw_V_ofHouse {B : Nat} {g : tw_G} {a wh : Int32} (I : tw_I9 B g) (m : tw_MK g) (i : tw_ix (g.2 7) a) (r : 0 ≤ wh ∧ wh ≤ 7) : tw_hC g (tw_DN a) (tw_DN wh) = tw_hM g (tw_DN a) (tw_DN wh) := by
  obtain ⟨b3, b4, b5, -⟩ := I.bd
  have c7 := I.c7
  obtain ⟨j, hj, rfl⟩ := i
  obtain ⟨w, -, hw, rfl⟩ := tw_I_rng (a := 0) (b := 7) r.1 r.2 (by decide) (by decide)
  rw [tw_dn (j := j) (by omega), tw_dn (j := w) (by omega)]
  have p0 : g.1 (768 + 32 * j + 8 + 0) = g.1 (960 + 32 * j + 8 + 0) := I.i5.1 _ _ (by unfold tw_pr; omega)
  have p1 : g.1 (768 + 32 * j + 8 + 1) = g.1 (960 + 32 * j + 8 + 1) := I.i5.1 _ _ (by unfold tw_pr; omega)
  rcases (show w = 0 ∨ w = 1 ∨ w = 2 ∨ w = 3 ∨ w = 4 ∨ w = 5 ∨ w = 6 ∨ w = 7 by omega) with rfl | rfl | rfl | rfl | rfl | rfl | rfl | rfl
  · exact I.pe (by omega) (by decide)
  · exact I.pe (by omega) (by decide)
  · exact I.pe (by omega) (by decide)
  · exact p0
  · exact p1
  · show tw_wo (g.1 (768 + 32 * j + 8 + 0)) (g.1 (768 + 32 * j + 8 + 1)) (g.1 0) = tw_wo (g.1 (960 + 32 * j + 8 + 0)) (g.1 (960 + 32 * j + 8 + 1)) (g.1 1)
    rw [p0, p1, m.1]
  · show tw_isum _ (g.2 8) = tw_isum _ (g.2 5)
    rw [I.c8]
    exact tw_isum_c _ (fun i hi => by rw [I.de (a := i) (c := 2) (by omega) (by decide), I.de (a := i) (c := 3) (by omega) (by decide)])
  · show tw_isum _ (g.2 8) = tw_isum _ (g.2 5)
    rw [I.c8]
    exact tw_isum_c _ (fun i hi => by rw [I.de (a := i) (c := 2) (by omega) (by decide), I.de (a := i) (c := 4) (by omega) (by decide)])
theorem tw_V_ofDebt {B : Nat} {g : tw_G} {a wh : Int32} (I : tw_I9 B g) (m : tw_MK g) (i : tw_ix (g.2 8) a) (r : 0 ≤ wh ∧ wh ≤ 6) : tw_dC g (tw_DN a) (tw_DN wh) = tw_dM g (tw_DN a) (tw_DN wh) := by
  obtain ⟨b3, b4, b5, b22⟩ := I.bd
  have c8 := I.c8
  obtain ⟨j, hj, rfl⟩ := i
  obtain ⟨w, -, hw, rfl⟩ := tw_I_rng (a := 0) (b := 6) r.1 r.2 (by decide) (by decide)
  rw [tw_dn (j := j) (by omega), tw_dn (j := w) (by omega)]
  have d2 := I.de (a := j) (c := 2) (by omega) (by decide)
  have sd : tw_sd g j = tw_md g j := by
    unfold tw_sd tw_md
    rw [I.de (a := j) (c := 0) (by omega) (by decide), I.de (a := j) (c := 1) (by omega) (by decide), I.ct]
  rcases (show w = 0 ∨ w = 1 ∨ w = 2 ∨ w = 3 ∨ w = 4 ∨ w = 5 ∨ w = 6 by omega) with rfl | rfl | rfl | rfl | rfl | rfl | rfl
  · exact I.de (by omega) (by decide)
  · exact I.de (by omega) (by decide)
  · exact I.de (by omega) (by decide)
  · exact I.de (by omega) (by decide)
  · show (if g.1 (1152 + 8 * j + 2) = 0 then nI (tw_sd g j) else 0) = if g.1 (1232 + 8 * j + 2) = 0 then nI (tw_md g j) else 0
    rw [d2, sd]
  · show (if g.1 (1152 + 8 * j + 2) = 0 then (0 : Int32) else 1) = if g.1 (1232 + 8 * j + 2) = 0 then 0 else 1
    rw [d2]
  · obtain ⟨x, y, hx, hy, nxy, d1, -, d3, -⟩ := I.deb (a := j) (by omega)
    show (if g.1 (1152 + 8 * j + 2) = 0 ∧ g.1 (768 + 32 * tw_dF g j + 1) ≠ -1 then tw_ck (tw_sg g j 0) (tw_sd g j) (tw_DN (g.1 0)) else -1) = if g.1 (1232 + 8 * j + 2) = 0 ∧ g.1 (960 + 32 * tw_eF g j + 1) ≠ -1 then tw_ck (tw_ms g j 0) (tw_md g j) (tw_DN (g.1 1)) else -1
    rw [d2, d1, d3, I.pe (a := x) (c := 1) (by omega) (by decide), m.1, sd]
    by_cases np : g.1 (960 + 32 * x + 1) = -1
    · rw [if_neg (fun z => z.2 np), if_neg (fun z => z.2 np)]
    · have hp : tw_cP g (tw_dF g j) < g.2 3 := by rw [d1]; exact I.pl hx (by rw [I.pe (by omega) (by decide)]; exact np)
      rw [I.ms tw_sc.rf rfl (by omega) (by omega) hp]
theorem tw_V_ofCountry {B : Nat} {g : tw_G} {a wh : Int32} (I : tw_I9 B g) (m : tw_MK g) (i : tw_ix (g.2 6) a) (r : 0 ≤ wh ∧ wh ≤ 8) : tw_oC g (tw_DN a) (tw_DN wh) = tw_oM g (tw_DN a) (tw_DN wh) := by
  obtain ⟨b3, b4, b5, -⟩ := I.bd
  have c6 := I.c6
  have c7 := I.c7
  obtain ⟨j, hj, rfl⟩ := i
  obtain ⟨w, -, hw, rfl⟩ := tw_I_rng (a := 0) (b := 8) r.1 r.2 (by decide) (by decide)
  rw [tw_dn (j := j) (by omega), tw_dn (j := w) (by omega)]
  obtain ⟨e1, e2, e3, e4, -⟩ := (I.eq j (by omega)).1 (by omega)
  have p0 : g.1 (160 + 64 * j + 24 + 0) = g.1 (480 + 64 * j + 16 + 0) := I.i5.1 _ _ (tw_pr.v (by omega) (by decide))
  have p1 : g.1 (160 + 64 * j + 24 + 1) = g.1 (480 + 64 * j + 16 + 1) := I.i5.1 _ _ (tw_pr.v (by omega) (by decide))
  rcases (show w = 0 ∨ w = 1 ∨ w = 2 ∨ w = 3 ∨ w = 4 ∨ w = 5 ∨ w = 6 ∨ w = 7 ∨ w = 8 by omega) with rfl | rfl | rfl | rfl | rfl | rfl | rfl | rfl | rfl
  · exact e1
  · exact e2
  · exact p0
  · exact p1
  · show tw_oS (g.1 (160 + 64 * j + 2)) (g.1 (160 + 64 * j + 3)) = tw_oS (g.1 (480 + 64 * j + 8 + 0)) (g.1 (480 + 64 * j + 8 + 1))
    rw [e3, e4]
  · show tw_isum _ (g.2 7) = tw_isum _ (g.2 4)
    rw [I.c7]
    exact tw_isum_c _ (fun i hi => by rw [I.pe (a := i) (c := 1) (by omega) (by decide)])
  · show tw_wo (g.1 (160 + 64 * j + 24 + 0)) (g.1 (160 + 64 * j + 24 + 1)) (g.1 0) = tw_wo (g.1 (480 + 64 * j + 16 + 0)) (g.1 (480 + 64 * j + 16 + 1)) (g.1 1)
    rw [p0, p1, m.1]
  · show tw_pn (fun k => g.1 (160 + 64 * j + 32 + k)) = tw_pn (fun k => g.1 (480 + 64 * j + 24 + k))
    unfold tw_pn
    dsimp only
    rw [(I.et j (by omega) 0 (by decide)).1, (I.et j (by omega) 1 (by decide)).1, (I.et j (by omega) 2 (by decide)).1, (I.et j (by omega) 3 (by decide)).1, (I.et j (by omega) 4 (by decide)).1]
  · show tw_isum _ (g.2 6) = tw_isum _ (g.2 3)
    rw [I.c6]
    exact tw_isum_c _ (fun i hi => by rw [((I.eq i (by omega)).1 hi).1, e1])
/-! all is sound, on both sides -/
theorem tw_sum_z {f : Nat → Nat} {m : Nat} : ∀ n, m ≤ n → (∀ i, m ≤ i → i < n → f i = 0) → tw_sum f n = tw_sum f m
  | 0, h, _ => by rw [show m = 0 by omega]
  | n + 1, h, z => by
    by_cases q : m = n + 1
    · rw [q]
    · show tw_sum f n + f n = tw_sum f m
      rw [tw_sum_z n (by omega) (fun i h1 h2 => z i h1 (by omega)), z n (by omega) (by omega)]
      rfl
theorem tw_I9.kept {B : Nat} {g : tw_G} (I : tw_I9 B g) {k : Nat} (hk : k < 2) : tw_wM g k 0 + tw_wM g k 1 + tw_wM g k 2 + tw_wM g k 3 + tw_wM g k 4 = tw_wM g k 5 := by
  obtain ⟨b3, b4, -⟩ := I.bd
  obtain ⟨z3, z4⟩ := I.i5.2.2.2.2.1
  have s0 : tw_wM g k 0 = tw_sum (fun i => tw_am g i k) 4 := by
    show tw_sum (fun j => tw_DN (g.1 (480 + 64 * j + 16 + k))) (g.2 3) = _
    rw [← tw_sum_z (f := fun j => tw_DN (g.1 (480 + 64 * j + 16 + k))) (m := g.2 3) 4 b3 (fun i h1 h2 => by rw [z3 i k h2 h1 hk]; rfl)]
    exact tw_sum_c 4 (fun j hj => by unfold tw_am; rw [tw_ac_v (by omega), show 496 + 64 * j + k = 480 + 64 * j + 16 + k by omega])
  have s1 : tw_wM g k 1 = tw_sum (fun j => tw_am g (4 + j) k) 6 := by
    show tw_sum (fun j => tw_DN (g.1 (960 + 32 * j + 8 + k))) (g.2 4) = _
    rw [← tw_sum_z (f := fun j => tw_DN (g.1 (960 + 32 * j + 8 + k))) (m := g.2 4) 6 b4 (fun i h1 h2 => by rw [z4 i k h2 h1 hk]; rfl)]
    exact tw_sum_c 6 (fun j hj => by unfold tw_am; rw [tw_ac_h (by omega) (by omega), show 840 + 32 * (4 + j) + k = 960 + 32 * j + 8 + k by omega])
  have sw : ∀ s, s < 4 → tw_wM g k (s + 2) = tw_am g (10 + s) k := fun s hs => by
    show tw_DN (g.1 (1344 + 8 * s + k)) = _
    unfold tw_am
    rw [tw_ac_s (by omega), show 1264 + 8 * (10 + s) + k = 1344 + 8 * s + k by omega]
  have w2 := sw 0 (by decide)
  have w3 := sw 1 (by decide)
  have w4 := sw 2 (by decide)
  have w5 := sw 3 (by decide)
  have a := (I.am.2 k hk).1
  have t : tw_sum (fun i => tw_am g i k) 13 = tw_sum (fun i => tw_am g i k) (4 + 6) + tw_am g 10 k + tw_am g 11 k + tw_am g 12 k := rfl
  have u := tw_sum_s (f := fun i => tw_am g i k) 4 6
  have u2 : tw_sum (fun j => (fun i => tw_am g i k) (4 + j)) 6 = tw_sum (fun j => tw_am g (4 + j) k) 6 := rfl
  rw [u2] at u
  have e2 : tw_wM g k (0 + 2) = tw_wM g k 2 := rfl
  have e3 : tw_wM g k (1 + 2) = tw_wM g k 3 := rfl
  have e4 : tw_wM g k (2 + 2) = tw_wM g k 4 := rfl
  have e5 : tw_wM g k (3 + 2) = tw_wM g k 5 := rfl
  rw [e2, show 10 + 0 = 10 from rfl] at w2
  rw [e3, show 10 + 1 = 11 from rfl] at w3
  rw [e4, show 10 + 2 = 12 from rfl] at w4
  rw [e5, show 10 + 3 = 13 from rfl] at w5
  omega
theorem tw_I9.keptI {B : Nat} {g : tw_G} (I : tw_I9 B g) {k : Nat} (hk : k < 2) : nI (tw_wM g k 0) + nI (tw_wM g k 1) + nI (tw_wM g k 2) + nI (tw_wM g k 3) + nI (tw_wM g k 4) = nI (tw_wM g k 5) := by
  rw [tw_niadd, tw_niadd, tw_niadd, tw_niadd, I.kept hk]
theorem tw_ge0 {n : Nat} (h : n < 2 ^ 31) : (0 : Int32) ≤ nI n := nI_le (a := 0) (Nat.zero_le _) h
theorem tw_I9.sm {B : Nat} {g : tw_G} (I : tw_I9 B g) : tw_SQ g := by
  refine ⟨fun k hk => I.keptI hk, fun j hj e => ?_, fun j hj k hk => (I.et j hj k hk).2.1, fun a b ha hb => ⟨?_, (I.ev.2 a b ha hb).2⟩⟩
  · rcases I.i5.2.2.1 j hj with ⟨⟨i, hi, a⟩, -⟩ | ⟨-, -, t, t1, t2, a⟩
    · obtain ⟨b3, -⟩ := I.bd
      exact absurd (a.symm.trans e) (tw_nm1 (by omega))
    · rw [a]
      exact (nI_ltI (by omega) (by omega)).mpr t1
  · obtain ⟨n, -, -, e1, e2⟩ := I.i5.2.2.2.2.2.1 a b ha hb
    exact e1.trans e2.symm
theorem tw_I9.so {B : Nat} {g : tw_G} (I : tw_I9 B g) (h : B ≤ 59000000) : tw_SO g := by
  obtain ⟨b3, b4, -, b22⟩ := I.bd
  have c6 := I.c6
  have c7 := I.c7
  have ct := I.ct
  refine ⟨fun k hk => ?_, fun j hj => ⟨⟨?_, ?_⟩, fun k hk => ?_⟩, fun j hj => ⟨⟨?_, ?_⟩, fun e => ?_⟩, fun a b ha hb => ?_⟩
  · rw [I.wv (w := 0) hk (by decide), I.wv (w := 1) hk (by decide), I.wv (w := 2) hk (by decide), I.wv (w := 3) hk (by decide), I.wv (w := 4) hk (by decide), I.wv (w := 5) hk (by decide)]
    exact I.keptI hk
  · obtain ⟨e, l⟩ := I.ev2 (j := j) (k := 0) (by omega) (by decide)
    rw [e]
    exact tw_ge0 (by omega)
  · obtain ⟨e, l⟩ := I.ev2 (j := j) (k := 1) (by omega) (by decide)
    rw [e]
    exact tw_ge0 (by omega)
  · obtain ⟨e, l, -⟩ := I.et j (by omega) k hk
    rw [e]
    exact l
  · obtain ⟨e, l⟩ := I.ep2 (j := j) (k := 0) (by omega) (by decide)
    rw [e]
    exact tw_ge0 (by omega)
  · obtain ⟨e, l⟩ := I.ep2 (j := j) (k := 1) (by omega) (by decide)
    rw [e]
    exact tw_ge0 (by omega)
  · have p2 := I.pe (a := j) (c := 2) (by omega) (by decide)
    have p0 := I.pe (a := j) (c := 0) (by omega) (by decide)
    rcases I.i5.2.2.1 j (by omega) with ⟨-, a, -⟩ | ⟨-, -, t, t1, t2, a⟩
    · exact absurd (p2.trans a) e
    · rw [p0, a, ct]
      exact (nI_ltI (by omega) (by omega)).mpr t1
  · obtain ⟨-, -, -, -, ea⟩ := (I.eq a (by omega)).1 (by omega)
    obtain ⟨-, -, -, -, eb⟩ := (I.eq b (by omega)).1 (by omega)
    obtain ⟨n, -, -, e1, e2⟩ := I.i5.2.2.2.2.2.1 a b (by omega) (by omega)
    rw [(ea b (by omega)).1, (ea b (by omega)).2, (eb a (by omega)).1, (eb a (by omega)).2]
    exact ⟨e1.trans e2.symm, (I.ev.2 a b (by omega) (by omega)).2⟩
abbrev mL_law_ : tw_M := (yL_law_, cL_law_, 7, (some .boolean), 2048, 84000)
/-- what the loop keeps -/
def tw_ok5 (d : tw_D) (x m o B : Nat) (g : tw_G) (τ : tw_K) (h : tw_H) : Prop := tw_wt d g τ h ∧ tw_I9 B g ∧ τ x = 11 ∧ τ m = 36 ∧ τ o = 12 ∧ tw_MK g
abbrev tw_lv5 (d : tw_D) (x m o j : Nat) : List (Nat × Value) := [(0, .ref (d.2 98)), (1, .ref x), (2, .ref m), (3, .ref o), (4, .int (nI (5 * j)))]
/-- on with the loop -/
def tw_J (d : tw_D) (x m o j : Nat) (Q : tw_O → tw_H → Prop) (c n : Nat) : Prop := ∀ (g : tw_G) (τ : tw_K) (h : tw_H), tw_ok5 d x m o (100000 * (j + 1)) g τ h → tw_W d mL_law_ Q 1362 (tw_lv5 d x m o j) [] h c n
theorem tw_ok5.go {d : tw_D} {x m o B : Nat} {g g1 : tw_G} {τ τ1 : tw_K} {h h1 : tw_H} (ok : tw_ok5 d x m o B g τ h) (e : tw_I9 B g1) (e2 : tw_MK g1) (s : tw_sp d τ h g1 τ1 h1) : tw_ok5 d x m o B g1 τ1 h1 :=
  ⟨s.1, e, s.2.1.k ok.2.2.1 (by decide), s.2.1.k ok.2.2.2.1 (by decide), s.2.1.k ok.2.2.2.2.1 (by decide), e2⟩
theorem tw_pop2l {d : tw_D} {M : tw_M} {Q : tw_O → tw_H → Prop} {pc : Nat} {lv : List (Nat × Value)} {st : List Value} {h : tw_H} {c n : Nat} {x : Int64} (hd : decode M.2.1 pc = .ok (.pop2, 1)) (k : tw_W d M Q (pc + 1) lv st h c n) : tw_W d M Q pc lv (.long x :: st) h c n := by
  intro p l e R s m args below meth cd H locs ls cells slots X hl hh hS hc hn
  exact lv_pop2_2 X.1 X.2.1 hd rfl (k p l e R s m args below meth cd H locs ls cells slots X hl hh hS hc hn)
theorem tw_s1 (a : Nat) : nI a + 1 = nI (a + 1) := nI_1 a
theorem tw_s2 (a : Nat) : nI a + 2 = nI (a + 2) := tw_niadd (b := 2)
theorem tw_s3 (a : Nat) : nI a + 3 = nI (a + 3) := tw_niadd (b := 3)
theorem tw_s4 (a : Nat) : nI a + 4 = nI (a + 4) := tw_niadd (b := 4)
theorem tw_s5 (j : Nat) : nI (5 * j) + 5 = nI (5 * (j + 1)) := by rw [Nat.mul_add]; exact tw_niadd (b := 5)
theorem tw_l5 {L j : Nat} (hL : L ≤ 2560) (hj : j ≤ 512) : nI L - 5 < nI (5 * j) ↔ L < 5 * j + 5 := by
  rw [Int32.lt_iff_toInt_lt, Int32.toInt_sub, nI_toInt (by omega), nI_toInt (by omega), show (5 : Int32).toInt = 5 by decide]
  have b : ((L : Int) - 5).bmod (2 ^ 32) = (L : Int) - 5 := by apply Int.bmod_eq_of_le_mul_two <;> omega
  rw [b]
  omega
theorem tw_cmpe {a b : Int64} (e : a = b) : lg_cmp a b = 0 := by subst e; simp [lg_cmp]
theorem tw_ok5.up {d : tw_D} {x m o B C : Nat} {g : tw_G} {τ : tw_K} {h : tw_H} (ok : tw_ok5 d x m o B g τ h) (e : B ≤ C) : tw_ok5 d x m o C g τ h := ⟨ok.1, ok.2.1.mono e, ok.2.2⟩
set_option maxHeartbeats 4000000 in
set_option maxRecDepth 100000 in
theorem c_X6_init (d : tw_D) (h : tw_H) (x : Nat) : tw_Ct d mX6_init 0 0 [.ref x] h (tw_qv (fun h1 => h1 = h) tw_nx) := by
  refine tw_of (by decide +kernel) (Nat.le_of_ble_eq_true rfl) ?_
  show tw_W d mX6_init _ 0 [(0, .ref x)] [] h 0 0
  refine tw_aload_n 0 dX6_init_0 rfl rfl ?_
  refine tw_objInit dX6_init_1 w_379 w_117 w_118 ⟨by decide, Nat.le_of_ble_eq_true rfl⟩ ?_
  exact tw_vret dX6_init_4 rfl (Or.inl ⟨rfl, rfl⟩)

set_option maxHeartbeats 4000000 in
set_option maxRecDepth 100000 in
theorem law_case_0 (d : tw_D) (x m o j c n : Nat) (Q : tw_O → tw_H → Prop) (hL : d.2 97 ≤ 2560) (hj : 5 * j + 5 ≤ d.2 97) (J : tw_J d x m o j Q c n) (g : tw_G) (τ : tw_K) (h : tw_H) (ok : tw_ok5 d x m o (100000 * j) g τ h) : tw_W d mL_law_ Q 164 (tw_lv5 d x m o j) [] h (c + 900) (n + 5000) := by
  show tw_W d mL_law_ Q 164 [(0, .ref (d.2 98)), (1, .ref x), (2, .ref m), (3, .ref o), (4, .int (nI (5 * j)))] [] h (c + 900) (n + 5000)
  have sp1 := tw_sp.rf ok.1
  refine tw_aload_n 1 dL_law__164 rfl rfl ?_
  refine tw_aload_n 0 dL_law__165 rfl rfl ?_
  refine tw_iload 4 dL_law__166 rfl ?_
  refine tw_iconst (v := 1) dL_law__168 (by decide) ?_
  refine tw_iadd dL_law__169 ?_
  refine tw_nmi (fun v2 ev2 => ?_)
  have q3 : v2 = nI (5 * j + 1) := by rw [ev2]; exact tw_s1 _
  rw [q3]
  obtain ⟨y4, ey4⟩ : ∃ y : Int32, Int32.ofNat (d.2 (1000 + (nI (5 * j + 1)).toNatClampNeg)) = y := ⟨_, rfl⟩
  refine tw_ti (v := .int y4) (fun _ _ z => z.xs.2.2.2.2.2) dL_law__170 (vp_in_nI (by omega) (by omega)) (congrArg Value.int ey4) ?_
  refine tw_aload_n 0 dL_law__171 rfl rfl ?_
  refine tw_iload 4 dL_law__172 rfl ?_
  refine tw_iconst (v := 2) dL_law__174 (by decide) ?_
  refine tw_iadd dL_law__175 ?_
  refine tw_nmi (fun v5 ev5 => ?_)
  have q6 : v5 = nI (5 * j + 2) := by rw [ev5]; exact tw_s2 _
  rw [q6]
  obtain ⟨y7, ey7⟩ : ∃ y : Int32, Int32.ofNat (d.2 (1000 + (nI (5 * j + 2)).toNatClampNeg)) = y := ⟨_, rfl⟩
  refine tw_ti (v := .int y7) (fun _ _ z => z.xs.2.2.2.2.2) dL_law__176 (vp_in_nI (by omega) (by omega)) (congrArg Value.int ey7) ?_
  refine tw_aload_n 0 dL_law__177 rfl rfl ?_
  refine tw_iload 4 dL_law__178 rfl ?_
  refine tw_iconst (v := 3) dL_law__180 (by decide) ?_
  refine tw_iadd dL_law__181 ?_
  refine tw_nmi (fun v8 ev8 => ?_)
  have q9 : v8 = nI (5 * j + 3) := by rw [ev8]; exact tw_s3 _
  rw [q9]
  obtain ⟨y10, ey10⟩ : ∃ y : Int32, Int32.ofNat (d.2 (1000 + (nI (5 * j + 3)).toNatClampNeg)) = y := ⟨_, rfl⟩
  refine tw_ti (v := .int y10) (fun _ _ z => z.xs.2.2.2.2.2) dL_law__182 (vp_in_nI (by omega) (by omega)) (congrArg Value.int ey10) ?_
  refine tw_aload_n 0 dL_law__183 rfl rfl ?_
  refine tw_iload 4 dL_law__184 rfl ?_
  refine tw_iconst (v := 4) dL_law__186 (by decide) ?_
  refine tw_iadd dL_law__187 ?_
  refine tw_nmi (fun v11 ev11 => ?_)
  have q12 : v11 = nI (5 * j + 4) := by rw [ev11]; exact tw_s4 _
  rw [q12]
  obtain ⟨y13, ey13⟩ : ∃ y : Int32, Int32.ofNat (d.2 (1000 + (nI (5 * j + 4)).toNatClampNeg)) = y := ⟨_, rfl⟩
  refine tw_ti (v := .int y13) (fun _ _ z => z.xs.2.2.2.2.2) dL_law__188 (vp_in_nI (by omega) (by omega)) (congrArg Value.int ey13) ?_
  refine tw_aload_n 3 dL_law__189 rfl rfl ?_
  refine tw_bi (tw_callSH (M := mL_law_) (pc := 190) okL_country dL_law__190 w_387 [.ref x, .int y4, .int y7, .int y10, .int y13, .ref o] [] rfl rfl ⟨by decide, by decide⟩ (Nat.le_of_ble_eq_true rfl) (c_L_country d g τ h sp1.1 x ok.2.2.1 y4 y7 y10 y13 o ok.2.2.2.2.1 ok.2.1.2.2.2.1 ok.2.1.2.2.2.2.2.2.2.1) ((c + 900) - 20) ((n + 5000) - 120) (by omega) (by omega)) (fun r16 h15 q14 => ?_) (fun E h1 q => q.elim)
  rcases q14 with ⟨q14e, q14cR, q14cL, q14n, y9, d9, f9, t9, m9, v9, τc, q14s⟩ | ⟨q14e, q14cR, τc, q14s⟩ | ⟨q14e, q14cR, q14cL, τc, q14s⟩
  · rw [q14e]
    have h49 := (tw_b678 ok.1 ok.2.2.1).1
    obtain ⟨gL, egL⟩ : ∃ z : tw_G, z = (tw_ad (tw_ad (tw_gI (tw_gC g (160 + 64 * g.2 0) y9 d9 f9 t9 m9 v9 y4 y7 y10 y13) 6 0) (1336 + 0) y10) (1336 + 1) y13) := ⟨_, rfl⟩
    rw [← egL] at q14s
    have gl3 : gL.2 3 = g.2 3 := by rw [egL]; exact tw_gCI5_2 (by decide) (by decide) (by decide) (by decide)
    have gl4 : gL.2 4 = g.2 4 := by rw [egL]; exact tw_gCI5_2 (by decide) (by decide) (by decide) (by decide)
    have gl5 : gL.2 5 = g.2 5 := by rw [egL]; exact tw_gCI5_2 (by decide) (by decide) (by decide) (by decide)
    have gl9 : gL.2 9 = g.2 9 := by rw [egL]; exact tw_gCI5_2 (by decide) (by decide) (by decide) (by decide)
    have gl22 : gL.2 22 = g.2 22 := by rw [egL]; exact tw_gCI5_2 (by decide) (by decide) (by decide) (by decide)
    have sc5 : tw_sc g gL := tw_S_country q14cL egL
    have kx1 := q14s.2.1.k ok.2.2.1 (by decide)
    have km1 := q14s.2.1.k ok.2.2.2.1 (by decide)
    have ko1 := q14s.2.1.k ok.2.2.2.2.1 (by decide)
    refine tw_istore [(5, .int 0), (0, .ref (d.2 98)), (1, .ref x), (2, .ref m), (3, .ref o), (4, .int (nI (5 * j)))] dL_law__193 (by decide) rfl ?_
    refine tw_aload_n 3 dL_law__195 rfl rfl ?_
    refine tw_aload_n 1 dL_law__196 rfl rfl ?_
    refine tw_iload 5 dL_law__197 rfl ?_
    refine tw_iconst (v := 1) dL_law__199 (by decide) ?_
    refine tw_iadd dL_law__200 ?_
    refine tw_nmi (fun v17 ev17 => ?_)
    have q18 : v17 = nI (5 * j + 1) := by rw [ev17]; exact tw_s1 _
    rw [q18]
    refine tw_ti (v := .int y4) (fun _ _ z => z.xs.2.2.2.2.2) dL_law__201 (vp_in_nI (by omega) (by omega)) (congrArg Value.int ey4) ?_
    refine tw_aload_n 1 dL_law__202 rfl rfl ?_
    refine tw_iload 5 dL_law__203 rfl ?_
    refine tw_iconst (v := 2) dL_law__205 (by decide) ?_
    refine tw_iadd dL_law__206 ?_
    refine tw_nmi (fun v19 ev19 => ?_)
    have q20 : v19 = nI (5 * j + 2) := by rw [ev19]; exact tw_s2 _
    rw [q20]
    refine tw_ti (v := .int y7) (fun _ _ z => z.xs.2.2.2.2.2) dL_law__207 (vp_in_nI (by omega) (by omega)) (congrArg Value.int ey7) ?_
    refine tw_aload_n 1 dL_law__208 rfl rfl ?_
    refine tw_iload 5 dL_law__209 rfl ?_
    refine tw_iconst (v := 3) dL_law__211 (by decide) ?_
    refine tw_iadd dL_law__212 ?_
    refine tw_nmi (fun v21 ev21 => ?_)
    have q22 : v21 = nI (5 * j + 3) := by rw [ev21]; exact tw_s3 _
    rw [q22]
    refine tw_ti (v := .int y10) (fun _ _ z => z.xs.2.2.2.2.2) dL_law__213 (vp_in_nI (by omega) (by omega)) (congrArg Value.int ey10) ?_
    refine tw_aload_n 1 dL_law__214 rfl rfl ?_
    refine tw_iload 5 dL_law__215 rfl ?_
    refine tw_iconst (v := 4) dL_law__217 (by decide) ?_
    refine tw_iadd dL_law__218 ?_
    refine tw_nmi (fun v23 ev23 => ?_)
    have q24 : v23 = nI (5 * j + 4) := by rw [ev23]; exact tw_s4 _
    rw [q24]
    refine tw_ti (v := .int y13) (fun _ _ z => z.xs.2.2.2.2.2) dL_law__219 (vp_in_nI (by omega) (by omega)) (congrArg Value.int ey13) ?_
    obtain ⟨e25, f26, th_27, td_28, ds_29, fr_30, ca_31, us_32, wo_33, cm_34, lc_35, lh_36, ld_37, rfl, k38, k39, k40, k41, k42, k43, k44, k45, k46, k47, k48, k49, k50, k51, k52, k53, k54, k55, k56, k57, k58, k59⟩ := (tw_sp.rf q14s.1).1 m 36 km1 (by decide)
    refine tw_bi (tw_callV (M := mL_law_) (pc := 220) okX10_country dL_law__220 w_1188 rfl f26 [.int y4, .int y7, .int y10, .int y13] [] rfl rfl ⟨by decide, by decide⟩ (Nat.le_of_ble_eq_true rfl) (c2_X10_country d gL τc h15 (tw_sp.rf q14s.1).1 m km1 y4 y7 y10 y13 o ko1 (by rw [gl9, gl3]; exact ok.2.1.2.2.2.2.2.2.2.2.1) ((ok.2.1.am5 (by omega)).sc sc5)) (((c + 900) - 20) - 10) (((n + 5000) - 120) - 60) (by omega) (by omega)) (fun r62 h61 q60 => ?_) (fun E h1 q => q.elim)
    obtain ⟨g9, τ9, s9, oq9, q60a⟩ := q60
    have kx2 := s9.2.1.k kx1 (by decide)
    have km2 := s9.2.1.k km1 (by decide)
    have ko2 := s9.2.1.k ko1 (by decide)
    have q14cL3 : gL.2 3 < 4 := by rw [gl3, ← ok.2.1.1]; exact q14cL
    rcases q60a with ⟨z, -⟩ | ⟨-, z, -⟩ | ⟨-, -, hr2, ht, gk9⟩
    · exact absurd q14cR z
    · exact absurd q14cL3 z
    · rw [hr2]
      have ok9 : tw_ok5 d x m o (100000 * (j + 1)) g9 τ9 h61 := ⟨s9.1, (ok.2.1.country ⟨q14cR.1, q14cR.2.1⟩ q14cR.2.2 (by omega) (by omega) q14cL gk9 egL), kx2, km2, ko2, (ok.2.2.2.2.2.cg (tw_M_country egL gk9))⟩
      have hlg : tw_lg (h61 o) = (nI (g.2 0)).toInt64 := by rw [oq9]; exact q14n
      have sp63 := tw_sp.rf ok9.1
      refine tw_istore [(6, .int (nI (gL.2 3))), (5, .int 0), (0, .ref (d.2 98)), (1, .ref x), (2, .ref m), (3, .ref o), (4, .int (nI (5 * j)))] dL_law__223 (by decide) rfl ?_
      refine tw_goto 1362 dL_law__225 (by decide) ?_
      refine tw_lv [2, 3, 4, 5, 6] rfl ?_
      refine tw_less (c2 := c) (n2 := n) (by omega) (by omega) ?_
      exact J _ _ _ (ok9.up (by omega))
  · rw [q14e]
    have h49 := (tw_b678 ok.1 ok.2.2.1).1
    have kx1 := q14s.2.1.k ok.2.2.1 (by decide)
    have km1 := q14s.2.1.k ok.2.2.2.1 (by decide)
    have ko1 := q14s.2.1.k ok.2.2.2.2.1 (by decide)
    refine tw_istore [(5, .int 1), (0, .ref (d.2 98)), (1, .ref x), (2, .ref m), (3, .ref o), (4, .int (nI (5 * j)))] dL_law__193 (by decide) rfl ?_
    refine tw_aload_n 3 dL_law__195 rfl rfl ?_
    refine tw_aload_n 1 dL_law__196 rfl rfl ?_
    refine tw_iload 5 dL_law__197 rfl ?_
    refine tw_iconst (v := 1) dL_law__199 (by decide) ?_
    refine tw_iadd dL_law__200 ?_
    refine tw_nmi (fun v64 ev64 => ?_)
    have q65 : v64 = nI (5 * j + 1) := by rw [ev64]; exact tw_s1 _
    rw [q65]
    refine tw_ti (v := .int y4) (fun _ _ z => z.xs.2.2.2.2.2) dL_law__201 (vp_in_nI (by omega) (by omega)) (congrArg Value.int ey4) ?_
    refine tw_aload_n 1 dL_law__202 rfl rfl ?_
    refine tw_iload 5 dL_law__203 rfl ?_
    refine tw_iconst (v := 2) dL_law__205 (by decide) ?_
    refine tw_iadd dL_law__206 ?_
    refine tw_nmi (fun v66 ev66 => ?_)
    have q67 : v66 = nI (5 * j + 2) := by rw [ev66]; exact tw_s2 _
    rw [q67]
    refine tw_ti (v := .int y7) (fun _ _ z => z.xs.2.2.2.2.2) dL_law__207 (vp_in_nI (by omega) (by omega)) (congrArg Value.int ey7) ?_
    refine tw_aload_n 1 dL_law__208 rfl rfl ?_
    refine tw_iload 5 dL_law__209 rfl ?_
    refine tw_iconst (v := 3) dL_law__211 (by decide) ?_
    refine tw_iadd dL_law__212 ?_
    refine tw_nmi (fun v68 ev68 => ?_)
    have q69 : v68 = nI (5 * j + 3) := by rw [ev68]; exact tw_s3 _
    rw [q69]
    refine tw_ti (v := .int y10) (fun _ _ z => z.xs.2.2.2.2.2) dL_law__213 (vp_in_nI (by omega) (by omega)) (congrArg Value.int ey10) ?_
    refine tw_aload_n 1 dL_law__214 rfl rfl ?_
    refine tw_iload 5 dL_law__215 rfl ?_
    refine tw_iconst (v := 4) dL_law__217 (by decide) ?_
    refine tw_iadd dL_law__218 ?_
    refine tw_nmi (fun v70 ev70 => ?_)
    have q71 : v70 = nI (5 * j + 4) := by rw [ev70]; exact tw_s4 _
    rw [q71]
    refine tw_ti (v := .int y13) (fun _ _ z => z.xs.2.2.2.2.2) dL_law__219 (vp_in_nI (by omega) (by omega)) (congrArg Value.int ey13) ?_
    obtain ⟨e72, f73, th_74, td_75, ds_76, fr_77, ca_78, us_79, wo_80, cm_81, lc_82, lh_83, ld_84, rfl, k85, k86, k87, k88, k89, k90, k91, k92, k93, k94, k95, k96, k97, k98, k99, k100, k101, k102, k103, k104, k105, k106⟩ := (tw_sp.rf q14s.1).1 m 36 km1 (by decide)
    refine tw_bi (tw_callV (M := mL_law_) (pc := 220) okX10_country dL_law__220 w_1188 rfl f73 [.int y4, .int y7, .int y10, .int y13] [] rfl rfl ⟨by decide, by decide⟩ (Nat.le_of_ble_eq_true rfl) (c2_X10_country d g τc h15 (tw_sp.rf q14s.1).1 m km1 y4 y7 y10 y13 o ko1 (by exact ok.2.1.2.2.2.2.2.2.2.2.1) (ok.2.1.am5 (by omega))) (((c + 900) - 20) - 10) (((n + 5000) - 120) - 60) (by omega) (by omega)) (fun r109 h108 q107 => ?_) (fun E h1 q => q.elim)
    obtain ⟨g9, τ9, s9, oq9, q107a⟩ := q107
    have kx2 := s9.2.1.k kx1 (by decide)
    have km2 := s9.2.1.k km1 (by decide)
    have ko2 := s9.2.1.k ko1 (by decide)
    rcases q107a with ⟨-, ht, eg9⟩ | ⟨z, -⟩ | ⟨z, -⟩
    · rw [eg9] at s9
      have ok9 : tw_ok5 d x m o (100000 * j) g τ9 h108 := ⟨s9.1, ok.2.1, kx2, km2, ko2, ok.2.2.2.2.2⟩
      have sp110 := tw_sp.rf ok9.1
      refine tw_istore [(6, .int r109), (5, .int 1), (0, .ref (d.2 98)), (1, .ref x), (2, .ref m), (3, .ref o), (4, .int (nI (5 * j)))] dL_law__223 (by decide) rfl ?_
      refine tw_goto 1362 dL_law__225 (by decide) ?_
      refine tw_lv [2, 3, 4, 5, 6] rfl ?_
      refine tw_less (c2 := c) (n2 := n) (by omega) (by omega) ?_
      exact J _ _ _ (ok9.up (by omega))
    · exact absurd z q14cR
    · exact absurd z q14cR
  · rw [q14e]
    have h49 := (tw_b678 ok.1 ok.2.2.1).1
    have kx1 := q14s.2.1.k ok.2.2.1 (by decide)
    have km1 := q14s.2.1.k ok.2.2.2.1 (by decide)
    have ko1 := q14s.2.1.k ok.2.2.2.2.1 (by decide)
    refine tw_istore [(5, .int 2), (0, .ref (d.2 98)), (1, .ref x), (2, .ref m), (3, .ref o), (4, .int (nI (5 * j)))] dL_law__193 (by decide) rfl ?_
    refine tw_aload_n 3 dL_law__195 rfl rfl ?_
    refine tw_aload_n 1 dL_law__196 rfl rfl ?_
    refine tw_iload 5 dL_law__197 rfl ?_
    refine tw_iconst (v := 1) dL_law__199 (by decide) ?_
    refine tw_iadd dL_law__200 ?_
    refine tw_nmi (fun v111 ev111 => ?_)
    have q112 : v111 = nI (5 * j + 1) := by rw [ev111]; exact tw_s1 _
    rw [q112]
    refine tw_ti (v := .int y4) (fun _ _ z => z.xs.2.2.2.2.2) dL_law__201 (vp_in_nI (by omega) (by omega)) (congrArg Value.int ey4) ?_
    refine tw_aload_n 1 dL_law__202 rfl rfl ?_
    refine tw_iload 5 dL_law__203 rfl ?_
    refine tw_iconst (v := 2) dL_law__205 (by decide) ?_
    refine tw_iadd dL_law__206 ?_
    refine tw_nmi (fun v113 ev113 => ?_)
    have q114 : v113 = nI (5 * j + 2) := by rw [ev113]; exact tw_s2 _
    rw [q114]
    refine tw_ti (v := .int y7) (fun _ _ z => z.xs.2.2.2.2.2) dL_law__207 (vp_in_nI (by omega) (by omega)) (congrArg Value.int ey7) ?_
    refine tw_aload_n 1 dL_law__208 rfl rfl ?_
    refine tw_iload 5 dL_law__209 rfl ?_
    refine tw_iconst (v := 3) dL_law__211 (by decide) ?_
    refine tw_iadd dL_law__212 ?_
    refine tw_nmi (fun v115 ev115 => ?_)
    have q116 : v115 = nI (5 * j + 3) := by rw [ev115]; exact tw_s3 _
    rw [q116]
    refine tw_ti (v := .int y10) (fun _ _ z => z.xs.2.2.2.2.2) dL_law__213 (vp_in_nI (by omega) (by omega)) (congrArg Value.int ey10) ?_
    refine tw_aload_n 1 dL_law__214 rfl rfl ?_
    refine tw_iload 5 dL_law__215 rfl ?_
    refine tw_iconst (v := 4) dL_law__217 (by decide) ?_
    refine tw_iadd dL_law__218 ?_
    refine tw_nmi (fun v117 ev117 => ?_)
    have q118 : v117 = nI (5 * j + 4) := by rw [ev117]; exact tw_s4 _
    rw [q118]
    refine tw_ti (v := .int y13) (fun _ _ z => z.xs.2.2.2.2.2) dL_law__219 (vp_in_nI (by omega) (by omega)) (congrArg Value.int ey13) ?_
    obtain ⟨e119, f120, th_121, td_122, ds_123, fr_124, ca_125, us_126, wo_127, cm_128, lc_129, lh_130, ld_131, rfl, k132, k133, k134, k135, k136, k137, k138, k139, k140, k141, k142, k143, k144, k145, k146, k147, k148, k149, k150, k151, k152, k153⟩ := (tw_sp.rf q14s.1).1 m 36 km1 (by decide)
    refine tw_bi (tw_callV (M := mL_law_) (pc := 220) okX10_country dL_law__220 w_1188 rfl f120 [.int y4, .int y7, .int y10, .int y13] [] rfl rfl ⟨by decide, by decide⟩ (Nat.le_of_ble_eq_true rfl) (c2_X10_country d g τc h15 (tw_sp.rf q14s.1).1 m km1 y4 y7 y10 y13 o ko1 (by exact ok.2.1.2.2.2.2.2.2.2.2.1) (ok.2.1.am5 (by omega))) (((c + 900) - 20) - 10) (((n + 5000) - 120) - 60) (by omega) (by omega)) (fun r156 h155 q154 => ?_) (fun E h1 q => q.elim)
    obtain ⟨g9, τ9, s9, oq9, q154a⟩ := q154
    have kx2 := s9.2.1.k kx1 (by decide)
    have km2 := s9.2.1.k km1 (by decide)
    have ko2 := s9.2.1.k ko1 (by decide)
    have q14cL3 : ¬ g.2 3 < 4 := by rw [← ok.2.1.1]; exact q14cL
    rcases q154a with ⟨z, -⟩ | ⟨-, -, ht, eg9⟩ | ⟨-, z, -⟩
    · exact absurd q14cR z
    · rw [eg9] at s9
      have ok9 : tw_ok5 d x m o (100000 * j) g τ9 h155 := ⟨s9.1, ok.2.1, kx2, km2, ko2, ok.2.2.2.2.2⟩
      have sp157 := tw_sp.rf ok9.1
      refine tw_istore [(6, .int r156), (5, .int 2), (0, .ref (d.2 98)), (1, .ref x), (2, .ref m), (3, .ref o), (4, .int (nI (5 * j)))] dL_law__223 (by decide) rfl ?_
      refine tw_goto 1362 dL_law__225 (by decide) ?_
      refine tw_lv [2, 3, 4, 5, 6] rfl ?_
      refine tw_less (c2 := c) (n2 := n) (by omega) (by omega) ?_
      exact J _ _ _ (ok9.up (by omega))
    · exact absurd z q14cL3

set_option maxHeartbeats 4000000 in
set_option maxRecDepth 100000 in
theorem law_case_1 (d : tw_D) (x m o j c n : Nat) (Q : tw_O → tw_H → Prop) (hL : d.2 97 ≤ 2560) (hj : 5 * j + 5 ≤ d.2 97) (J : tw_J d x m o j Q c n) (g : tw_G) (τ : tw_K) (h : tw_H) (ok : tw_ok5 d x m o (100000 * j) g τ h) : tw_W d mL_law_ Q 228 (tw_lv5 d x m o j) [] h (c + 900) (n + 5000) := by
  show tw_W d mL_law_ Q 228 [(0, .ref (d.2 98)), (1, .ref x), (2, .ref m), (3, .ref o), (4, .int (nI (5 * j)))] [] h (c + 900) (n + 5000)
  have sp1 := tw_sp.rf ok.1
  refine tw_aload_n 1 dL_law__228 rfl rfl ?_
  refine tw_aload_n 0 dL_law__229 rfl rfl ?_
  refine tw_iload 4 dL_law__230 rfl ?_
  refine tw_iconst (v := 1) dL_law__232 (by decide) ?_
  refine tw_iadd dL_law__233 ?_
  refine tw_nmi (fun v2 ev2 => ?_)
  have q3 : v2 = nI (5 * j + 1) := by rw [ev2]; exact tw_s1 _
  rw [q3]
  obtain ⟨y4, ey4⟩ : ∃ y : Int32, Int32.ofNat (d.2 (1000 + (nI (5 * j + 1)).toNatClampNeg)) = y := ⟨_, rfl⟩
  refine tw_ti (v := .int y4) (fun _ _ z => z.xs.2.2.2.2.2) dL_law__234 (vp_in_nI (by omega) (by omega)) (congrArg Value.int ey4) ?_
  refine tw_aload_n 0 dL_law__235 rfl rfl ?_
  refine tw_iload 4 dL_law__236 rfl ?_
  refine tw_iconst (v := 2) dL_law__238 (by decide) ?_
  refine tw_iadd dL_law__239 ?_
  refine tw_nmi (fun v5 ev5 => ?_)
  have q6 : v5 = nI (5 * j + 2) := by rw [ev5]; exact tw_s2 _
  rw [q6]
  obtain ⟨y7, ey7⟩ : ∃ y : Int32, Int32.ofNat (d.2 (1000 + (nI (5 * j + 2)).toNatClampNeg)) = y := ⟨_, rfl⟩
  refine tw_ti (v := .int y7) (fun _ _ z => z.xs.2.2.2.2.2) dL_law__240 (vp_in_nI (by omega) (by omega)) (congrArg Value.int ey7) ?_
  refine tw_aload_n 0 dL_law__241 rfl rfl ?_
  refine tw_iload 4 dL_law__242 rfl ?_
  refine tw_iconst (v := 3) dL_law__244 (by decide) ?_
  refine tw_iadd dL_law__245 ?_
  refine tw_nmi (fun v8 ev8 => ?_)
  have q9 : v8 = nI (5 * j + 3) := by rw [ev8]; exact tw_s3 _
  rw [q9]
  obtain ⟨y10, ey10⟩ : ∃ y : Int32, Int32.ofNat (d.2 (1000 + (nI (5 * j + 3)).toNatClampNeg)) = y := ⟨_, rfl⟩
  refine tw_ti (v := .int y10) (fun _ _ z => z.xs.2.2.2.2.2) dL_law__246 (vp_in_nI (by omega) (by omega)) (congrArg Value.int ey10) ?_
  refine tw_aload_n 3 dL_law__247 rfl rfl ?_
  refine tw_bi (tw_callSH (M := mL_law_) (pc := 248) okL_law dL_law__248 w_538 [.ref x, .int y4, .int y7, .int y10, .ref o] [] rfl rfl ⟨by decide, by decide⟩ (Nat.le_of_ble_eq_true rfl) (c_L_law d g τ h sp1.1 x ok.2.2.1 y4 y7 y10 o ok.2.2.2.2.1) ((c + 900) - 20) ((n + 5000) - 120) (by omega) (by omega)) (fun r13 h12 q11 => ?_) (fun E h1 q => q.elim)
  rcases q11 with ⟨q11e, q11cI, q11cR, q11n, τc, q11s⟩ | ⟨q11e, q11cI, τc, q11s⟩ | ⟨q11e, q11cI, q11cR, τc, q11s⟩
  · rw [q11e]
    have h49 := (tw_b678 ok.1 ok.2.2.1).1
    obtain ⟨gL, egL⟩ : ∃ z : tw_G, z = (tw_g1 (tw_g1 g (160 + 64 * tw_DN y4) y7) (160 + 64 * tw_DN y4 + 1) y10) := ⟨_, rfl⟩
    rw [← egL] at q11s
    have gl3 : gL.2 3 = g.2 3 := by rw [egL]; rfl
    have gl4 : gL.2 4 = g.2 4 := by rw [egL]; rfl
    have gl5 : gL.2 5 = g.2 5 := by rw [egL]; rfl
    have gl9 : gL.2 9 = g.2 9 := by rw [egL]; rfl
    have gl22 : gL.2 22 = g.2 22 := by rw [egL]; rfl
    have kx1 := q11s.2.1.k ok.2.2.1 (by decide)
    have km1 := q11s.2.1.k ok.2.2.2.1 (by decide)
    have ko1 := q11s.2.1.k ok.2.2.2.2.1 (by decide)
    refine tw_istore [(5, .int 0), (0, .ref (d.2 98)), (1, .ref x), (2, .ref m), (3, .ref o), (4, .int (nI (5 * j)))] dL_law__251 (by decide) rfl ?_
    refine tw_aload_n 3 dL_law__253 rfl rfl ?_
    refine tw_aload_n 1 dL_law__254 rfl rfl ?_
    refine tw_iload 5 dL_law__255 rfl ?_
    refine tw_iconst (v := 1) dL_law__257 (by decide) ?_
    refine tw_iadd dL_law__258 ?_
    refine tw_nmi (fun v14 ev14 => ?_)
    have q15 : v14 = nI (5 * j + 1) := by rw [ev14]; exact tw_s1 _
    rw [q15]
    refine tw_ti (v := .int y4) (fun _ _ z => z.xs.2.2.2.2.2) dL_law__259 (vp_in_nI (by omega) (by omega)) (congrArg Value.int ey4) ?_
    refine tw_aload_n 1 dL_law__260 rfl rfl ?_
    refine tw_iload 5 dL_law__261 rfl ?_
    refine tw_iconst (v := 2) dL_law__263 (by decide) ?_
    refine tw_iadd dL_law__264 ?_
    refine tw_nmi (fun v16 ev16 => ?_)
    have q17 : v16 = nI (5 * j + 2) := by rw [ev16]; exact tw_s2 _
    rw [q17]
    refine tw_ti (v := .int y7) (fun _ _ z => z.xs.2.2.2.2.2) dL_law__265 (vp_in_nI (by omega) (by omega)) (congrArg Value.int ey7) ?_
    refine tw_aload_n 1 dL_law__266 rfl rfl ?_
    refine tw_iload 5 dL_law__267 rfl ?_
    refine tw_iconst (v := 3) dL_law__269 (by decide) ?_
    refine tw_iadd dL_law__270 ?_
    refine tw_nmi (fun v18 ev18 => ?_)
    have q19 : v18 = nI (5 * j + 3) := by rw [ev18]; exact tw_s3 _
    rw [q19]
    refine tw_ti (v := .int y10) (fun _ _ z => z.xs.2.2.2.2.2) dL_law__271 (vp_in_nI (by omega) (by omega)) (congrArg Value.int ey10) ?_
    obtain ⟨e20, f21, th_22, td_23, ds_24, fr_25, ca_26, us_27, wo_28, cm_29, lc_30, lh_31, ld_32, rfl, k33, k34, k35, k36, k37, k38, k39, k40, k41, k42, k43, k44, k45, k46, k47, k48, k49, k50, k51, k52, k53, k54⟩ := (tw_sp.rf q11s.1).1 m 36 km1 (by decide)
    refine tw_bi (tw_callV (M := mL_law_) (pc := 272) okX10_law dL_law__272 w_1284 rfl f21 [.int y4, .int y7, .int y10] [] rfl rfl ⟨by decide, by decide⟩ (Nat.le_of_ble_eq_true rfl) (c2_X10_law d gL τc h12 (tw_sp.rf q11s.1).1 m km1 y4 y7 y10 o ko1) ((c + 900) - 20) ((n + 5000) - 120) (by omega) (by omega)) (fun r57 h56 q55 => ?_) (fun E h1 q => q.elim)
    obtain ⟨g9, τ9, s9, oq9, q55a⟩ := q55
    have kx2 := s9.2.1.k kx1 (by decide)
    have km2 := s9.2.1.k km1 (by decide)
    have ko2 := s9.2.1.k ko1 (by decide)
    have q11cI3 : tw_ix (gL.2 3) y4 := by rw [gl3, ← ok.2.1.2.2.2.1.trans ok.2.1.1]; exact q11cI
    rcases q55a with ⟨z, -⟩ | ⟨-, z, -⟩ | ⟨-, -, hr2, ht, gk9⟩
    · exact absurd q11cI3 z
    · exact absurd q11cR z
    · rw [hr2]
      have ok9 : tw_ok5 d x m o (100000 * j) g9 τ9 h56 := ⟨s9.1, (by rw [gk9, egL]; exact ok.2.1.law q11cI q11cR h49), kx2, km2, ko2, (ok.2.2.2.2.2.cg (fun i hi => by rw [gk9]; (repeat (first | rw [tw_g1_ne (by omega)] | rw [tw_ad_ne (by omega)] | rw [tw_gT_1 (by omega)])); rw [egL]; (repeat (first | rw [tw_g1_ne (by omega)] | rw [tw_ad_ne (by omega)] | rw [tw_gT_1 (by omega)]))))⟩
      have hlg : tw_lg (h56 o) = (g.1 (160 + 64 * tw_DN y4)).toInt64 := by rw [oq9]; exact q11n
      have sp58 := tw_sp.rf ok9.1
      refine tw_istore [(6, .int (gL.1 (480 + 64 * tw_DN y4))), (5, .int 0), (0, .ref (d.2 98)), (1, .ref x), (2, .ref m), (3, .ref o), (4, .int (nI (5 * j)))] dL_law__275 (by decide) rfl ?_
      refine tw_goto 1362 dL_law__277 (by decide) ?_
      refine tw_lv [2, 3, 4, 5, 6] rfl ?_
      refine tw_less (c2 := c) (n2 := n) (by omega) (by omega) ?_
      exact J _ _ _ (ok9.up (by omega))
  · rw [q11e]
    have h49 := (tw_b678 ok.1 ok.2.2.1).1
    have kx1 := q11s.2.1.k ok.2.2.1 (by decide)
    have km1 := q11s.2.1.k ok.2.2.2.1 (by decide)
    have ko1 := q11s.2.1.k ok.2.2.2.2.1 (by decide)
    refine tw_istore [(5, .int 1), (0, .ref (d.2 98)), (1, .ref x), (2, .ref m), (3, .ref o), (4, .int (nI (5 * j)))] dL_law__251 (by decide) rfl ?_
    refine tw_aload_n 3 dL_law__253 rfl rfl ?_
    refine tw_aload_n 1 dL_law__254 rfl rfl ?_
    refine tw_iload 5 dL_law__255 rfl ?_
    refine tw_iconst (v := 1) dL_law__257 (by decide) ?_
    refine tw_iadd dL_law__258 ?_
    refine tw_nmi (fun v59 ev59 => ?_)
    have q60 : v59 = nI (5 * j + 1) := by rw [ev59]; exact tw_s1 _
    rw [q60]
    refine tw_ti (v := .int y4) (fun _ _ z => z.xs.2.2.2.2.2) dL_law__259 (vp_in_nI (by omega) (by omega)) (congrArg Value.int ey4) ?_
    refine tw_aload_n 1 dL_law__260 rfl rfl ?_
    refine tw_iload 5 dL_law__261 rfl ?_
    refine tw_iconst (v := 2) dL_law__263 (by decide) ?_
    refine tw_iadd dL_law__264 ?_
    refine tw_nmi (fun v61 ev61 => ?_)
    have q62 : v61 = nI (5 * j + 2) := by rw [ev61]; exact tw_s2 _
    rw [q62]
    refine tw_ti (v := .int y7) (fun _ _ z => z.xs.2.2.2.2.2) dL_law__265 (vp_in_nI (by omega) (by omega)) (congrArg Value.int ey7) ?_
    refine tw_aload_n 1 dL_law__266 rfl rfl ?_
    refine tw_iload 5 dL_law__267 rfl ?_
    refine tw_iconst (v := 3) dL_law__269 (by decide) ?_
    refine tw_iadd dL_law__270 ?_
    refine tw_nmi (fun v63 ev63 => ?_)
    have q64 : v63 = nI (5 * j + 3) := by rw [ev63]; exact tw_s3 _
    rw [q64]
    refine tw_ti (v := .int y10) (fun _ _ z => z.xs.2.2.2.2.2) dL_law__271 (vp_in_nI (by omega) (by omega)) (congrArg Value.int ey10) ?_
    obtain ⟨e65, f66, th_67, td_68, ds_69, fr_70, ca_71, us_72, wo_73, cm_74, lc_75, lh_76, ld_77, rfl, k78, k79, k80, k81, k82, k83, k84, k85, k86, k87, k88, k89, k90, k91, k92, k93, k94, k95, k96, k97, k98, k99⟩ := (tw_sp.rf q11s.1).1 m 36 km1 (by decide)
    refine tw_bi (tw_callV (M := mL_law_) (pc := 272) okX10_law dL_law__272 w_1284 rfl f66 [.int y4, .int y7, .int y10] [] rfl rfl ⟨by decide, by decide⟩ (Nat.le_of_ble_eq_true rfl) (c2_X10_law d g τc h12 (tw_sp.rf q11s.1).1 m km1 y4 y7 y10 o ko1) ((c + 900) - 20) ((n + 5000) - 120) (by omega) (by omega)) (fun r102 h101 q100 => ?_) (fun E h1 q => q.elim)
    obtain ⟨g9, τ9, s9, oq9, q100a⟩ := q100
    have kx2 := s9.2.1.k kx1 (by decide)
    have km2 := s9.2.1.k km1 (by decide)
    have ko2 := s9.2.1.k ko1 (by decide)
    have q11cI3 : ¬ tw_ix (g.2 3) y4 := by rw [← ok.2.1.2.2.2.1.trans ok.2.1.1]; exact q11cI
    rcases q100a with ⟨-, ht, eg9⟩ | ⟨z, -⟩ | ⟨z, -⟩
    · rw [eg9] at s9
      have ok9 : tw_ok5 d x m o (100000 * j) g τ9 h101 := ⟨s9.1, ok.2.1, kx2, km2, ko2, ok.2.2.2.2.2⟩
      have sp103 := tw_sp.rf ok9.1
      refine tw_istore [(6, .int r102), (5, .int 1), (0, .ref (d.2 98)), (1, .ref x), (2, .ref m), (3, .ref o), (4, .int (nI (5 * j)))] dL_law__275 (by decide) rfl ?_
      refine tw_goto 1362 dL_law__277 (by decide) ?_
      refine tw_lv [2, 3, 4, 5, 6] rfl ?_
      refine tw_less (c2 := c) (n2 := n) (by omega) (by omega) ?_
      exact J _ _ _ (ok9.up (by omega))
    · exact absurd z q11cI3
    · exact absurd z q11cI3
  · rw [q11e]
    have h49 := (tw_b678 ok.1 ok.2.2.1).1
    have kx1 := q11s.2.1.k ok.2.2.1 (by decide)
    have km1 := q11s.2.1.k ok.2.2.2.1 (by decide)
    have ko1 := q11s.2.1.k ok.2.2.2.2.1 (by decide)
    refine tw_istore [(5, .int 2), (0, .ref (d.2 98)), (1, .ref x), (2, .ref m), (3, .ref o), (4, .int (nI (5 * j)))] dL_law__251 (by decide) rfl ?_
    refine tw_aload_n 3 dL_law__253 rfl rfl ?_
    refine tw_aload_n 1 dL_law__254 rfl rfl ?_
    refine tw_iload 5 dL_law__255 rfl ?_
    refine tw_iconst (v := 1) dL_law__257 (by decide) ?_
    refine tw_iadd dL_law__258 ?_
    refine tw_nmi (fun v104 ev104 => ?_)
    have q105 : v104 = nI (5 * j + 1) := by rw [ev104]; exact tw_s1 _
    rw [q105]
    refine tw_ti (v := .int y4) (fun _ _ z => z.xs.2.2.2.2.2) dL_law__259 (vp_in_nI (by omega) (by omega)) (congrArg Value.int ey4) ?_
    refine tw_aload_n 1 dL_law__260 rfl rfl ?_
    refine tw_iload 5 dL_law__261 rfl ?_
    refine tw_iconst (v := 2) dL_law__263 (by decide) ?_
    refine tw_iadd dL_law__264 ?_
    refine tw_nmi (fun v106 ev106 => ?_)
    have q107 : v106 = nI (5 * j + 2) := by rw [ev106]; exact tw_s2 _
    rw [q107]
    refine tw_ti (v := .int y7) (fun _ _ z => z.xs.2.2.2.2.2) dL_law__265 (vp_in_nI (by omega) (by omega)) (congrArg Value.int ey7) ?_
    refine tw_aload_n 1 dL_law__266 rfl rfl ?_
    refine tw_iload 5 dL_law__267 rfl ?_
    refine tw_iconst (v := 3) dL_law__269 (by decide) ?_
    refine tw_iadd dL_law__270 ?_
    refine tw_nmi (fun v108 ev108 => ?_)
    have q109 : v108 = nI (5 * j + 3) := by rw [ev108]; exact tw_s3 _
    rw [q109]
    refine tw_ti (v := .int y10) (fun _ _ z => z.xs.2.2.2.2.2) dL_law__271 (vp_in_nI (by omega) (by omega)) (congrArg Value.int ey10) ?_
    obtain ⟨e110, f111, th_112, td_113, ds_114, fr_115, ca_116, us_117, wo_118, cm_119, lc_120, lh_121, ld_122, rfl, k123, k124, k125, k126, k127, k128, k129, k130, k131, k132, k133, k134, k135, k136, k137, k138, k139, k140, k141, k142, k143, k144⟩ := (tw_sp.rf q11s.1).1 m 36 km1 (by decide)
    refine tw_bi (tw_callV (M := mL_law_) (pc := 272) okX10_law dL_law__272 w_1284 rfl f111 [.int y4, .int y7, .int y10] [] rfl rfl ⟨by decide, by decide⟩ (Nat.le_of_ble_eq_true rfl) (c2_X10_law d g τc h12 (tw_sp.rf q11s.1).1 m km1 y4 y7 y10 o ko1) ((c + 900) - 20) ((n + 5000) - 120) (by omega) (by omega)) (fun r147 h146 q145 => ?_) (fun E h1 q => q.elim)
    obtain ⟨g9, τ9, s9, oq9, q145a⟩ := q145
    have kx2 := s9.2.1.k kx1 (by decide)
    have km2 := s9.2.1.k km1 (by decide)
    have ko2 := s9.2.1.k ko1 (by decide)
    have q11cI3 : tw_ix (g.2 3) y4 := by rw [← ok.2.1.2.2.2.1.trans ok.2.1.1]; exact q11cI
    rcases q145a with ⟨z, -⟩ | ⟨-, -, ht, eg9⟩ | ⟨-, z, -⟩
    · exact absurd q11cI3 z
    · rw [eg9] at s9
      have ok9 : tw_ok5 d x m o (100000 * j) g τ9 h146 := ⟨s9.1, ok.2.1, kx2, km2, ko2, ok.2.2.2.2.2⟩
      have sp148 := tw_sp.rf ok9.1
      refine tw_istore [(6, .int r147), (5, .int 2), (0, .ref (d.2 98)), (1, .ref x), (2, .ref m), (3, .ref o), (4, .int (nI (5 * j)))] dL_law__275 (by decide) rfl ?_
      refine tw_goto 1362 dL_law__277 (by decide) ?_
      refine tw_lv [2, 3, 4, 5, 6] rfl ?_
      refine tw_less (c2 := c) (n2 := n) (by omega) (by omega) ?_
      exact J _ _ _ (ok9.up (by omega))
    · exact absurd z q11cR

set_option maxHeartbeats 4000000 in
set_option maxRecDepth 100000 in
theorem law_case_2 (d : tw_D) (x m o j c n : Nat) (Q : tw_O → tw_H → Prop) (hL : d.2 97 ≤ 2560) (hj : 5 * j + 5 ≤ d.2 97) (J : tw_J d x m o j Q c n) (g : tw_G) (τ : tw_K) (h : tw_H) (ok : tw_ok5 d x m o (100000 * j) g τ h) : tw_W d mL_law_ Q 280 (tw_lv5 d x m o j) [] h (c + 900) (n + 5000) := by
  show tw_W d mL_law_ Q 280 [(0, .ref (d.2 98)), (1, .ref x), (2, .ref m), (3, .ref o), (4, .int (nI (5 * j)))] [] h (c + 900) (n + 5000)
  have sp1 := tw_sp.rf ok.1
  refine tw_aload_n 1 dL_law__280 rfl rfl ?_
  refine tw_aload_n 0 dL_law__281 rfl rfl ?_
  refine tw_iload 4 dL_law__282 rfl ?_
  refine tw_iconst (v := 1) dL_law__284 (by decide) ?_
  refine tw_iadd dL_law__285 ?_
  refine tw_nmi (fun v2 ev2 => ?_)
  have q3 : v2 = nI (5 * j + 1) := by rw [ev2]; exact tw_s1 _
  rw [q3]
  obtain ⟨y4, ey4⟩ : ∃ y : Int32, Int32.ofNat (d.2 (1000 + (nI (5 * j + 1)).toNatClampNeg)) = y := ⟨_, rfl⟩
  refine tw_ti (v := .int y4) (fun _ _ z => z.xs.2.2.2.2.2) dL_law__286 (vp_in_nI (by omega) (by omega)) (congrArg Value.int ey4) ?_
  refine tw_aload_n 0 dL_law__287 rfl rfl ?_
  refine tw_iload 4 dL_law__288 rfl ?_
  refine tw_iconst (v := 2) dL_law__290 (by decide) ?_
  refine tw_iadd dL_law__291 ?_
  refine tw_nmi (fun v5 ev5 => ?_)
  have q6 : v5 = nI (5 * j + 2) := by rw [ev5]; exact tw_s2 _
  rw [q6]
  obtain ⟨y7, ey7⟩ : ∃ y : Int32, Int32.ofNat (d.2 (1000 + (nI (5 * j + 2)).toNatClampNeg)) = y := ⟨_, rfl⟩
  refine tw_ti (v := .int y7) (fun _ _ z => z.xs.2.2.2.2.2) dL_law__292 (vp_in_nI (by omega) (by omega)) (congrArg Value.int ey7) ?_
  refine tw_aload_n 0 dL_law__293 rfl rfl ?_
  refine tw_iload 4 dL_law__294 rfl ?_
  refine tw_iconst (v := 3) dL_law__296 (by decide) ?_
  refine tw_iadd dL_law__297 ?_
  refine tw_nmi (fun v8 ev8 => ?_)
  have q9 : v8 = nI (5 * j + 3) := by rw [ev8]; exact tw_s3 _
  rw [q9]
  obtain ⟨y10, ey10⟩ : ∃ y : Int32, Int32.ofNat (d.2 (1000 + (nI (5 * j + 3)).toNatClampNeg)) = y := ⟨_, rfl⟩
  refine tw_ti (v := .int y10) (fun _ _ z => z.xs.2.2.2.2.2) dL_law__298 (vp_in_nI (by omega) (by omega)) (congrArg Value.int ey10) ?_
  refine tw_if_eq 306 dL_law__299 (by decide) (fun c11 => ?_) (fun c11 => ?_)
  · refine tw_iconst (v := 0) dL_law__306 (by decide) ?_
    refine tw_aload_n 3 dL_law__307 rfl rfl ?_
    refine tw_bi (tw_callSH (M := mL_law_) (pc := 308) okL_gate dL_law__308 w_566 [.ref x, .int y4, .int y7, .int 0, .ref o] [] rfl rfl ⟨by decide, by decide⟩ (Nat.le_of_ble_eq_true rfl) (c_L_gate d g τ h sp1.1 x ok.2.2.1 y4 y7 0 (by unfold tw_01; decide) o ok.2.2.2.2.1) ((c + 900) - 20) ((n + 5000) - 120) (by omega) (by omega)) (fun r14 h13 q12 => ?_) (fun E h1 q => q.elim)
    rcases q12 with ⟨q12e, q12cI, q12cR, q12n, q12z, τc, q12s⟩ | ⟨q12e, q12cI, τc, q12s⟩ | ⟨q12e, q12cI, q12cR, τc, q12s⟩
    · rw [q12e]
      have h49 := (tw_b678 ok.1 ok.2.2.1).1
      obtain ⟨gL, egL⟩ : ∃ z : tw_G, z = (tw_g1 g (160 + 64 * tw_DN y4 + 2 + tw_DN y7) 0) := ⟨_, rfl⟩
      rw [← egL] at q12s
      have gl3 : gL.2 3 = g.2 3 := by rw [egL]; rfl
      have gl4 : gL.2 4 = g.2 4 := by rw [egL]; rfl
      have gl5 : gL.2 5 = g.2 5 := by rw [egL]; rfl
      have gl9 : gL.2 9 = g.2 9 := by rw [egL]; rfl
      have gl22 : gL.2 22 = g.2 22 := by rw [egL]; rfl
      have kx1 := q12s.2.1.k ok.2.2.1 (by decide)
      have km1 := q12s.2.1.k ok.2.2.2.1 (by decide)
      have ko1 := q12s.2.1.k ok.2.2.2.2.1 (by decide)
      refine tw_istore [(5, .int 0), (0, .ref (d.2 98)), (1, .ref x), (2, .ref m), (3, .ref o), (4, .int (nI (5 * j)))] dL_law__311 (by decide) rfl ?_
      refine tw_aload_n 3 dL_law__313 rfl rfl ?_
      refine tw_aload_n 1 dL_law__314 rfl rfl ?_
      refine tw_iload 5 dL_law__315 rfl ?_
      refine tw_iconst (v := 1) dL_law__317 (by decide) ?_
      refine tw_iadd dL_law__318 ?_
      refine tw_nmi (fun v15 ev15 => ?_)
      have q16 : v15 = nI (5 * j + 1) := by rw [ev15]; exact tw_s1 _
      rw [q16]
      refine tw_ti (v := .int y4) (fun _ _ z => z.xs.2.2.2.2.2) dL_law__319 (vp_in_nI (by omega) (by omega)) (congrArg Value.int ey4) ?_
      refine tw_aload_n 1 dL_law__320 rfl rfl ?_
      refine tw_iload 5 dL_law__321 rfl ?_
      refine tw_iconst (v := 2) dL_law__323 (by decide) ?_
      refine tw_iadd dL_law__324 ?_
      refine tw_nmi (fun v17 ev17 => ?_)
      have q18 : v17 = nI (5 * j + 2) := by rw [ev17]; exact tw_s2 _
      rw [q18]
      refine tw_ti (v := .int y7) (fun _ _ z => z.xs.2.2.2.2.2) dL_law__325 (vp_in_nI (by omega) (by omega)) (congrArg Value.int ey7) ?_
      refine tw_aload_n 1 dL_law__326 rfl rfl ?_
      refine tw_iload 5 dL_law__327 rfl ?_
      refine tw_iconst (v := 3) dL_law__329 (by decide) ?_
      refine tw_iadd dL_law__330 ?_
      refine tw_nmi (fun v19 ev19 => ?_)
      have q20 : v19 = nI (5 * j + 3) := by rw [ev19]; exact tw_s3 _
      rw [q20]
      refine tw_ti (v := .int y10) (fun _ _ z => z.xs.2.2.2.2.2) dL_law__331 (vp_in_nI (by omega) (by omega)) (congrArg Value.int ey10) ?_
      refine tw_if_eq 339 dL_law__332 (by decide) (fun _ => ?_) (fun c21 => absurd (c11) c21)
      refine tw_iconst (v := 0) dL_law__339 (by decide) ?_
      obtain ⟨e22, f23, th_24, td_25, ds_26, fr_27, ca_28, us_29, wo_30, cm_31, lc_32, lh_33, ld_34, rfl, k35, k36, k37, k38, k39, k40, k41, k42, k43, k44, k45, k46, k47, k48, k49, k50, k51, k52, k53, k54, k55, k56⟩ := (tw_sp.rf q12s.1).1 m 36 km1 (by decide)
      refine tw_bi (tw_callV (M := mL_law_) (pc := 340) okX10_gate dL_law__340 w_1304 rfl f23 [.int y4, .int y7, .int 0] [] rfl rfl ⟨by decide, by decide⟩ (Nat.le_of_ble_eq_true rfl) (c2_X10_gate d gL τc h13 (tw_sp.rf q12s.1).1 m km1 y4 y7 0 (by unfold tw_01; decide) o ko1) ((c + 900) - 20) ((n + 5000) - 120) (by omega) (by omega)) (fun r59 h58 q57 => ?_) (fun E h1 q => q.elim)
      obtain ⟨g9, τ9, s9, oq9, q57a⟩ := q57
      have kx2 := s9.2.1.k kx1 (by decide)
      have km2 := s9.2.1.k km1 (by decide)
      have ko2 := s9.2.1.k ko1 (by decide)
      have q12cI3 : tw_ix (gL.2 3) y4 := by rw [gl3, ← ok.2.1.2.2.2.1.trans ok.2.1.1]; exact q12cI
      rcases q57a with ⟨z, -⟩ | ⟨-, z, -⟩ | ⟨-, -, hr2, ht, gk9⟩
      · exact absurd q12cI3 z
      · exact absurd q12cR z
      · rw [hr2]
        have ok9 : tw_ok5 d x m o (100000 * j) g9 τ9 h58 := ⟨s9.1, (by rw [gk9, egL]; exact ok.2.1.gate q12cI q12cR h49), kx2, km2, ko2, (ok.2.2.2.2.2.cg (fun i hi => by rw [gk9]; (repeat (first | rw [tw_g1_ne (by omega)] | rw [tw_ad_ne (by omega)] | rw [tw_gT_1 (by omega)])); rw [egL]; (repeat (first | rw [tw_g1_ne (by omega)] | rw [tw_ad_ne (by omega)] | rw [tw_gT_1 (by omega)]))))⟩
        have hlg : tw_lg (h58 o) = (g.1 (160 + 64 * tw_DN y4 + 2 + tw_DN y7)).toInt64 := by rw [oq9]; exact q12n
        have sp60 := tw_sp.rf ok9.1
        refine tw_istore [(6, .int (gL.1 (480 + 64 * tw_DN y4 + 8 + tw_DN y7))), (5, .int 0), (0, .ref (d.2 98)), (1, .ref x), (2, .ref m), (3, .ref o), (4, .int (nI (5 * j)))] dL_law__343 (by decide) rfl ?_
        refine tw_goto 1362 dL_law__345 (by decide) ?_
        refine tw_lv [2, 3, 4, 5, 6] rfl ?_
        refine tw_less (c2 := c) (n2 := n) (by omega) (by omega) ?_
        exact J _ _ _ (ok9.up (by omega))
    · rw [q12e]
      have h49 := (tw_b678 ok.1 ok.2.2.1).1
      have kx1 := q12s.2.1.k ok.2.2.1 (by decide)
      have km1 := q12s.2.1.k ok.2.2.2.1 (by decide)
      have ko1 := q12s.2.1.k ok.2.2.2.2.1 (by decide)
      refine tw_istore [(5, .int 1), (0, .ref (d.2 98)), (1, .ref x), (2, .ref m), (3, .ref o), (4, .int (nI (5 * j)))] dL_law__311 (by decide) rfl ?_
      refine tw_aload_n 3 dL_law__313 rfl rfl ?_
      refine tw_aload_n 1 dL_law__314 rfl rfl ?_
      refine tw_iload 5 dL_law__315 rfl ?_
      refine tw_iconst (v := 1) dL_law__317 (by decide) ?_
      refine tw_iadd dL_law__318 ?_
      refine tw_nmi (fun v61 ev61 => ?_)
      have q62 : v61 = nI (5 * j + 1) := by rw [ev61]; exact tw_s1 _
      rw [q62]
      refine tw_ti (v := .int y4) (fun _ _ z => z.xs.2.2.2.2.2) dL_law__319 (vp_in_nI (by omega) (by omega)) (congrArg Value.int ey4) ?_
      refine tw_aload_n 1 dL_law__320 rfl rfl ?_
      refine tw_iload 5 dL_law__321 rfl ?_
      refine tw_iconst (v := 2) dL_law__323 (by decide) ?_
      refine tw_iadd dL_law__324 ?_
      refine tw_nmi (fun v63 ev63 => ?_)
      have q64 : v63 = nI (5 * j + 2) := by rw [ev63]; exact tw_s2 _
      rw [q64]
      refine tw_ti (v := .int y7) (fun _ _ z => z.xs.2.2.2.2.2) dL_law__325 (vp_in_nI (by omega) (by omega)) (congrArg Value.int ey7) ?_
      refine tw_aload_n 1 dL_law__326 rfl rfl ?_
      refine tw_iload 5 dL_law__327 rfl ?_
      refine tw_iconst (v := 3) dL_law__329 (by decide) ?_
      refine tw_iadd dL_law__330 ?_
      refine tw_nmi (fun v65 ev65 => ?_)
      have q66 : v65 = nI (5 * j + 3) := by rw [ev65]; exact tw_s3 _
      rw [q66]
      refine tw_ti (v := .int y10) (fun _ _ z => z.xs.2.2.2.2.2) dL_law__331 (vp_in_nI (by omega) (by omega)) (congrArg Value.int ey10) ?_
      refine tw_if_eq 339 dL_law__332 (by decide) (fun _ => ?_) (fun c67 => absurd (c11) c67)
      refine tw_iconst (v := 0) dL_law__339 (by decide) ?_
      obtain ⟨e68, f69, th_70, td_71, ds_72, fr_73, ca_74, us_75, wo_76, cm_77, lc_78, lh_79, ld_80, rfl, k81, k82, k83, k84, k85, k86, k87, k88, k89, k90, k91, k92, k93, k94, k95, k96, k97, k98, k99, k100, k101, k102⟩ := (tw_sp.rf q12s.1).1 m 36 km1 (by decide)
      refine tw_bi (tw_callV (M := mL_law_) (pc := 340) okX10_gate dL_law__340 w_1304 rfl f69 [.int y4, .int y7, .int 0] [] rfl rfl ⟨by decide, by decide⟩ (Nat.le_of_ble_eq_true rfl) (c2_X10_gate d g τc h13 (tw_sp.rf q12s.1).1 m km1 y4 y7 0 (by unfold tw_01; decide) o ko1) ((c + 900) - 20) ((n + 5000) - 120) (by omega) (by omega)) (fun r105 h104 q103 => ?_) (fun E h1 q => q.elim)
      obtain ⟨g9, τ9, s9, oq9, q103a⟩ := q103
      have kx2 := s9.2.1.k kx1 (by decide)
      have km2 := s9.2.1.k km1 (by decide)
      have ko2 := s9.2.1.k ko1 (by decide)
      have q12cI3 : ¬ tw_ix (g.2 3) y4 := by rw [← ok.2.1.2.2.2.1.trans ok.2.1.1]; exact q12cI
      rcases q103a with ⟨-, ht, eg9⟩ | ⟨z, -⟩ | ⟨z, -⟩
      · rw [eg9] at s9
        have ok9 : tw_ok5 d x m o (100000 * j) g τ9 h104 := ⟨s9.1, ok.2.1, kx2, km2, ko2, ok.2.2.2.2.2⟩
        have sp106 := tw_sp.rf ok9.1
        refine tw_istore [(6, .int r105), (5, .int 1), (0, .ref (d.2 98)), (1, .ref x), (2, .ref m), (3, .ref o), (4, .int (nI (5 * j)))] dL_law__343 (by decide) rfl ?_
        refine tw_goto 1362 dL_law__345 (by decide) ?_
        refine tw_lv [2, 3, 4, 5, 6] rfl ?_
        refine tw_less (c2 := c) (n2 := n) (by omega) (by omega) ?_
        exact J _ _ _ (ok9.up (by omega))
      · exact absurd z q12cI3
      · exact absurd z q12cI3
    · rw [q12e]
      have h49 := (tw_b678 ok.1 ok.2.2.1).1
      have kx1 := q12s.2.1.k ok.2.2.1 (by decide)
      have km1 := q12s.2.1.k ok.2.2.2.1 (by decide)
      have ko1 := q12s.2.1.k ok.2.2.2.2.1 (by decide)
      refine tw_istore [(5, .int 2), (0, .ref (d.2 98)), (1, .ref x), (2, .ref m), (3, .ref o), (4, .int (nI (5 * j)))] dL_law__311 (by decide) rfl ?_
      refine tw_aload_n 3 dL_law__313 rfl rfl ?_
      refine tw_aload_n 1 dL_law__314 rfl rfl ?_
      refine tw_iload 5 dL_law__315 rfl ?_
      refine tw_iconst (v := 1) dL_law__317 (by decide) ?_
      refine tw_iadd dL_law__318 ?_
      refine tw_nmi (fun v107 ev107 => ?_)
      have q108 : v107 = nI (5 * j + 1) := by rw [ev107]; exact tw_s1 _
      rw [q108]
      refine tw_ti (v := .int y4) (fun _ _ z => z.xs.2.2.2.2.2) dL_law__319 (vp_in_nI (by omega) (by omega)) (congrArg Value.int ey4) ?_
      refine tw_aload_n 1 dL_law__320 rfl rfl ?_
      refine tw_iload 5 dL_law__321 rfl ?_
      refine tw_iconst (v := 2) dL_law__323 (by decide) ?_
      refine tw_iadd dL_law__324 ?_
      refine tw_nmi (fun v109 ev109 => ?_)
      have q110 : v109 = nI (5 * j + 2) := by rw [ev109]; exact tw_s2 _
      rw [q110]
      refine tw_ti (v := .int y7) (fun _ _ z => z.xs.2.2.2.2.2) dL_law__325 (vp_in_nI (by omega) (by omega)) (congrArg Value.int ey7) ?_
      refine tw_aload_n 1 dL_law__326 rfl rfl ?_
      refine tw_iload 5 dL_law__327 rfl ?_
      refine tw_iconst (v := 3) dL_law__329 (by decide) ?_
      refine tw_iadd dL_law__330 ?_
      refine tw_nmi (fun v111 ev111 => ?_)
      have q112 : v111 = nI (5 * j + 3) := by rw [ev111]; exact tw_s3 _
      rw [q112]
      refine tw_ti (v := .int y10) (fun _ _ z => z.xs.2.2.2.2.2) dL_law__331 (vp_in_nI (by omega) (by omega)) (congrArg Value.int ey10) ?_
      refine tw_if_eq 339 dL_law__332 (by decide) (fun _ => ?_) (fun c113 => absurd (c11) c113)
      refine tw_iconst (v := 0) dL_law__339 (by decide) ?_
      obtain ⟨e114, f115, th_116, td_117, ds_118, fr_119, ca_120, us_121, wo_122, cm_123, lc_124, lh_125, ld_126, rfl, k127, k128, k129, k130, k131, k132, k133, k134, k135, k136, k137, k138, k139, k140, k141, k142, k143, k144, k145, k146, k147, k148⟩ := (tw_sp.rf q12s.1).1 m 36 km1 (by decide)
      refine tw_bi (tw_callV (M := mL_law_) (pc := 340) okX10_gate dL_law__340 w_1304 rfl f115 [.int y4, .int y7, .int 0] [] rfl rfl ⟨by decide, by decide⟩ (Nat.le_of_ble_eq_true rfl) (c2_X10_gate d g τc h13 (tw_sp.rf q12s.1).1 m km1 y4 y7 0 (by unfold tw_01; decide) o ko1) ((c + 900) - 20) ((n + 5000) - 120) (by omega) (by omega)) (fun r151 h150 q149 => ?_) (fun E h1 q => q.elim)
      obtain ⟨g9, τ9, s9, oq9, q149a⟩ := q149
      have kx2 := s9.2.1.k kx1 (by decide)
      have km2 := s9.2.1.k km1 (by decide)
      have ko2 := s9.2.1.k ko1 (by decide)
      have q12cI3 : tw_ix (g.2 3) y4 := by rw [← ok.2.1.2.2.2.1.trans ok.2.1.1]; exact q12cI
      rcases q149a with ⟨z, -⟩ | ⟨-, -, ht, eg9⟩ | ⟨-, z, -⟩
      · exact absurd q12cI3 z
      · rw [eg9] at s9
        have ok9 : tw_ok5 d x m o (100000 * j) g τ9 h150 := ⟨s9.1, ok.2.1, kx2, km2, ko2, ok.2.2.2.2.2⟩
        have sp152 := tw_sp.rf ok9.1
        refine tw_istore [(6, .int r151), (5, .int 2), (0, .ref (d.2 98)), (1, .ref x), (2, .ref m), (3, .ref o), (4, .int (nI (5 * j)))] dL_law__343 (by decide) rfl ?_
        refine tw_goto 1362 dL_law__345 (by decide) ?_
        refine tw_lv [2, 3, 4, 5, 6] rfl ?_
        refine tw_less (c2 := c) (n2 := n) (by omega) (by omega) ?_
        exact J _ _ _ (ok9.up (by omega))
      · exact absurd z q12cR
  · refine tw_iconst (v := 1) dL_law__302 (by decide) ?_
    refine tw_goto 307 dL_law__303 (by decide) ?_
    refine tw_aload_n 3 dL_law__307 rfl rfl ?_
    refine tw_bi (tw_callSH (M := mL_law_) (pc := 308) okL_gate dL_law__308 w_566 [.ref x, .int y4, .int y7, .int 1, .ref o] [] rfl rfl ⟨by decide, by decide⟩ (Nat.le_of_ble_eq_true rfl) (c_L_gate d g τ h sp1.1 x ok.2.2.1 y4 y7 1 (by unfold tw_01; decide) o ok.2.2.2.2.1) ((c + 900) - 20) ((n + 5000) - 120) (by omega) (by omega)) (fun r155 h154 q153 => ?_) (fun E h1 q => q.elim)
    rcases q153 with ⟨q153e, q153cI, q153cR, q153n, q153z, τc, q153s⟩ | ⟨q153e, q153cI, τc, q153s⟩ | ⟨q153e, q153cI, q153cR, τc, q153s⟩
    · rw [q153e]
      have h49 := (tw_b678 ok.1 ok.2.2.1).1
      obtain ⟨gL, egL⟩ : ∃ z : tw_G, z = (tw_g1 g (160 + 64 * tw_DN y4 + 2 + tw_DN y7) 1) := ⟨_, rfl⟩
      rw [← egL] at q153s
      have gl3 : gL.2 3 = g.2 3 := by rw [egL]; rfl
      have gl4 : gL.2 4 = g.2 4 := by rw [egL]; rfl
      have gl5 : gL.2 5 = g.2 5 := by rw [egL]; rfl
      have gl9 : gL.2 9 = g.2 9 := by rw [egL]; rfl
      have gl22 : gL.2 22 = g.2 22 := by rw [egL]; rfl
      have kx1 := q153s.2.1.k ok.2.2.1 (by decide)
      have km1 := q153s.2.1.k ok.2.2.2.1 (by decide)
      have ko1 := q153s.2.1.k ok.2.2.2.2.1 (by decide)
      refine tw_istore [(5, .int 0), (0, .ref (d.2 98)), (1, .ref x), (2, .ref m), (3, .ref o), (4, .int (nI (5 * j)))] dL_law__311 (by decide) rfl ?_
      refine tw_aload_n 3 dL_law__313 rfl rfl ?_
      refine tw_aload_n 1 dL_law__314 rfl rfl ?_
      refine tw_iload 5 dL_law__315 rfl ?_
      refine tw_iconst (v := 1) dL_law__317 (by decide) ?_
      refine tw_iadd dL_law__318 ?_
      refine tw_nmi (fun v156 ev156 => ?_)
      have q157 : v156 = nI (5 * j + 1) := by rw [ev156]; exact tw_s1 _
      rw [q157]
      refine tw_ti (v := .int y4) (fun _ _ z => z.xs.2.2.2.2.2) dL_law__319 (vp_in_nI (by omega) (by omega)) (congrArg Value.int ey4) ?_
      refine tw_aload_n 1 dL_law__320 rfl rfl ?_
      refine tw_iload 5 dL_law__321 rfl ?_
      refine tw_iconst (v := 2) dL_law__323 (by decide) ?_
      refine tw_iadd dL_law__324 ?_
      refine tw_nmi (fun v158 ev158 => ?_)
      have q159 : v158 = nI (5 * j + 2) := by rw [ev158]; exact tw_s2 _
      rw [q159]
      refine tw_ti (v := .int y7) (fun _ _ z => z.xs.2.2.2.2.2) dL_law__325 (vp_in_nI (by omega) (by omega)) (congrArg Value.int ey7) ?_
      refine tw_aload_n 1 dL_law__326 rfl rfl ?_
      refine tw_iload 5 dL_law__327 rfl ?_
      refine tw_iconst (v := 3) dL_law__329 (by decide) ?_
      refine tw_iadd dL_law__330 ?_
      refine tw_nmi (fun v160 ev160 => ?_)
      have q161 : v160 = nI (5 * j + 3) := by rw [ev160]; exact tw_s3 _
      rw [q161]
      refine tw_ti (v := .int y10) (fun _ _ z => z.xs.2.2.2.2.2) dL_law__331 (vp_in_nI (by omega) (by omega)) (congrArg Value.int ey10) ?_
      refine tw_if_eq 339 dL_law__332 (by decide) (fun c162 => absurd c162 (c11)) (fun _ => ?_)
      refine tw_iconst (v := 1) dL_law__335 (by decide) ?_
      refine tw_goto 340 dL_law__336 (by decide) ?_
      obtain ⟨e163, f164, th_165, td_166, ds_167, fr_168, ca_169, us_170, wo_171, cm_172, lc_173, lh_174, ld_175, rfl, k176, k177, k178, k179, k180, k181, k182, k183, k184, k185, k186, k187, k188, k189, k190, k191, k192, k193, k194, k195, k196, k197⟩ := (tw_sp.rf q153s.1).1 m 36 km1 (by decide)
      refine tw_bi (tw_callV (M := mL_law_) (pc := 340) okX10_gate dL_law__340 w_1304 rfl f164 [.int y4, .int y7, .int 1] [] rfl rfl ⟨by decide, by decide⟩ (Nat.le_of_ble_eq_true rfl) (c2_X10_gate d gL τc h154 (tw_sp.rf q153s.1).1 m km1 y4 y7 1 (by unfold tw_01; decide) o ko1) ((c + 900) - 20) ((n + 5000) - 120) (by omega) (by omega)) (fun r200 h199 q198 => ?_) (fun E h1 q => q.elim)
      obtain ⟨g9, τ9, s9, oq9, q198a⟩ := q198
      have kx2 := s9.2.1.k kx1 (by decide)
      have km2 := s9.2.1.k km1 (by decide)
      have ko2 := s9.2.1.k ko1 (by decide)
      have q153cI3 : tw_ix (gL.2 3) y4 := by rw [gl3, ← ok.2.1.2.2.2.1.trans ok.2.1.1]; exact q153cI
      rcases q198a with ⟨z, -⟩ | ⟨-, z, -⟩ | ⟨-, -, hr2, ht, gk9⟩
      · exact absurd q153cI3 z
      · exact absurd q153cR z
      · rw [hr2]
        have ok9 : tw_ok5 d x m o (100000 * j) g9 τ9 h199 := ⟨s9.1, (by rw [gk9, egL]; exact ok.2.1.gate q153cI q153cR h49), kx2, km2, ko2, (ok.2.2.2.2.2.cg (fun i hi => by rw [gk9]; (repeat (first | rw [tw_g1_ne (by omega)] | rw [tw_ad_ne (by omega)] | rw [tw_gT_1 (by omega)])); rw [egL]; (repeat (first | rw [tw_g1_ne (by omega)] | rw [tw_ad_ne (by omega)] | rw [tw_gT_1 (by omega)]))))⟩
        have hlg : tw_lg (h199 o) = (g.1 (160 + 64 * tw_DN y4 + 2 + tw_DN y7)).toInt64 := by rw [oq9]; exact q153n
        have sp201 := tw_sp.rf ok9.1
        refine tw_istore [(6, .int (gL.1 (480 + 64 * tw_DN y4 + 8 + tw_DN y7))), (5, .int 0), (0, .ref (d.2 98)), (1, .ref x), (2, .ref m), (3, .ref o), (4, .int (nI (5 * j)))] dL_law__343 (by decide) rfl ?_
        refine tw_goto 1362 dL_law__345 (by decide) ?_
        refine tw_lv [2, 3, 4, 5, 6] rfl ?_
        refine tw_less (c2 := c) (n2 := n) (by omega) (by omega) ?_
        exact J _ _ _ (ok9.up (by omega))
    · rw [q153e]
      have h49 := (tw_b678 ok.1 ok.2.2.1).1
      have kx1 := q153s.2.1.k ok.2.2.1 (by decide)
      have km1 := q153s.2.1.k ok.2.2.2.1 (by decide)
      have ko1 := q153s.2.1.k ok.2.2.2.2.1 (by decide)
      refine tw_istore [(5, .int 1), (0, .ref (d.2 98)), (1, .ref x), (2, .ref m), (3, .ref o), (4, .int (nI (5 * j)))] dL_law__311 (by decide) rfl ?_
      refine tw_aload_n 3 dL_law__313 rfl rfl ?_
      refine tw_aload_n 1 dL_law__314 rfl rfl ?_
      refine tw_iload 5 dL_law__315 rfl ?_
      refine tw_iconst (v := 1) dL_law__317 (by decide) ?_
      refine tw_iadd dL_law__318 ?_
      refine tw_nmi (fun v202 ev202 => ?_)
      have q203 : v202 = nI (5 * j + 1) := by rw [ev202]; exact tw_s1 _
      rw [q203]
      refine tw_ti (v := .int y4) (fun _ _ z => z.xs.2.2.2.2.2) dL_law__319 (vp_in_nI (by omega) (by omega)) (congrArg Value.int ey4) ?_
      refine tw_aload_n 1 dL_law__320 rfl rfl ?_
      refine tw_iload 5 dL_law__321 rfl ?_
      refine tw_iconst (v := 2) dL_law__323 (by decide) ?_
      refine tw_iadd dL_law__324 ?_
      refine tw_nmi (fun v204 ev204 => ?_)
      have q205 : v204 = nI (5 * j + 2) := by rw [ev204]; exact tw_s2 _
      rw [q205]
      refine tw_ti (v := .int y7) (fun _ _ z => z.xs.2.2.2.2.2) dL_law__325 (vp_in_nI (by omega) (by omega)) (congrArg Value.int ey7) ?_
      refine tw_aload_n 1 dL_law__326 rfl rfl ?_
      refine tw_iload 5 dL_law__327 rfl ?_
      refine tw_iconst (v := 3) dL_law__329 (by decide) ?_
      refine tw_iadd dL_law__330 ?_
      refine tw_nmi (fun v206 ev206 => ?_)
      have q207 : v206 = nI (5 * j + 3) := by rw [ev206]; exact tw_s3 _
      rw [q207]
      refine tw_ti (v := .int y10) (fun _ _ z => z.xs.2.2.2.2.2) dL_law__331 (vp_in_nI (by omega) (by omega)) (congrArg Value.int ey10) ?_
      refine tw_if_eq 339 dL_law__332 (by decide) (fun c208 => absurd c208 (c11)) (fun _ => ?_)
      refine tw_iconst (v := 1) dL_law__335 (by decide) ?_
      refine tw_goto 340 dL_law__336 (by decide) ?_
      obtain ⟨e209, f210, th_211, td_212, ds_213, fr_214, ca_215, us_216, wo_217, cm_218, lc_219, lh_220, ld_221, rfl, k222, k223, k224, k225, k226, k227, k228, k229, k230, k231, k232, k233, k234, k235, k236, k237, k238, k239, k240, k241, k242, k243⟩ := (tw_sp.rf q153s.1).1 m 36 km1 (by decide)
      refine tw_bi (tw_callV (M := mL_law_) (pc := 340) okX10_gate dL_law__340 w_1304 rfl f210 [.int y4, .int y7, .int 1] [] rfl rfl ⟨by decide, by decide⟩ (Nat.le_of_ble_eq_true rfl) (c2_X10_gate d g τc h154 (tw_sp.rf q153s.1).1 m km1 y4 y7 1 (by unfold tw_01; decide) o ko1) ((c + 900) - 20) ((n + 5000) - 120) (by omega) (by omega)) (fun r246 h245 q244 => ?_) (fun E h1 q => q.elim)
      obtain ⟨g9, τ9, s9, oq9, q244a⟩ := q244
      have kx2 := s9.2.1.k kx1 (by decide)
      have km2 := s9.2.1.k km1 (by decide)
      have ko2 := s9.2.1.k ko1 (by decide)
      have q153cI3 : ¬ tw_ix (g.2 3) y4 := by rw [← ok.2.1.2.2.2.1.trans ok.2.1.1]; exact q153cI
      rcases q244a with ⟨-, ht, eg9⟩ | ⟨z, -⟩ | ⟨z, -⟩
      · rw [eg9] at s9
        have ok9 : tw_ok5 d x m o (100000 * j) g τ9 h245 := ⟨s9.1, ok.2.1, kx2, km2, ko2, ok.2.2.2.2.2⟩
        have sp247 := tw_sp.rf ok9.1
        refine tw_istore [(6, .int r246), (5, .int 1), (0, .ref (d.2 98)), (1, .ref x), (2, .ref m), (3, .ref o), (4, .int (nI (5 * j)))] dL_law__343 (by decide) rfl ?_
        refine tw_goto 1362 dL_law__345 (by decide) ?_
        refine tw_lv [2, 3, 4, 5, 6] rfl ?_
        refine tw_less (c2 := c) (n2 := n) (by omega) (by omega) ?_
        exact J _ _ _ (ok9.up (by omega))
      · exact absurd z q153cI3
      · exact absurd z q153cI3
    · rw [q153e]
      have h49 := (tw_b678 ok.1 ok.2.2.1).1
      have kx1 := q153s.2.1.k ok.2.2.1 (by decide)
      have km1 := q153s.2.1.k ok.2.2.2.1 (by decide)
      have ko1 := q153s.2.1.k ok.2.2.2.2.1 (by decide)
      refine tw_istore [(5, .int 2), (0, .ref (d.2 98)), (1, .ref x), (2, .ref m), (3, .ref o), (4, .int (nI (5 * j)))] dL_law__311 (by decide) rfl ?_
      refine tw_aload_n 3 dL_law__313 rfl rfl ?_
      refine tw_aload_n 1 dL_law__314 rfl rfl ?_
      refine tw_iload 5 dL_law__315 rfl ?_
      refine tw_iconst (v := 1) dL_law__317 (by decide) ?_
      refine tw_iadd dL_law__318 ?_
      refine tw_nmi (fun v248 ev248 => ?_)
      have q249 : v248 = nI (5 * j + 1) := by rw [ev248]; exact tw_s1 _
      rw [q249]
      refine tw_ti (v := .int y4) (fun _ _ z => z.xs.2.2.2.2.2) dL_law__319 (vp_in_nI (by omega) (by omega)) (congrArg Value.int ey4) ?_
      refine tw_aload_n 1 dL_law__320 rfl rfl ?_
      refine tw_iload 5 dL_law__321 rfl ?_
      refine tw_iconst (v := 2) dL_law__323 (by decide) ?_
      refine tw_iadd dL_law__324 ?_
      refine tw_nmi (fun v250 ev250 => ?_)
      have q251 : v250 = nI (5 * j + 2) := by rw [ev250]; exact tw_s2 _
      rw [q251]
      refine tw_ti (v := .int y7) (fun _ _ z => z.xs.2.2.2.2.2) dL_law__325 (vp_in_nI (by omega) (by omega)) (congrArg Value.int ey7) ?_
      refine tw_aload_n 1 dL_law__326 rfl rfl ?_
      refine tw_iload 5 dL_law__327 rfl ?_
      refine tw_iconst (v := 3) dL_law__329 (by decide) ?_
      refine tw_iadd dL_law__330 ?_
      refine tw_nmi (fun v252 ev252 => ?_)
      have q253 : v252 = nI (5 * j + 3) := by rw [ev252]; exact tw_s3 _
      rw [q253]
      refine tw_ti (v := .int y10) (fun _ _ z => z.xs.2.2.2.2.2) dL_law__331 (vp_in_nI (by omega) (by omega)) (congrArg Value.int ey10) ?_
      refine tw_if_eq 339 dL_law__332 (by decide) (fun c254 => absurd c254 (c11)) (fun _ => ?_)
      refine tw_iconst (v := 1) dL_law__335 (by decide) ?_
      refine tw_goto 340 dL_law__336 (by decide) ?_
      obtain ⟨e255, f256, th_257, td_258, ds_259, fr_260, ca_261, us_262, wo_263, cm_264, lc_265, lh_266, ld_267, rfl, k268, k269, k270, k271, k272, k273, k274, k275, k276, k277, k278, k279, k280, k281, k282, k283, k284, k285, k286, k287, k288, k289⟩ := (tw_sp.rf q153s.1).1 m 36 km1 (by decide)
      refine tw_bi (tw_callV (M := mL_law_) (pc := 340) okX10_gate dL_law__340 w_1304 rfl f256 [.int y4, .int y7, .int 1] [] rfl rfl ⟨by decide, by decide⟩ (Nat.le_of_ble_eq_true rfl) (c2_X10_gate d g τc h154 (tw_sp.rf q153s.1).1 m km1 y4 y7 1 (by unfold tw_01; decide) o ko1) ((c + 900) - 20) ((n + 5000) - 120) (by omega) (by omega)) (fun r292 h291 q290 => ?_) (fun E h1 q => q.elim)
      obtain ⟨g9, τ9, s9, oq9, q290a⟩ := q290
      have kx2 := s9.2.1.k kx1 (by decide)
      have km2 := s9.2.1.k km1 (by decide)
      have ko2 := s9.2.1.k ko1 (by decide)
      have q153cI3 : tw_ix (g.2 3) y4 := by rw [← ok.2.1.2.2.2.1.trans ok.2.1.1]; exact q153cI
      rcases q290a with ⟨z, -⟩ | ⟨-, -, ht, eg9⟩ | ⟨-, z, -⟩
      · exact absurd q153cI3 z
      · rw [eg9] at s9
        have ok9 : tw_ok5 d x m o (100000 * j) g τ9 h291 := ⟨s9.1, ok.2.1, kx2, km2, ko2, ok.2.2.2.2.2⟩
        have sp293 := tw_sp.rf ok9.1
        refine tw_istore [(6, .int r292), (5, .int 2), (0, .ref (d.2 98)), (1, .ref x), (2, .ref m), (3, .ref o), (4, .int (nI (5 * j)))] dL_law__343 (by decide) rfl ?_
        refine tw_goto 1362 dL_law__345 (by decide) ?_
        refine tw_lv [2, 3, 4, 5, 6] rfl ?_
        refine tw_less (c2 := c) (n2 := n) (by omega) (by omega) ?_
        exact J _ _ _ (ok9.up (by omega))
      · exact absurd z q153cR

set_option maxHeartbeats 4000000 in
set_option maxRecDepth 100000 in
theorem law_case_3 (d : tw_D) (x m o j c n : Nat) (Q : tw_O → tw_H → Prop) (hL : d.2 97 ≤ 2560) (hj : 5 * j + 5 ≤ d.2 97) (J : tw_J d x m o j Q c n) (g : tw_G) (τ : tw_K) (h : tw_H) (ok : tw_ok5 d x m o (100000 * j) g τ h) : tw_W d mL_law_ Q 348 (tw_lv5 d x m o j) [] h (c + 900) (n + 5000) := by
  show tw_W d mL_law_ Q 348 [(0, .ref (d.2 98)), (1, .ref x), (2, .ref m), (3, .ref o), (4, .int (nI (5 * j)))] [] h (c + 900) (n + 5000)
  have sp1 := tw_sp.rf ok.1
  refine tw_aload_n 1 dL_law__348 rfl rfl ?_
  refine tw_aload_n 0 dL_law__349 rfl rfl ?_
  refine tw_iload 4 dL_law__350 rfl ?_
  refine tw_iconst (v := 1) dL_law__352 (by decide) ?_
  refine tw_iadd dL_law__353 ?_
  refine tw_nmi (fun v2 ev2 => ?_)
  have q3 : v2 = nI (5 * j + 1) := by rw [ev2]; exact tw_s1 _
  rw [q3]
  obtain ⟨y4, ey4⟩ : ∃ y : Int32, Int32.ofNat (d.2 (1000 + (nI (5 * j + 1)).toNatClampNeg)) = y := ⟨_, rfl⟩
  refine tw_ti (v := .int y4) (fun _ _ z => z.xs.2.2.2.2.2) dL_law__354 (vp_in_nI (by omega) (by omega)) (congrArg Value.int ey4) ?_
  refine tw_aload_n 3 dL_law__355 rfl rfl ?_
  refine tw_bi (tw_callSH (M := mL_law_) (pc := 356) okL_market dL_law__356 w_585 [.ref x, .int y4, .ref o] [] rfl rfl ⟨by decide, by decide⟩ (Nat.le_of_ble_eq_true rfl) (c_L_market d g τ h sp1.1 x ok.2.2.1 y4 o ok.2.2.2.2.1) ((c + 900) - 20) ((n + 5000) - 120) (by omega) (by omega)) (fun r7 h6 q5 => ?_) (fun E h1 q => q.elim)
  rcases q5 with ⟨q5e, q5cR, q5n, τc, q5s⟩ | ⟨q5e, q5cR, τc, q5s⟩
  · rw [q5e]
    have h49 := (tw_b678 ok.1 ok.2.2.1).1
    obtain ⟨gL, egL⟩ : ∃ z : tw_G, z = (tw_g1 g 0 y4) := ⟨_, rfl⟩
    rw [← egL] at q5s
    have gl3 : gL.2 3 = g.2 3 := by rw [egL]; rfl
    have gl4 : gL.2 4 = g.2 4 := by rw [egL]; rfl
    have gl5 : gL.2 5 = g.2 5 := by rw [egL]; rfl
    have gl9 : gL.2 9 = g.2 9 := by rw [egL]; rfl
    have gl22 : gL.2 22 = g.2 22 := by rw [egL]; rfl
    have kx1 := q5s.2.1.k ok.2.2.1 (by decide)
    have km1 := q5s.2.1.k ok.2.2.2.1 (by decide)
    have ko1 := q5s.2.1.k ok.2.2.2.2.1 (by decide)
    refine tw_istore [(5, .int 0), (0, .ref (d.2 98)), (1, .ref x), (2, .ref m), (3, .ref o), (4, .int (nI (5 * j)))] dL_law__359 (by decide) rfl ?_
    refine tw_aload_n 3 dL_law__361 rfl rfl ?_
    refine tw_aload_n 1 dL_law__362 rfl rfl ?_
    refine tw_iload 5 dL_law__363 rfl ?_
    refine tw_iconst (v := 1) dL_law__365 (by decide) ?_
    refine tw_iadd dL_law__366 ?_
    refine tw_nmi (fun v8 ev8 => ?_)
    have q9 : v8 = nI (5 * j + 1) := by rw [ev8]; exact tw_s1 _
    rw [q9]
    refine tw_ti (v := .int y4) (fun _ _ z => z.xs.2.2.2.2.2) dL_law__367 (vp_in_nI (by omega) (by omega)) (congrArg Value.int ey4) ?_
    obtain ⟨e10, f11, th_12, td_13, ds_14, fr_15, ca_16, us_17, wo_18, cm_19, lc_20, lh_21, ld_22, rfl, k23, k24, k25, k26, k27, k28, k29, k30, k31, k32, k33, k34, k35, k36, k37, k38, k39, k40, k41, k42, k43, k44⟩ := (tw_sp.rf q5s.1).1 m 36 km1 (by decide)
    refine tw_bi (tw_callV (M := mL_law_) (pc := 368) okX10_market dL_law__368 w_1311 rfl f11 [.int y4] [] rfl rfl ⟨by decide, by decide⟩ (Nat.le_of_ble_eq_true rfl) (c2_X10_market d gL τc h6 (tw_sp.rf q5s.1).1 m km1 y4 o ko1) ((c + 900) - 20) ((n + 5000) - 120) (by omega) (by omega)) (fun r47 h46 q45 => ?_) (fun E h1 q => q.elim)
    obtain ⟨g9, τ9, s9, oq9, q45a⟩ := q45
    have kx2 := s9.2.1.k kx1 (by decide)
    have km2 := s9.2.1.k km1 (by decide)
    have ko2 := s9.2.1.k ko1 (by decide)
    rcases q45a with ⟨z, -⟩ | ⟨-, hr2, ht, gk9⟩
    · exact absurd q5cR z
    · rw [hr2]
      have ok9 : tw_ok5 d x m o (100000 * j) g9 τ9 h46 := ⟨s9.1, (by rw [gk9, egL]; exact (ok.2.1.mk (i := 0) (by decide)).mk (i := 1) (by decide)), kx2, km2, ko2, (by rw [gk9, egL]; exact ⟨rfl, q5cR.1, q5cR.2⟩)⟩
      have hlg : tw_lg (h46 o) = (g.1 0).toInt64 := by rw [oq9]; exact q5n
      have sp48 := tw_sp.rf ok9.1
      refine tw_istore [(6, .int (gL.1 1)), (5, .int 0), (0, .ref (d.2 98)), (1, .ref x), (2, .ref m), (3, .ref o), (4, .int (nI (5 * j)))] dL_law__371 (by decide) rfl ?_
      refine tw_goto 1362 dL_law__373 (by decide) ?_
      refine tw_lv [2, 3, 4, 5, 6] rfl ?_
      refine tw_less (c2 := c) (n2 := n) (by omega) (by omega) ?_
      exact J _ _ _ (ok9.up (by omega))
  · rw [q5e]
    have h49 := (tw_b678 ok.1 ok.2.2.1).1
    have kx1 := q5s.2.1.k ok.2.2.1 (by decide)
    have km1 := q5s.2.1.k ok.2.2.2.1 (by decide)
    have ko1 := q5s.2.1.k ok.2.2.2.2.1 (by decide)
    refine tw_istore [(5, .int 1), (0, .ref (d.2 98)), (1, .ref x), (2, .ref m), (3, .ref o), (4, .int (nI (5 * j)))] dL_law__359 (by decide) rfl ?_
    refine tw_aload_n 3 dL_law__361 rfl rfl ?_
    refine tw_aload_n 1 dL_law__362 rfl rfl ?_
    refine tw_iload 5 dL_law__363 rfl ?_
    refine tw_iconst (v := 1) dL_law__365 (by decide) ?_
    refine tw_iadd dL_law__366 ?_
    refine tw_nmi (fun v49 ev49 => ?_)
    have q50 : v49 = nI (5 * j + 1) := by rw [ev49]; exact tw_s1 _
    rw [q50]
    refine tw_ti (v := .int y4) (fun _ _ z => z.xs.2.2.2.2.2) dL_law__367 (vp_in_nI (by omega) (by omega)) (congrArg Value.int ey4) ?_
    obtain ⟨e51, f52, th_53, td_54, ds_55, fr_56, ca_57, us_58, wo_59, cm_60, lc_61, lh_62, ld_63, rfl, k64, k65, k66, k67, k68, k69, k70, k71, k72, k73, k74, k75, k76, k77, k78, k79, k80, k81, k82, k83, k84, k85⟩ := (tw_sp.rf q5s.1).1 m 36 km1 (by decide)
    refine tw_bi (tw_callV (M := mL_law_) (pc := 368) okX10_market dL_law__368 w_1311 rfl f52 [.int y4] [] rfl rfl ⟨by decide, by decide⟩ (Nat.le_of_ble_eq_true rfl) (c2_X10_market d g τc h6 (tw_sp.rf q5s.1).1 m km1 y4 o ko1) ((c + 900) - 20) ((n + 5000) - 120) (by omega) (by omega)) (fun r88 h87 q86 => ?_) (fun E h1 q => q.elim)
    obtain ⟨g9, τ9, s9, oq9, q86a⟩ := q86
    have kx2 := s9.2.1.k kx1 (by decide)
    have km2 := s9.2.1.k km1 (by decide)
    have ko2 := s9.2.1.k ko1 (by decide)
    rcases q86a with ⟨-, ht, eg9⟩ | ⟨z, -⟩
    · rw [eg9] at s9
      have ok9 : tw_ok5 d x m o (100000 * j) g τ9 h87 := ⟨s9.1, ok.2.1, kx2, km2, ko2, ok.2.2.2.2.2⟩
      have sp89 := tw_sp.rf ok9.1
      refine tw_istore [(6, .int r88), (5, .int 1), (0, .ref (d.2 98)), (1, .ref x), (2, .ref m), (3, .ref o), (4, .int (nI (5 * j)))] dL_law__371 (by decide) rfl ?_
      refine tw_goto 1362 dL_law__373 (by decide) ?_
      refine tw_lv [2, 3, 4, 5, 6] rfl ?_
      refine tw_less (c2 := c) (n2 := n) (by omega) (by omega) ?_
      exact J _ _ _ (ok9.up (by omega))
    · exact absurd z q5cR

set_option maxHeartbeats 4000000 in
set_option maxRecDepth 100000 in
theorem law_case_4 (d : tw_D) (x m o j c n : Nat) (Q : tw_O → tw_H → Prop) (hL : d.2 97 ≤ 2560) (hj : 5 * j + 5 ≤ d.2 97) (J : tw_J d x m o j Q c n) (g : tw_G) (τ : tw_K) (h : tw_H) (ok : tw_ok5 d x m o (100000 * j) g τ h) : tw_W d mL_law_ Q 376 (tw_lv5 d x m o j) [] h (c + 900) (n + 5000) := by
  show tw_W d mL_law_ Q 376 [(0, .ref (d.2 98)), (1, .ref x), (2, .ref m), (3, .ref o), (4, .int (nI (5 * j)))] [] h (c + 900) (n + 5000)
  have sp1 := tw_sp.rf ok.1
  refine tw_aload_n 1 dL_law__376 rfl rfl ?_
  refine tw_aload_n 0 dL_law__377 rfl rfl ?_
  refine tw_iload 4 dL_law__378 rfl ?_
  refine tw_iconst (v := 1) dL_law__380 (by decide) ?_
  refine tw_iadd dL_law__381 ?_
  refine tw_nmi (fun v2 ev2 => ?_)
  have q3 : v2 = nI (5 * j + 1) := by rw [ev2]; exact tw_s1 _
  rw [q3]
  obtain ⟨y4, ey4⟩ : ∃ y : Int32, Int32.ofNat (d.2 (1000 + (nI (5 * j + 1)).toNatClampNeg)) = y := ⟨_, rfl⟩
  refine tw_ti (v := .int y4) (fun _ _ z => z.xs.2.2.2.2.2) dL_law__382 (vp_in_nI (by omega) (by omega)) (congrArg Value.int ey4) ?_
  refine tw_aload_n 0 dL_law__383 rfl rfl ?_
  refine tw_iload 4 dL_law__384 rfl ?_
  refine tw_iconst (v := 2) dL_law__386 (by decide) ?_
  refine tw_iadd dL_law__387 ?_
  refine tw_nmi (fun v5 ev5 => ?_)
  have q6 : v5 = nI (5 * j + 2) := by rw [ev5]; exact tw_s2 _
  rw [q6]
  obtain ⟨y7, ey7⟩ : ∃ y : Int32, Int32.ofNat (d.2 (1000 + (nI (5 * j + 2)).toNatClampNeg)) = y := ⟨_, rfl⟩
  refine tw_ti (v := .int y7) (fun _ _ z => z.xs.2.2.2.2.2) dL_law__388 (vp_in_nI (by omega) (by omega)) (congrArg Value.int ey7) ?_
  refine tw_aload_n 0 dL_law__389 rfl rfl ?_
  refine tw_iload 4 dL_law__390 rfl ?_
  refine tw_iconst (v := 3) dL_law__392 (by decide) ?_
  refine tw_iadd dL_law__393 ?_
  refine tw_nmi (fun v8 ev8 => ?_)
  have q9 : v8 = nI (5 * j + 3) := by rw [ev8]; exact tw_s3 _
  rw [q9]
  obtain ⟨y10, ey10⟩ : ∃ y : Int32, Int32.ofNat (d.2 (1000 + (nI (5 * j + 3)).toNatClampNeg)) = y := ⟨_, rfl⟩
  refine tw_ti (v := .int y10) (fun _ _ z => z.xs.2.2.2.2.2) dL_law__394 (vp_in_nI (by omega) (by omega)) (congrArg Value.int ey10) ?_
  refine tw_aload_n 0 dL_law__395 rfl rfl ?_
  refine tw_iload 4 dL_law__396 rfl ?_
  refine tw_iconst (v := 4) dL_law__398 (by decide) ?_
  refine tw_iadd dL_law__399 ?_
  refine tw_nmi (fun v11 ev11 => ?_)
  have q12 : v11 = nI (5 * j + 4) := by rw [ev11]; exact tw_s4 _
  rw [q12]
  obtain ⟨y13, ey13⟩ : ∃ y : Int32, Int32.ofNat (d.2 (1000 + (nI (5 * j + 4)).toNatClampNeg)) = y := ⟨_, rfl⟩
  refine tw_ti (v := .int y13) (fun _ _ z => z.xs.2.2.2.2.2) dL_law__400 (vp_in_nI (by omega) (by omega)) (congrArg Value.int ey13) ?_
  refine tw_aload_n 3 dL_law__401 rfl rfl ?_
  refine tw_bi (tw_callSH (M := mL_law_) (pc := 402) okL_road dL_law__402 w_592 [.ref x, .int y4, .int y7, .int y10, .int y13, .ref o] [] rfl rfl ⟨by decide, by decide⟩ (Nat.le_of_ble_eq_true rfl) (c_L_road d g τ h sp1.1 x ok.2.2.1 y4 y7 y10 y13 o ok.2.2.2.2.1) ((c + 900) - 20) ((n + 5000) - 120) (by omega) (by omega)) (fun r16 h15 q14 => ?_) (fun E h1 q => q.elim)
  rcases q14 with ⟨q14e, q14cI, q14cR, q14n, τc, q14s⟩ | ⟨q14e, q14cI, τc, q14s⟩ | ⟨q14e, q14cI, q14cR, τc, q14s⟩
  · rw [q14e]
    have h49 := (tw_b678 ok.1 ok.2.2.1).1
    obtain ⟨gL, egL⟩ : ∃ z : tw_G, z = (tw_g1 (tw_g1 (tw_g1 (tw_g1 g (160 + 64 * tw_DN y4 + 8 + tw_DN y7) y10) (160 + 64 * tw_DN y4 + 16 + tw_DN y7) y13) (160 + 64 * tw_DN y7 + 8 + tw_DN y4) y10) (160 + 64 * tw_DN y7 + 16 + tw_DN y4) y13) := ⟨_, rfl⟩
    rw [← egL] at q14s
    have gl3 : gL.2 3 = g.2 3 := by rw [egL]; rfl
    have gl4 : gL.2 4 = g.2 4 := by rw [egL]; rfl
    have gl5 : gL.2 5 = g.2 5 := by rw [egL]; rfl
    have gl9 : gL.2 9 = g.2 9 := by rw [egL]; rfl
    have gl22 : gL.2 22 = g.2 22 := by rw [egL]; rfl
    have kx1 := q14s.2.1.k ok.2.2.1 (by decide)
    have km1 := q14s.2.1.k ok.2.2.2.1 (by decide)
    have ko1 := q14s.2.1.k ok.2.2.2.2.1 (by decide)
    refine tw_istore [(5, .int 0), (0, .ref (d.2 98)), (1, .ref x), (2, .ref m), (3, .ref o), (4, .int (nI (5 * j)))] dL_law__405 (by decide) rfl ?_
    refine tw_aload_n 3 dL_law__407 rfl rfl ?_
    refine tw_aload_n 1 dL_law__408 rfl rfl ?_
    refine tw_iload 5 dL_law__409 rfl ?_
    refine tw_iconst (v := 1) dL_law__411 (by decide) ?_
    refine tw_iadd dL_law__412 ?_
    refine tw_nmi (fun v17 ev17 => ?_)
    have q18 : v17 = nI (5 * j + 1) := by rw [ev17]; exact tw_s1 _
    rw [q18]
    refine tw_ti (v := .int y4) (fun _ _ z => z.xs.2.2.2.2.2) dL_law__413 (vp_in_nI (by omega) (by omega)) (congrArg Value.int ey4) ?_
    refine tw_aload_n 1 dL_law__414 rfl rfl ?_
    refine tw_iload 5 dL_law__415 rfl ?_
    refine tw_iconst (v := 2) dL_law__417 (by decide) ?_
    refine tw_iadd dL_law__418 ?_
    refine tw_nmi (fun v19 ev19 => ?_)
    have q20 : v19 = nI (5 * j + 2) := by rw [ev19]; exact tw_s2 _
    rw [q20]
    refine tw_ti (v := .int y7) (fun _ _ z => z.xs.2.2.2.2.2) dL_law__419 (vp_in_nI (by omega) (by omega)) (congrArg Value.int ey7) ?_
    refine tw_aload_n 1 dL_law__420 rfl rfl ?_
    refine tw_iload 5 dL_law__421 rfl ?_
    refine tw_iconst (v := 3) dL_law__423 (by decide) ?_
    refine tw_iadd dL_law__424 ?_
    refine tw_nmi (fun v21 ev21 => ?_)
    have q22 : v21 = nI (5 * j + 3) := by rw [ev21]; exact tw_s3 _
    rw [q22]
    refine tw_ti (v := .int y10) (fun _ _ z => z.xs.2.2.2.2.2) dL_law__425 (vp_in_nI (by omega) (by omega)) (congrArg Value.int ey10) ?_
    refine tw_aload_n 1 dL_law__426 rfl rfl ?_
    refine tw_iload 5 dL_law__427 rfl ?_
    refine tw_iconst (v := 4) dL_law__429 (by decide) ?_
    refine tw_iadd dL_law__430 ?_
    refine tw_nmi (fun v23 ev23 => ?_)
    have q24 : v23 = nI (5 * j + 4) := by rw [ev23]; exact tw_s4 _
    rw [q24]
    refine tw_ti (v := .int y13) (fun _ _ z => z.xs.2.2.2.2.2) dL_law__431 (vp_in_nI (by omega) (by omega)) (congrArg Value.int ey13) ?_
    obtain ⟨e25, f26, th_27, td_28, ds_29, fr_30, ca_31, us_32, wo_33, cm_34, lc_35, lh_36, ld_37, rfl, k38, k39, k40, k41, k42, k43, k44, k45, k46, k47, k48, k49, k50, k51, k52, k53, k54, k55, k56, k57, k58, k59⟩ := (tw_sp.rf q14s.1).1 m 36 km1 (by decide)
    refine tw_bi (tw_callV (M := mL_law_) (pc := 432) okX10_road dL_law__432 w_1315 rfl f26 [.int y4, .int y7, .int y10, .int y13] [] rfl rfl ⟨by decide, by decide⟩ (Nat.le_of_ble_eq_true rfl) (c2_X10_road d gL τc h15 (tw_sp.rf q14s.1).1 m km1 y4 y7 y10 y13 o ko1) ((c + 900) - 20) ((n + 5000) - 120) (by omega) (by omega)) (fun r62 h61 q60 => ?_) (fun E h1 q => q.elim)
    obtain ⟨g9, τ9, s9, oq9, q60a⟩ := q60
    have kx2 := s9.2.1.k kx1 (by decide)
    have km2 := s9.2.1.k km1 (by decide)
    have ko2 := s9.2.1.k ko1 (by decide)
    have q14cI3 : (tw_ix (gL.2 3) y4 ∧ tw_ix (gL.2 3) y7) := by rw [gl3, ← ok.2.1.2.2.2.1.trans ok.2.1.1]; exact q14cI
    rcases q60a with ⟨z, -⟩ | ⟨-, z, -⟩ | ⟨-, -, hr2, ht, gk9⟩
    · exact absurd q14cI3 z
    · exact absurd q14cR z
    · rw [hr2]
      have ok9 : tw_ok5 d x m o (100000 * j) g9 τ9 h61 := ⟨s9.1, (by rw [gk9, egL]; exact ok.2.1.road q14cI q14cR h49), kx2, km2, ko2, (ok.2.2.2.2.2.cg (fun i hi => by rw [gk9]; (repeat (first | rw [tw_g1_ne (by omega)] | rw [tw_ad_ne (by omega)] | rw [tw_gT_1 (by omega)])); rw [egL]; (repeat (first | rw [tw_g1_ne (by omega)] | rw [tw_ad_ne (by omega)] | rw [tw_gT_1 (by omega)]))))⟩
      have hlg : tw_lg (h61 o) = (g.1 (160 + 64 * tw_DN y4 + 8 + tw_DN y7)).toInt64 := by rw [oq9]; exact q14n
      have sp63 := tw_sp.rf ok9.1
      refine tw_istore [(6, .int (gL.1 (416 + 8 * tw_DN y4 + tw_DN y7))), (5, .int 0), (0, .ref (d.2 98)), (1, .ref x), (2, .ref m), (3, .ref o), (4, .int (nI (5 * j)))] dL_law__435 (by decide) rfl ?_
      refine tw_goto 1362 dL_law__437 (by decide) ?_
      refine tw_lv [2, 3, 4, 5, 6] rfl ?_
      refine tw_less (c2 := c) (n2 := n) (by omega) (by omega) ?_
      exact J _ _ _ (ok9.up (by omega))
  · rw [q14e]
    have h49 := (tw_b678 ok.1 ok.2.2.1).1
    have kx1 := q14s.2.1.k ok.2.2.1 (by decide)
    have km1 := q14s.2.1.k ok.2.2.2.1 (by decide)
    have ko1 := q14s.2.1.k ok.2.2.2.2.1 (by decide)
    refine tw_istore [(5, .int 1), (0, .ref (d.2 98)), (1, .ref x), (2, .ref m), (3, .ref o), (4, .int (nI (5 * j)))] dL_law__405 (by decide) rfl ?_
    refine tw_aload_n 3 dL_law__407 rfl rfl ?_
    refine tw_aload_n 1 dL_law__408 rfl rfl ?_
    refine tw_iload 5 dL_law__409 rfl ?_
    refine tw_iconst (v := 1) dL_law__411 (by decide) ?_
    refine tw_iadd dL_law__412 ?_
    refine tw_nmi (fun v64 ev64 => ?_)
    have q65 : v64 = nI (5 * j + 1) := by rw [ev64]; exact tw_s1 _
    rw [q65]
    refine tw_ti (v := .int y4) (fun _ _ z => z.xs.2.2.2.2.2) dL_law__413 (vp_in_nI (by omega) (by omega)) (congrArg Value.int ey4) ?_
    refine tw_aload_n 1 dL_law__414 rfl rfl ?_
    refine tw_iload 5 dL_law__415 rfl ?_
    refine tw_iconst (v := 2) dL_law__417 (by decide) ?_
    refine tw_iadd dL_law__418 ?_
    refine tw_nmi (fun v66 ev66 => ?_)
    have q67 : v66 = nI (5 * j + 2) := by rw [ev66]; exact tw_s2 _
    rw [q67]
    refine tw_ti (v := .int y7) (fun _ _ z => z.xs.2.2.2.2.2) dL_law__419 (vp_in_nI (by omega) (by omega)) (congrArg Value.int ey7) ?_
    refine tw_aload_n 1 dL_law__420 rfl rfl ?_
    refine tw_iload 5 dL_law__421 rfl ?_
    refine tw_iconst (v := 3) dL_law__423 (by decide) ?_
    refine tw_iadd dL_law__424 ?_
    refine tw_nmi (fun v68 ev68 => ?_)
    have q69 : v68 = nI (5 * j + 3) := by rw [ev68]; exact tw_s3 _
    rw [q69]
    refine tw_ti (v := .int y10) (fun _ _ z => z.xs.2.2.2.2.2) dL_law__425 (vp_in_nI (by omega) (by omega)) (congrArg Value.int ey10) ?_
    refine tw_aload_n 1 dL_law__426 rfl rfl ?_
    refine tw_iload 5 dL_law__427 rfl ?_
    refine tw_iconst (v := 4) dL_law__429 (by decide) ?_
    refine tw_iadd dL_law__430 ?_
    refine tw_nmi (fun v70 ev70 => ?_)
    have q71 : v70 = nI (5 * j + 4) := by rw [ev70]; exact tw_s4 _
    rw [q71]
    refine tw_ti (v := .int y13) (fun _ _ z => z.xs.2.2.2.2.2) dL_law__431 (vp_in_nI (by omega) (by omega)) (congrArg Value.int ey13) ?_
    obtain ⟨e72, f73, th_74, td_75, ds_76, fr_77, ca_78, us_79, wo_80, cm_81, lc_82, lh_83, ld_84, rfl, k85, k86, k87, k88, k89, k90, k91, k92, k93, k94, k95, k96, k97, k98, k99, k100, k101, k102, k103, k104, k105, k106⟩ := (tw_sp.rf q14s.1).1 m 36 km1 (by decide)
    refine tw_bi (tw_callV (M := mL_law_) (pc := 432) okX10_road dL_law__432 w_1315 rfl f73 [.int y4, .int y7, .int y10, .int y13] [] rfl rfl ⟨by decide, by decide⟩ (Nat.le_of_ble_eq_true rfl) (c2_X10_road d g τc h15 (tw_sp.rf q14s.1).1 m km1 y4 y7 y10 y13 o ko1) ((c + 900) - 20) ((n + 5000) - 120) (by omega) (by omega)) (fun r109 h108 q107 => ?_) (fun E h1 q => q.elim)
    obtain ⟨g9, τ9, s9, oq9, q107a⟩ := q107
    have kx2 := s9.2.1.k kx1 (by decide)
    have km2 := s9.2.1.k km1 (by decide)
    have ko2 := s9.2.1.k ko1 (by decide)
    have q14cI3 : ¬ (tw_ix (g.2 3) y4 ∧ tw_ix (g.2 3) y7) := by rw [← ok.2.1.2.2.2.1.trans ok.2.1.1]; exact q14cI
    rcases q107a with ⟨-, ht, eg9⟩ | ⟨z, -⟩ | ⟨z, -⟩
    · rw [eg9] at s9
      have ok9 : tw_ok5 d x m o (100000 * j) g τ9 h108 := ⟨s9.1, ok.2.1, kx2, km2, ko2, ok.2.2.2.2.2⟩
      have sp110 := tw_sp.rf ok9.1
      refine tw_istore [(6, .int r109), (5, .int 1), (0, .ref (d.2 98)), (1, .ref x), (2, .ref m), (3, .ref o), (4, .int (nI (5 * j)))] dL_law__435 (by decide) rfl ?_
      refine tw_goto 1362 dL_law__437 (by decide) ?_
      refine tw_lv [2, 3, 4, 5, 6] rfl ?_
      refine tw_less (c2 := c) (n2 := n) (by omega) (by omega) ?_
      exact J _ _ _ (ok9.up (by omega))
    · exact absurd z q14cI3
    · exact absurd z q14cI3
  · rw [q14e]
    have h49 := (tw_b678 ok.1 ok.2.2.1).1
    have kx1 := q14s.2.1.k ok.2.2.1 (by decide)
    have km1 := q14s.2.1.k ok.2.2.2.1 (by decide)
    have ko1 := q14s.2.1.k ok.2.2.2.2.1 (by decide)
    refine tw_istore [(5, .int 2), (0, .ref (d.2 98)), (1, .ref x), (2, .ref m), (3, .ref o), (4, .int (nI (5 * j)))] dL_law__405 (by decide) rfl ?_
    refine tw_aload_n 3 dL_law__407 rfl rfl ?_
    refine tw_aload_n 1 dL_law__408 rfl rfl ?_
    refine tw_iload 5 dL_law__409 rfl ?_
    refine tw_iconst (v := 1) dL_law__411 (by decide) ?_
    refine tw_iadd dL_law__412 ?_
    refine tw_nmi (fun v111 ev111 => ?_)
    have q112 : v111 = nI (5 * j + 1) := by rw [ev111]; exact tw_s1 _
    rw [q112]
    refine tw_ti (v := .int y4) (fun _ _ z => z.xs.2.2.2.2.2) dL_law__413 (vp_in_nI (by omega) (by omega)) (congrArg Value.int ey4) ?_
    refine tw_aload_n 1 dL_law__414 rfl rfl ?_
    refine tw_iload 5 dL_law__415 rfl ?_
    refine tw_iconst (v := 2) dL_law__417 (by decide) ?_
    refine tw_iadd dL_law__418 ?_
    refine tw_nmi (fun v113 ev113 => ?_)
    have q114 : v113 = nI (5 * j + 2) := by rw [ev113]; exact tw_s2 _
    rw [q114]
    refine tw_ti (v := .int y7) (fun _ _ z => z.xs.2.2.2.2.2) dL_law__419 (vp_in_nI (by omega) (by omega)) (congrArg Value.int ey7) ?_
    refine tw_aload_n 1 dL_law__420 rfl rfl ?_
    refine tw_iload 5 dL_law__421 rfl ?_
    refine tw_iconst (v := 3) dL_law__423 (by decide) ?_
    refine tw_iadd dL_law__424 ?_
    refine tw_nmi (fun v115 ev115 => ?_)
    have q116 : v115 = nI (5 * j + 3) := by rw [ev115]; exact tw_s3 _
    rw [q116]
    refine tw_ti (v := .int y10) (fun _ _ z => z.xs.2.2.2.2.2) dL_law__425 (vp_in_nI (by omega) (by omega)) (congrArg Value.int ey10) ?_
    refine tw_aload_n 1 dL_law__426 rfl rfl ?_
    refine tw_iload 5 dL_law__427 rfl ?_
    refine tw_iconst (v := 4) dL_law__429 (by decide) ?_
    refine tw_iadd dL_law__430 ?_
    refine tw_nmi (fun v117 ev117 => ?_)
    have q118 : v117 = nI (5 * j + 4) := by rw [ev117]; exact tw_s4 _
    rw [q118]
    refine tw_ti (v := .int y13) (fun _ _ z => z.xs.2.2.2.2.2) dL_law__431 (vp_in_nI (by omega) (by omega)) (congrArg Value.int ey13) ?_
    obtain ⟨e119, f120, th_121, td_122, ds_123, fr_124, ca_125, us_126, wo_127, cm_128, lc_129, lh_130, ld_131, rfl, k132, k133, k134, k135, k136, k137, k138, k139, k140, k141, k142, k143, k144, k145, k146, k147, k148, k149, k150, k151, k152, k153⟩ := (tw_sp.rf q14s.1).1 m 36 km1 (by decide)
    refine tw_bi (tw_callV (M := mL_law_) (pc := 432) okX10_road dL_law__432 w_1315 rfl f120 [.int y4, .int y7, .int y10, .int y13] [] rfl rfl ⟨by decide, by decide⟩ (Nat.le_of_ble_eq_true rfl) (c2_X10_road d g τc h15 (tw_sp.rf q14s.1).1 m km1 y4 y7 y10 y13 o ko1) ((c + 900) - 20) ((n + 5000) - 120) (by omega) (by omega)) (fun r156 h155 q154 => ?_) (fun E h1 q => q.elim)
    obtain ⟨g9, τ9, s9, oq9, q154a⟩ := q154
    have kx2 := s9.2.1.k kx1 (by decide)
    have km2 := s9.2.1.k km1 (by decide)
    have ko2 := s9.2.1.k ko1 (by decide)
    have q14cI3 : (tw_ix (g.2 3) y4 ∧ tw_ix (g.2 3) y7) := by rw [← ok.2.1.2.2.2.1.trans ok.2.1.1]; exact q14cI
    rcases q154a with ⟨z, -⟩ | ⟨-, -, ht, eg9⟩ | ⟨-, z, -⟩
    · exact absurd q14cI3 z
    · rw [eg9] at s9
      have ok9 : tw_ok5 d x m o (100000 * j) g τ9 h155 := ⟨s9.1, ok.2.1, kx2, km2, ko2, ok.2.2.2.2.2⟩
      have sp157 := tw_sp.rf ok9.1
      refine tw_istore [(6, .int r156), (5, .int 2), (0, .ref (d.2 98)), (1, .ref x), (2, .ref m), (3, .ref o), (4, .int (nI (5 * j)))] dL_law__435 (by decide) rfl ?_
      refine tw_goto 1362 dL_law__437 (by decide) ?_
      refine tw_lv [2, 3, 4, 5, 6] rfl ?_
      refine tw_less (c2 := c) (n2 := n) (by omega) (by omega) ?_
      exact J _ _ _ (ok9.up (by omega))
    · exact absurd z q14cR

set_option maxHeartbeats 4000000 in
set_option maxRecDepth 100000 in
theorem law_case_5 (d : tw_D) (x m o j c n : Nat) (Q : tw_O → tw_H → Prop) (hL : d.2 97 ≤ 2560) (hj : 5 * j + 5 ≤ d.2 97) (J : tw_J d x m o j Q c n) (g : tw_G) (τ : tw_K) (h : tw_H) (ok : tw_ok5 d x m o (100000 * j) g τ h) : tw_W d mL_law_ Q 440 (tw_lv5 d x m o j) [] h (c + 900) (n + 5000) := by
  show tw_W d mL_law_ Q 440 [(0, .ref (d.2 98)), (1, .ref x), (2, .ref m), (3, .ref o), (4, .int (nI (5 * j)))] [] h (c + 900) (n + 5000)
  have sp1 := tw_sp.rf ok.1
  refine tw_aload_n 1 dL_law__440 rfl rfl ?_
  refine tw_aload_n 0 dL_law__441 rfl rfl ?_
  refine tw_iload 4 dL_law__442 rfl ?_
  refine tw_iconst (v := 1) dL_law__444 (by decide) ?_
  refine tw_iadd dL_law__445 ?_
  refine tw_nmi (fun v2 ev2 => ?_)
  have q3 : v2 = nI (5 * j + 1) := by rw [ev2]; exact tw_s1 _
  rw [q3]
  obtain ⟨y4, ey4⟩ : ∃ y : Int32, Int32.ofNat (d.2 (1000 + (nI (5 * j + 1)).toNatClampNeg)) = y := ⟨_, rfl⟩
  refine tw_ti (v := .int y4) (fun _ _ z => z.xs.2.2.2.2.2) dL_law__446 (vp_in_nI (by omega) (by omega)) (congrArg Value.int ey4) ?_
  refine tw_aload_n 0 dL_law__447 rfl rfl ?_
  refine tw_iload 4 dL_law__448 rfl ?_
  refine tw_iconst (v := 2) dL_law__450 (by decide) ?_
  refine tw_iadd dL_law__451 ?_
  refine tw_nmi (fun v5 ev5 => ?_)
  have q6 : v5 = nI (5 * j + 2) := by rw [ev5]; exact tw_s2 _
  rw [q6]
  obtain ⟨y7, ey7⟩ : ∃ y : Int32, Int32.ofNat (d.2 (1000 + (nI (5 * j + 2)).toNatClampNeg)) = y := ⟨_, rfl⟩
  refine tw_ti (v := .int y7) (fun _ _ z => z.xs.2.2.2.2.2) dL_law__452 (vp_in_nI (by omega) (by omega)) (congrArg Value.int ey7) ?_
  refine tw_aload_n 0 dL_law__453 rfl rfl ?_
  refine tw_iload 4 dL_law__454 rfl ?_
  refine tw_iconst (v := 3) dL_law__456 (by decide) ?_
  refine tw_iadd dL_law__457 ?_
  refine tw_nmi (fun v8 ev8 => ?_)
  have q9 : v8 = nI (5 * j + 3) := by rw [ev8]; exact tw_s3 _
  rw [q9]
  obtain ⟨y10, ey10⟩ : ∃ y : Int32, Int32.ofNat (d.2 (1000 + (nI (5 * j + 3)).toNatClampNeg)) = y := ⟨_, rfl⟩
  refine tw_ti (v := .int y10) (fun _ _ z => z.xs.2.2.2.2.2) dL_law__458 (vp_in_nI (by omega) (by omega)) (congrArg Value.int ey10) ?_
  refine tw_aload_n 3 dL_law__459 rfl rfl ?_
  refine tw_bi (tw_callSH (M := mL_law_) (pc := 460) okL_mine dL_law__460 w_607 [.ref x, .int y4, .int y7, .int y10, .ref o] [] rfl rfl ⟨by decide, by decide⟩ (Nat.le_of_ble_eq_true rfl) (c_L_mine d g τ h sp1.1 x ok.2.2.1 y4 y7 y10 o ok.2.2.2.2.1) ((c + 900) - 20) ((n + 5000) - 120) (by omega) (by omega)) (fun r13 h12 q11 => ?_) (fun E h1 q => q.elim)
  rcases q11 with ⟨q11e, q11cI, q11cR, q11cL, q11n, τc, q11s⟩ | ⟨q11e, q11cI, τc, q11s⟩ | ⟨q11e, q11cI, q11cR, τc, q11s⟩ | ⟨q11e, q11cI, q11cR, q11cL, τc, q11s⟩
  · rw [q11e]
    have h49 := (tw_b678 ok.1 ok.2.2.1).1
    obtain ⟨gL, egL⟩ : ∃ z : tw_G, z = (tw_ad (tw_ad g (160 + 64 * tw_DN y4 + 24 + tw_DN y7) y10) (1336 + tw_DN y7) y10) := ⟨_, rfl⟩
    rw [← egL] at q11s
    have gl3 : gL.2 3 = g.2 3 := by rw [egL]; rfl
    have gl4 : gL.2 4 = g.2 4 := by rw [egL]; rfl
    have gl5 : gL.2 5 = g.2 5 := by rw [egL]; rfl
    have gl9 : gL.2 9 = g.2 9 := by rw [egL]; rfl
    have gl22 : gL.2 22 = g.2 22 := by rw [egL]; rfl
    have sc5 : tw_sc g gL := tw_S_vs ok.2.1 q11cI q11cR.1 (Or.inr rfl) egL
    have kx1 := q11s.2.1.k ok.2.2.1 (by decide)
    have km1 := q11s.2.1.k ok.2.2.2.1 (by decide)
    have ko1 := q11s.2.1.k ok.2.2.2.2.1 (by decide)
    refine tw_istore [(5, .int 0), (0, .ref (d.2 98)), (1, .ref x), (2, .ref m), (3, .ref o), (4, .int (nI (5 * j)))] dL_law__463 (by decide) rfl ?_
    refine tw_aload_n 3 dL_law__465 rfl rfl ?_
    refine tw_aload_n 1 dL_law__466 rfl rfl ?_
    refine tw_iload 5 dL_law__467 rfl ?_
    refine tw_iconst (v := 1) dL_law__469 (by decide) ?_
    refine tw_iadd dL_law__470 ?_
    refine tw_nmi (fun v14 ev14 => ?_)
    have q15 : v14 = nI (5 * j + 1) := by rw [ev14]; exact tw_s1 _
    rw [q15]
    refine tw_ti (v := .int y4) (fun _ _ z => z.xs.2.2.2.2.2) dL_law__471 (vp_in_nI (by omega) (by omega)) (congrArg Value.int ey4) ?_
    refine tw_aload_n 1 dL_law__472 rfl rfl ?_
    refine tw_iload 5 dL_law__473 rfl ?_
    refine tw_iconst (v := 2) dL_law__475 (by decide) ?_
    refine tw_iadd dL_law__476 ?_
    refine tw_nmi (fun v16 ev16 => ?_)
    have q17 : v16 = nI (5 * j + 2) := by rw [ev16]; exact tw_s2 _
    rw [q17]
    refine tw_ti (v := .int y7) (fun _ _ z => z.xs.2.2.2.2.2) dL_law__477 (vp_in_nI (by omega) (by omega)) (congrArg Value.int ey7) ?_
    refine tw_aload_n 1 dL_law__478 rfl rfl ?_
    refine tw_iload 5 dL_law__479 rfl ?_
    refine tw_iconst (v := 3) dL_law__481 (by decide) ?_
    refine tw_iadd dL_law__482 ?_
    refine tw_nmi (fun v18 ev18 => ?_)
    have q19 : v18 = nI (5 * j + 3) := by rw [ev18]; exact tw_s3 _
    rw [q19]
    refine tw_ti (v := .int y10) (fun _ _ z => z.xs.2.2.2.2.2) dL_law__483 (vp_in_nI (by omega) (by omega)) (congrArg Value.int ey10) ?_
    obtain ⟨e20, f21, th_22, td_23, ds_24, fr_25, ca_26, us_27, wo_28, cm_29, lc_30, lh_31, ld_32, rfl, k33, k34, k35, k36, k37, k38, k39, k40, k41, k42, k43, k44, k45, k46, k47, k48, k49, k50, k51, k52, k53, k54⟩ := (tw_sp.rf q11s.1).1 m 36 km1 (by decide)
    refine tw_bi (tw_callV (M := mL_law_) (pc := 484) okX10_mine dL_law__484 w_1319 rfl f21 [.int y4, .int y7, .int y10] [] rfl rfl ⟨by decide, by decide⟩ (Nat.le_of_ble_eq_true rfl) (c2_X10_mine d gL τc h12 (tw_sp.rf q11s.1).1 m km1 y4 y7 y10 o ko1 ((ok.2.1.am5 (by omega)).sc sc5)) ((c + 900) - 20) ((n + 5000) - 120) (by omega) (by omega)) (fun r57 h56 q55 => ?_) (fun E h1 q => q.elim)
    obtain ⟨g9, τ9, s9, oq9, q55a⟩ := q55
    have kx2 := s9.2.1.k kx1 (by decide)
    have km2 := s9.2.1.k km1 (by decide)
    have ko2 := s9.2.1.k ko1 (by decide)
    have q11cI3 : tw_ix (gL.2 3) y4 := by rw [gl3, ← ok.2.1.c6]; exact q11cI
    have q11cL3 : (tw_DN (gL.1 (480 + 64 * tw_DN y4 + 16 + tw_DN y7)) + tw_DN y10 ≤ 999999) := (tw_Q_mine ok.2.1 sc5 (by omega) q11cI q11cR).mp q11cL
    rcases q55a with ⟨z, -⟩ | ⟨-, z, -⟩ | ⟨-, -, z, -⟩ | ⟨-, -, -, hr2, ht, gk9⟩
    · exact absurd q11cI3 z
    · exact absurd q11cR z
    · exact absurd q11cL3 z
    · rw [hr2]
      have ok9 : tw_ok5 d x m o (100000 * (j + 1)) g9 τ9 h56 := ⟨s9.1, (ok.2.1.mine (by omega) (by omega) q11cI q11cR egL gk9), kx2, km2, ko2, (ok.2.2.2.2.2.cg (fun i hi => by rw [gk9]; (repeat (first | rw [tw_g1_ne (by omega)] | rw [tw_ad_ne (by omega)] | rw [tw_gT_1 (by omega)])); rw [egL]; (repeat (first | rw [tw_g1_ne (by omega)] | rw [tw_ad_ne (by omega)] | rw [tw_gT_1 (by omega)]))))⟩
      have hlg : tw_lg (h56 o) = (g.1 (160 + 64 * tw_DN y4 + 24 + tw_DN y7) + y10).toInt64 := by rw [oq9]; exact q11n
      have sp58 := tw_sp.rf ok9.1
      refine tw_istore [(6, .int (gL.1 (480 + 64 * tw_DN y4 + 16 + tw_DN y7) + y10)), (5, .int 0), (0, .ref (d.2 98)), (1, .ref x), (2, .ref m), (3, .ref o), (4, .int (nI (5 * j)))] dL_law__487 (by decide) rfl ?_
      refine tw_goto 1362 dL_law__489 (by decide) ?_
      refine tw_lv [2, 3, 4, 5, 6] rfl ?_
      refine tw_less (c2 := c) (n2 := n) (by omega) (by omega) ?_
      exact J _ _ _ (ok9.up (by omega))
  · rw [q11e]
    have h49 := (tw_b678 ok.1 ok.2.2.1).1
    have kx1 := q11s.2.1.k ok.2.2.1 (by decide)
    have km1 := q11s.2.1.k ok.2.2.2.1 (by decide)
    have ko1 := q11s.2.1.k ok.2.2.2.2.1 (by decide)
    refine tw_istore [(5, .int 1), (0, .ref (d.2 98)), (1, .ref x), (2, .ref m), (3, .ref o), (4, .int (nI (5 * j)))] dL_law__463 (by decide) rfl ?_
    refine tw_aload_n 3 dL_law__465 rfl rfl ?_
    refine tw_aload_n 1 dL_law__466 rfl rfl ?_
    refine tw_iload 5 dL_law__467 rfl ?_
    refine tw_iconst (v := 1) dL_law__469 (by decide) ?_
    refine tw_iadd dL_law__470 ?_
    refine tw_nmi (fun v59 ev59 => ?_)
    have q60 : v59 = nI (5 * j + 1) := by rw [ev59]; exact tw_s1 _
    rw [q60]
    refine tw_ti (v := .int y4) (fun _ _ z => z.xs.2.2.2.2.2) dL_law__471 (vp_in_nI (by omega) (by omega)) (congrArg Value.int ey4) ?_
    refine tw_aload_n 1 dL_law__472 rfl rfl ?_
    refine tw_iload 5 dL_law__473 rfl ?_
    refine tw_iconst (v := 2) dL_law__475 (by decide) ?_
    refine tw_iadd dL_law__476 ?_
    refine tw_nmi (fun v61 ev61 => ?_)
    have q62 : v61 = nI (5 * j + 2) := by rw [ev61]; exact tw_s2 _
    rw [q62]
    refine tw_ti (v := .int y7) (fun _ _ z => z.xs.2.2.2.2.2) dL_law__477 (vp_in_nI (by omega) (by omega)) (congrArg Value.int ey7) ?_
    refine tw_aload_n 1 dL_law__478 rfl rfl ?_
    refine tw_iload 5 dL_law__479 rfl ?_
    refine tw_iconst (v := 3) dL_law__481 (by decide) ?_
    refine tw_iadd dL_law__482 ?_
    refine tw_nmi (fun v63 ev63 => ?_)
    have q64 : v63 = nI (5 * j + 3) := by rw [ev63]; exact tw_s3 _
    rw [q64]
    refine tw_ti (v := .int y10) (fun _ _ z => z.xs.2.2.2.2.2) dL_law__483 (vp_in_nI (by omega) (by omega)) (congrArg Value.int ey10) ?_
    obtain ⟨e65, f66, th_67, td_68, ds_69, fr_70, ca_71, us_72, wo_73, cm_74, lc_75, lh_76, ld_77, rfl, k78, k79, k80, k81, k82, k83, k84, k85, k86, k87, k88, k89, k90, k91, k92, k93, k94, k95, k96, k97, k98, k99⟩ := (tw_sp.rf q11s.1).1 m 36 km1 (by decide)
    refine tw_bi (tw_callV (M := mL_law_) (pc := 484) okX10_mine dL_law__484 w_1319 rfl f66 [.int y4, .int y7, .int y10] [] rfl rfl ⟨by decide, by decide⟩ (Nat.le_of_ble_eq_true rfl) (c2_X10_mine d g τc h12 (tw_sp.rf q11s.1).1 m km1 y4 y7 y10 o ko1 (ok.2.1.am5 (by omega))) ((c + 900) - 20) ((n + 5000) - 120) (by omega) (by omega)) (fun r102 h101 q100 => ?_) (fun E h1 q => q.elim)
    obtain ⟨g9, τ9, s9, oq9, q100a⟩ := q100
    have kx2 := s9.2.1.k kx1 (by decide)
    have km2 := s9.2.1.k km1 (by decide)
    have ko2 := s9.2.1.k ko1 (by decide)
    have q11cI3 : ¬ tw_ix (g.2 3) y4 := by rw [← ok.2.1.c6]; exact q11cI
    rcases q100a with ⟨-, ht, eg9⟩ | ⟨z, -⟩ | ⟨z, -⟩ | ⟨z, -⟩
    · rw [eg9] at s9
      have ok9 : tw_ok5 d x m o (100000 * j) g τ9 h101 := ⟨s9.1, ok.2.1, kx2, km2, ko2, ok.2.2.2.2.2⟩
      have sp103 := tw_sp.rf ok9.1
      refine tw_istore [(6, .int r102), (5, .int 1), (0, .ref (d.2 98)), (1, .ref x), (2, .ref m), (3, .ref o), (4, .int (nI (5 * j)))] dL_law__487 (by decide) rfl ?_
      refine tw_goto 1362 dL_law__489 (by decide) ?_
      refine tw_lv [2, 3, 4, 5, 6] rfl ?_
      refine tw_less (c2 := c) (n2 := n) (by omega) (by omega) ?_
      exact J _ _ _ (ok9.up (by omega))
    · exact absurd z q11cI3
    · exact absurd z q11cI3
    · exact absurd z q11cI3
  · rw [q11e]
    have h49 := (tw_b678 ok.1 ok.2.2.1).1
    have kx1 := q11s.2.1.k ok.2.2.1 (by decide)
    have km1 := q11s.2.1.k ok.2.2.2.1 (by decide)
    have ko1 := q11s.2.1.k ok.2.2.2.2.1 (by decide)
    refine tw_istore [(5, .int 2), (0, .ref (d.2 98)), (1, .ref x), (2, .ref m), (3, .ref o), (4, .int (nI (5 * j)))] dL_law__463 (by decide) rfl ?_
    refine tw_aload_n 3 dL_law__465 rfl rfl ?_
    refine tw_aload_n 1 dL_law__466 rfl rfl ?_
    refine tw_iload 5 dL_law__467 rfl ?_
    refine tw_iconst (v := 1) dL_law__469 (by decide) ?_
    refine tw_iadd dL_law__470 ?_
    refine tw_nmi (fun v104 ev104 => ?_)
    have q105 : v104 = nI (5 * j + 1) := by rw [ev104]; exact tw_s1 _
    rw [q105]
    refine tw_ti (v := .int y4) (fun _ _ z => z.xs.2.2.2.2.2) dL_law__471 (vp_in_nI (by omega) (by omega)) (congrArg Value.int ey4) ?_
    refine tw_aload_n 1 dL_law__472 rfl rfl ?_
    refine tw_iload 5 dL_law__473 rfl ?_
    refine tw_iconst (v := 2) dL_law__475 (by decide) ?_
    refine tw_iadd dL_law__476 ?_
    refine tw_nmi (fun v106 ev106 => ?_)
    have q107 : v106 = nI (5 * j + 2) := by rw [ev106]; exact tw_s2 _
    rw [q107]
    refine tw_ti (v := .int y7) (fun _ _ z => z.xs.2.2.2.2.2) dL_law__477 (vp_in_nI (by omega) (by omega)) (congrArg Value.int ey7) ?_
    refine tw_aload_n 1 dL_law__478 rfl rfl ?_
    refine tw_iload 5 dL_law__479 rfl ?_
    refine tw_iconst (v := 3) dL_law__481 (by decide) ?_
    refine tw_iadd dL_law__482 ?_
    refine tw_nmi (fun v108 ev108 => ?_)
    have q109 : v108 = nI (5 * j + 3) := by rw [ev108]; exact tw_s3 _
    rw [q109]
    refine tw_ti (v := .int y10) (fun _ _ z => z.xs.2.2.2.2.2) dL_law__483 (vp_in_nI (by omega) (by omega)) (congrArg Value.int ey10) ?_
    obtain ⟨e110, f111, th_112, td_113, ds_114, fr_115, ca_116, us_117, wo_118, cm_119, lc_120, lh_121, ld_122, rfl, k123, k124, k125, k126, k127, k128, k129, k130, k131, k132, k133, k134, k135, k136, k137, k138, k139, k140, k141, k142, k143, k144⟩ := (tw_sp.rf q11s.1).1 m 36 km1 (by decide)
    refine tw_bi (tw_callV (M := mL_law_) (pc := 484) okX10_mine dL_law__484 w_1319 rfl f111 [.int y4, .int y7, .int y10] [] rfl rfl ⟨by decide, by decide⟩ (Nat.le_of_ble_eq_true rfl) (c2_X10_mine d g τc h12 (tw_sp.rf q11s.1).1 m km1 y4 y7 y10 o ko1 (ok.2.1.am5 (by omega))) ((c + 900) - 20) ((n + 5000) - 120) (by omega) (by omega)) (fun r147 h146 q145 => ?_) (fun E h1 q => q.elim)
    obtain ⟨g9, τ9, s9, oq9, q145a⟩ := q145
    have kx2 := s9.2.1.k kx1 (by decide)
    have km2 := s9.2.1.k km1 (by decide)
    have ko2 := s9.2.1.k ko1 (by decide)
    have q11cI3 : tw_ix (g.2 3) y4 := by rw [← ok.2.1.c6]; exact q11cI
    rcases q145a with ⟨z, -⟩ | ⟨-, -, ht, eg9⟩ | ⟨-, z, -⟩ | ⟨-, z, -⟩
    · exact absurd q11cI3 z
    · rw [eg9] at s9
      have ok9 : tw_ok5 d x m o (100000 * j) g τ9 h146 := ⟨s9.1, ok.2.1, kx2, km2, ko2, ok.2.2.2.2.2⟩
      have sp148 := tw_sp.rf ok9.1
      refine tw_istore [(6, .int r147), (5, .int 2), (0, .ref (d.2 98)), (1, .ref x), (2, .ref m), (3, .ref o), (4, .int (nI (5 * j)))] dL_law__487 (by decide) rfl ?_
      refine tw_goto 1362 dL_law__489 (by decide) ?_
      refine tw_lv [2, 3, 4, 5, 6] rfl ?_
      refine tw_less (c2 := c) (n2 := n) (by omega) (by omega) ?_
      exact J _ _ _ (ok9.up (by omega))
    · exact absurd z q11cR
    · exact absurd z q11cR
  · rw [q11e]
    have h49 := (tw_b678 ok.1 ok.2.2.1).1
    have kx1 := q11s.2.1.k ok.2.2.1 (by decide)
    have km1 := q11s.2.1.k ok.2.2.2.1 (by decide)
    have ko1 := q11s.2.1.k ok.2.2.2.2.1 (by decide)
    refine tw_istore [(5, .int 3), (0, .ref (d.2 98)), (1, .ref x), (2, .ref m), (3, .ref o), (4, .int (nI (5 * j)))] dL_law__463 (by decide) rfl ?_
    refine tw_aload_n 3 dL_law__465 rfl rfl ?_
    refine tw_aload_n 1 dL_law__466 rfl rfl ?_
    refine tw_iload 5 dL_law__467 rfl ?_
    refine tw_iconst (v := 1) dL_law__469 (by decide) ?_
    refine tw_iadd dL_law__470 ?_
    refine tw_nmi (fun v149 ev149 => ?_)
    have q150 : v149 = nI (5 * j + 1) := by rw [ev149]; exact tw_s1 _
    rw [q150]
    refine tw_ti (v := .int y4) (fun _ _ z => z.xs.2.2.2.2.2) dL_law__471 (vp_in_nI (by omega) (by omega)) (congrArg Value.int ey4) ?_
    refine tw_aload_n 1 dL_law__472 rfl rfl ?_
    refine tw_iload 5 dL_law__473 rfl ?_
    refine tw_iconst (v := 2) dL_law__475 (by decide) ?_
    refine tw_iadd dL_law__476 ?_
    refine tw_nmi (fun v151 ev151 => ?_)
    have q152 : v151 = nI (5 * j + 2) := by rw [ev151]; exact tw_s2 _
    rw [q152]
    refine tw_ti (v := .int y7) (fun _ _ z => z.xs.2.2.2.2.2) dL_law__477 (vp_in_nI (by omega) (by omega)) (congrArg Value.int ey7) ?_
    refine tw_aload_n 1 dL_law__478 rfl rfl ?_
    refine tw_iload 5 dL_law__479 rfl ?_
    refine tw_iconst (v := 3) dL_law__481 (by decide) ?_
    refine tw_iadd dL_law__482 ?_
    refine tw_nmi (fun v153 ev153 => ?_)
    have q154 : v153 = nI (5 * j + 3) := by rw [ev153]; exact tw_s3 _
    rw [q154]
    refine tw_ti (v := .int y10) (fun _ _ z => z.xs.2.2.2.2.2) dL_law__483 (vp_in_nI (by omega) (by omega)) (congrArg Value.int ey10) ?_
    obtain ⟨e155, f156, th_157, td_158, ds_159, fr_160, ca_161, us_162, wo_163, cm_164, lc_165, lh_166, ld_167, rfl, k168, k169, k170, k171, k172, k173, k174, k175, k176, k177, k178, k179, k180, k181, k182, k183, k184, k185, k186, k187, k188, k189⟩ := (tw_sp.rf q11s.1).1 m 36 km1 (by decide)
    refine tw_bi (tw_callV (M := mL_law_) (pc := 484) okX10_mine dL_law__484 w_1319 rfl f156 [.int y4, .int y7, .int y10] [] rfl rfl ⟨by decide, by decide⟩ (Nat.le_of_ble_eq_true rfl) (c2_X10_mine d g τc h12 (tw_sp.rf q11s.1).1 m km1 y4 y7 y10 o ko1 (ok.2.1.am5 (by omega))) ((c + 900) - 20) ((n + 5000) - 120) (by omega) (by omega)) (fun r192 h191 q190 => ?_) (fun E h1 q => q.elim)
    obtain ⟨g9, τ9, s9, oq9, q190a⟩ := q190
    have kx2 := s9.2.1.k kx1 (by decide)
    have km2 := s9.2.1.k km1 (by decide)
    have ko2 := s9.2.1.k ko1 (by decide)
    have q11cI3 : tw_ix (g.2 3) y4 := by rw [← ok.2.1.c6]; exact q11cI
    have q11cL3 : ¬ (tw_DN (g.1 (480 + 64 * tw_DN y4 + 16 + tw_DN y7)) + tw_DN y10 ≤ 999999) := fun z => q11cL ((tw_Q_mine ok.2.1 tw_sc.rf (by omega) q11cI q11cR).mpr z)
    rcases q190a with ⟨z, -⟩ | ⟨-, z, -⟩ | ⟨-, -, -, ht, eg9⟩ | ⟨-, -, z, -⟩
    · exact absurd q11cI3 z
    · exact absurd q11cR z
    · rw [eg9] at s9
      have ok9 : tw_ok5 d x m o (100000 * j) g τ9 h191 := ⟨s9.1, ok.2.1, kx2, km2, ko2, ok.2.2.2.2.2⟩
      have sp193 := tw_sp.rf ok9.1
      refine tw_istore [(6, .int r192), (5, .int 3), (0, .ref (d.2 98)), (1, .ref x), (2, .ref m), (3, .ref o), (4, .int (nI (5 * j)))] dL_law__487 (by decide) rfl ?_
      refine tw_goto 1362 dL_law__489 (by decide) ?_
      refine tw_lv [2, 3, 4, 5, 6] rfl ?_
      refine tw_less (c2 := c) (n2 := n) (by omega) (by omega) ?_
      exact J _ _ _ (ok9.up (by omega))
    · exact absurd z q11cL3

set_option maxHeartbeats 4000000 in
set_option maxRecDepth 100000 in
theorem law_case_6 (d : tw_D) (x m o j c n : Nat) (Q : tw_O → tw_H → Prop) (hL : d.2 97 ≤ 2560) (hj : 5 * j + 5 ≤ d.2 97) (J : tw_J d x m o j Q c n) (g : tw_G) (τ : tw_K) (h : tw_H) (ok : tw_ok5 d x m o (100000 * j) g τ h) : tw_W d mL_law_ Q 492 (tw_lv5 d x m o j) [] h (c + 900) (n + 5000) := by
  show tw_W d mL_law_ Q 492 [(0, .ref (d.2 98)), (1, .ref x), (2, .ref m), (3, .ref o), (4, .int (nI (5 * j)))] [] h (c + 900) (n + 5000)
  have sp1 := tw_sp.rf ok.1
  refine tw_aload_n 1 dL_law__492 rfl rfl ?_
  refine tw_aload_n 0 dL_law__493 rfl rfl ?_
  refine tw_iload 4 dL_law__494 rfl ?_
  refine tw_iconst (v := 1) dL_law__496 (by decide) ?_
  refine tw_iadd dL_law__497 ?_
  refine tw_nmi (fun v2 ev2 => ?_)
  have q3 : v2 = nI (5 * j + 1) := by rw [ev2]; exact tw_s1 _
  rw [q3]
  obtain ⟨y4, ey4⟩ : ∃ y : Int32, Int32.ofNat (d.2 (1000 + (nI (5 * j + 1)).toNatClampNeg)) = y := ⟨_, rfl⟩
  refine tw_ti (v := .int y4) (fun _ _ z => z.xs.2.2.2.2.2) dL_law__498 (vp_in_nI (by omega) (by omega)) (congrArg Value.int ey4) ?_
  refine tw_aload_n 0 dL_law__499 rfl rfl ?_
  refine tw_iload 4 dL_law__500 rfl ?_
  refine tw_iconst (v := 2) dL_law__502 (by decide) ?_
  refine tw_iadd dL_law__503 ?_
  refine tw_nmi (fun v5 ev5 => ?_)
  have q6 : v5 = nI (5 * j + 2) := by rw [ev5]; exact tw_s2 _
  rw [q6]
  obtain ⟨y7, ey7⟩ : ∃ y : Int32, Int32.ofNat (d.2 (1000 + (nI (5 * j + 2)).toNatClampNeg)) = y := ⟨_, rfl⟩
  refine tw_ti (v := .int y7) (fun _ _ z => z.xs.2.2.2.2.2) dL_law__504 (vp_in_nI (by omega) (by omega)) (congrArg Value.int ey7) ?_
  refine tw_aload_n 0 dL_law__505 rfl rfl ?_
  refine tw_iload 4 dL_law__506 rfl ?_
  refine tw_iconst (v := 3) dL_law__508 (by decide) ?_
  refine tw_iadd dL_law__509 ?_
  refine tw_nmi (fun v8 ev8 => ?_)
  have q9 : v8 = nI (5 * j + 3) := by rw [ev8]; exact tw_s3 _
  rw [q9]
  obtain ⟨y10, ey10⟩ : ∃ y : Int32, Int32.ofNat (d.2 (1000 + (nI (5 * j + 3)).toNatClampNeg)) = y := ⟨_, rfl⟩
  refine tw_ti (v := .int y10) (fun _ _ z => z.xs.2.2.2.2.2) dL_law__510 (vp_in_nI (by omega) (by omega)) (congrArg Value.int ey10) ?_
  refine tw_aload_n 3 dL_law__511 rfl rfl ?_
  refine tw_bi (tw_callSH (M := mL_law_) (pc := 512) okL_use dL_law__512 w_616 [.ref x, .int y4, .int y7, .int y10, .ref o] [] rfl rfl ⟨by decide, by decide⟩ (Nat.le_of_ble_eq_true rfl) (c_L_use d g τ h sp1.1 x ok.2.2.1 y4 y7 y10 o ok.2.2.2.2.1) ((c + 900) - 20) ((n + 5000) - 120) (by omega) (by omega)) (fun r13 h12 q11 => ?_) (fun E h1 q => q.elim)
  rcases q11 with ⟨q11e, q11cI, q11cR, q11cL, q11n, τc, q11s⟩ | ⟨q11e, q11cI, τc, q11s⟩ | ⟨q11e, q11cI, q11cR, τc, q11s⟩ | ⟨q11e, q11cI, q11cR, q11cL, τc, q11s⟩
  · rw [q11e]
    have h49 := (tw_b678 ok.1 ok.2.2.1).1
    obtain ⟨gL, egL⟩ : ∃ z : tw_G, z = (tw_ad (tw_ad g (160 + 64 * tw_DN y4 + 24 + tw_DN y7) (-y10)) (1320 + tw_DN y7) y10) := ⟨_, rfl⟩
    rw [← egL] at q11s
    have gl3 : gL.2 3 = g.2 3 := by rw [egL]; rfl
    have gl4 : gL.2 4 = g.2 4 := by rw [egL]; rfl
    have gl5 : gL.2 5 = g.2 5 := by rw [egL]; rfl
    have gl9 : gL.2 9 = g.2 9 := by rw [egL]; rfl
    have gl22 : gL.2 22 = g.2 22 := by rw [egL]; rfl
    have sc5 : tw_sc g gL := tw_S_vs ok.2.1 q11cI q11cR.1 (Or.inl rfl) egL
    have kx1 := q11s.2.1.k ok.2.2.1 (by decide)
    have km1 := q11s.2.1.k ok.2.2.2.1 (by decide)
    have ko1 := q11s.2.1.k ok.2.2.2.2.1 (by decide)
    refine tw_istore [(5, .int 0), (0, .ref (d.2 98)), (1, .ref x), (2, .ref m), (3, .ref o), (4, .int (nI (5 * j)))] dL_law__515 (by decide) rfl ?_
    refine tw_aload_n 3 dL_law__517 rfl rfl ?_
    refine tw_aload_n 1 dL_law__518 rfl rfl ?_
    refine tw_iload 5 dL_law__519 rfl ?_
    refine tw_iconst (v := 1) dL_law__521 (by decide) ?_
    refine tw_iadd dL_law__522 ?_
    refine tw_nmi (fun v14 ev14 => ?_)
    have q15 : v14 = nI (5 * j + 1) := by rw [ev14]; exact tw_s1 _
    rw [q15]
    refine tw_ti (v := .int y4) (fun _ _ z => z.xs.2.2.2.2.2) dL_law__523 (vp_in_nI (by omega) (by omega)) (congrArg Value.int ey4) ?_
    refine tw_aload_n 1 dL_law__524 rfl rfl ?_
    refine tw_iload 5 dL_law__525 rfl ?_
    refine tw_iconst (v := 2) dL_law__527 (by decide) ?_
    refine tw_iadd dL_law__528 ?_
    refine tw_nmi (fun v16 ev16 => ?_)
    have q17 : v16 = nI (5 * j + 2) := by rw [ev16]; exact tw_s2 _
    rw [q17]
    refine tw_ti (v := .int y7) (fun _ _ z => z.xs.2.2.2.2.2) dL_law__529 (vp_in_nI (by omega) (by omega)) (congrArg Value.int ey7) ?_
    refine tw_aload_n 1 dL_law__530 rfl rfl ?_
    refine tw_iload 5 dL_law__531 rfl ?_
    refine tw_iconst (v := 3) dL_law__533 (by decide) ?_
    refine tw_iadd dL_law__534 ?_
    refine tw_nmi (fun v18 ev18 => ?_)
    have q19 : v18 = nI (5 * j + 3) := by rw [ev18]; exact tw_s3 _
    rw [q19]
    refine tw_ti (v := .int y10) (fun _ _ z => z.xs.2.2.2.2.2) dL_law__535 (vp_in_nI (by omega) (by omega)) (congrArg Value.int ey10) ?_
    obtain ⟨e20, f21, th_22, td_23, ds_24, fr_25, ca_26, us_27, wo_28, cm_29, lc_30, lh_31, ld_32, rfl, k33, k34, k35, k36, k37, k38, k39, k40, k41, k42, k43, k44, k45, k46, k47, k48, k49, k50, k51, k52, k53, k54⟩ := (tw_sp.rf q11s.1).1 m 36 km1 (by decide)
    refine tw_bi (tw_callV (M := mL_law_) (pc := 536) okX10_use dL_law__536 w_1324 rfl f21 [.int y4, .int y7, .int y10] [] rfl rfl ⟨by decide, by decide⟩ (Nat.le_of_ble_eq_true rfl) (c2_X10_use d gL τc h12 (tw_sp.rf q11s.1).1 m km1 y4 y7 y10 o ko1 ((ok.2.1.am5 (by omega)).sc sc5)) ((c + 900) - 20) ((n + 5000) - 120) (by omega) (by omega)) (fun r57 h56 q55 => ?_) (fun E h1 q => q.elim)
    obtain ⟨g9, τ9, s9, oq9, q55a⟩ := q55
    have kx2 := s9.2.1.k kx1 (by decide)
    have km2 := s9.2.1.k km1 (by decide)
    have ko2 := s9.2.1.k ko1 (by decide)
    have q11cI3 : tw_ix (gL.2 3) y4 := by rw [gl3, ← ok.2.1.c6]; exact q11cI
    have q11cL3 : (tw_DN y10 ≤ tw_DN (gL.1 (480 + 64 * tw_DN y4 + 16 + tw_DN y7))) := (tw_Q_use ok.2.1 sc5 (by omega) q11cI q11cR).mp q11cL
    rcases q55a with ⟨z, -⟩ | ⟨-, z, -⟩ | ⟨-, -, z, -⟩ | ⟨-, -, -, hr2, ht, gk9⟩
    · exact absurd q11cI3 z
    · exact absurd q11cR z
    · exact absurd q11cL3 z
    · rw [hr2]
      have ok9 : tw_ok5 d x m o (100000 * j) g9 τ9 h56 := ⟨s9.1, (ok.2.1.use (by omega) q11cI q11cR q11cL egL gk9), kx2, km2, ko2, (ok.2.2.2.2.2.cg (fun i hi => by rw [gk9]; (repeat (first | rw [tw_g1_ne (by omega)] | rw [tw_ad_ne (by omega)] | rw [tw_gT_1 (by omega)])); rw [egL]; (repeat (first | rw [tw_g1_ne (by omega)] | rw [tw_ad_ne (by omega)] | rw [tw_gT_1 (by omega)]))))⟩
      have hlg : tw_lg (h56 o) = (g.1 (160 + 64 * tw_DN y4 + 24 + tw_DN y7) + (-y10)).toInt64 := by rw [oq9]; exact q11n
      have sp58 := tw_sp.rf ok9.1
      refine tw_istore [(6, .int (gL.1 (480 + 64 * tw_DN y4 + 16 + tw_DN y7) + -y10)), (5, .int 0), (0, .ref (d.2 98)), (1, .ref x), (2, .ref m), (3, .ref o), (4, .int (nI (5 * j)))] dL_law__539 (by decide) rfl ?_
      refine tw_goto 1362 dL_law__541 (by decide) ?_
      refine tw_lv [2, 3, 4, 5, 6] rfl ?_
      refine tw_less (c2 := c) (n2 := n) (by omega) (by omega) ?_
      exact J _ _ _ (ok9.up (by omega))
  · rw [q11e]
    have h49 := (tw_b678 ok.1 ok.2.2.1).1
    have kx1 := q11s.2.1.k ok.2.2.1 (by decide)
    have km1 := q11s.2.1.k ok.2.2.2.1 (by decide)
    have ko1 := q11s.2.1.k ok.2.2.2.2.1 (by decide)
    refine tw_istore [(5, .int 1), (0, .ref (d.2 98)), (1, .ref x), (2, .ref m), (3, .ref o), (4, .int (nI (5 * j)))] dL_law__515 (by decide) rfl ?_
    refine tw_aload_n 3 dL_law__517 rfl rfl ?_
    refine tw_aload_n 1 dL_law__518 rfl rfl ?_
    refine tw_iload 5 dL_law__519 rfl ?_
    refine tw_iconst (v := 1) dL_law__521 (by decide) ?_
    refine tw_iadd dL_law__522 ?_
    refine tw_nmi (fun v59 ev59 => ?_)
    have q60 : v59 = nI (5 * j + 1) := by rw [ev59]; exact tw_s1 _
    rw [q60]
    refine tw_ti (v := .int y4) (fun _ _ z => z.xs.2.2.2.2.2) dL_law__523 (vp_in_nI (by omega) (by omega)) (congrArg Value.int ey4) ?_
    refine tw_aload_n 1 dL_law__524 rfl rfl ?_
    refine tw_iload 5 dL_law__525 rfl ?_
    refine tw_iconst (v := 2) dL_law__527 (by decide) ?_
    refine tw_iadd dL_law__528 ?_
    refine tw_nmi (fun v61 ev61 => ?_)
    have q62 : v61 = nI (5 * j + 2) := by rw [ev61]; exact tw_s2 _
    rw [q62]
    refine tw_ti (v := .int y7) (fun _ _ z => z.xs.2.2.2.2.2) dL_law__529 (vp_in_nI (by omega) (by omega)) (congrArg Value.int ey7) ?_
    refine tw_aload_n 1 dL_law__530 rfl rfl ?_
    refine tw_iload 5 dL_law__531 rfl ?_
    refine tw_iconst (v := 3) dL_law__533 (by decide) ?_
    refine tw_iadd dL_law__534 ?_
    refine tw_nmi (fun v63 ev63 => ?_)
    have q64 : v63 = nI (5 * j + 3) := by rw [ev63]; exact tw_s3 _
    rw [q64]
    refine tw_ti (v := .int y10) (fun _ _ z => z.xs.2.2.2.2.2) dL_law__535 (vp_in_nI (by omega) (by omega)) (congrArg Value.int ey10) ?_
    obtain ⟨e65, f66, th_67, td_68, ds_69, fr_70, ca_71, us_72, wo_73, cm_74, lc_75, lh_76, ld_77, rfl, k78, k79, k80, k81, k82, k83, k84, k85, k86, k87, k88, k89, k90, k91, k92, k93, k94, k95, k96, k97, k98, k99⟩ := (tw_sp.rf q11s.1).1 m 36 km1 (by decide)
    refine tw_bi (tw_callV (M := mL_law_) (pc := 536) okX10_use dL_law__536 w_1324 rfl f66 [.int y4, .int y7, .int y10] [] rfl rfl ⟨by decide, by decide⟩ (Nat.le_of_ble_eq_true rfl) (c2_X10_use d g τc h12 (tw_sp.rf q11s.1).1 m km1 y4 y7 y10 o ko1 (ok.2.1.am5 (by omega))) ((c + 900) - 20) ((n + 5000) - 120) (by omega) (by omega)) (fun r102 h101 q100 => ?_) (fun E h1 q => q.elim)
    obtain ⟨g9, τ9, s9, oq9, q100a⟩ := q100
    have kx2 := s9.2.1.k kx1 (by decide)
    have km2 := s9.2.1.k km1 (by decide)
    have ko2 := s9.2.1.k ko1 (by decide)
    have q11cI3 : ¬ tw_ix (g.2 3) y4 := by rw [← ok.2.1.c6]; exact q11cI
    rcases q100a with ⟨-, ht, eg9⟩ | ⟨z, -⟩ | ⟨z, -⟩ | ⟨z, -⟩
    · rw [eg9] at s9
      have ok9 : tw_ok5 d x m o (100000 * j) g τ9 h101 := ⟨s9.1, ok.2.1, kx2, km2, ko2, ok.2.2.2.2.2⟩
      have sp103 := tw_sp.rf ok9.1
      refine tw_istore [(6, .int r102), (5, .int 1), (0, .ref (d.2 98)), (1, .ref x), (2, .ref m), (3, .ref o), (4, .int (nI (5 * j)))] dL_law__539 (by decide) rfl ?_
      refine tw_goto 1362 dL_law__541 (by decide) ?_
      refine tw_lv [2, 3, 4, 5, 6] rfl ?_
      refine tw_less (c2 := c) (n2 := n) (by omega) (by omega) ?_
      exact J _ _ _ (ok9.up (by omega))
    · exact absurd z q11cI3
    · exact absurd z q11cI3
    · exact absurd z q11cI3
  · rw [q11e]
    have h49 := (tw_b678 ok.1 ok.2.2.1).1
    have kx1 := q11s.2.1.k ok.2.2.1 (by decide)
    have km1 := q11s.2.1.k ok.2.2.2.1 (by decide)
    have ko1 := q11s.2.1.k ok.2.2.2.2.1 (by decide)
    refine tw_istore [(5, .int 2), (0, .ref (d.2 98)), (1, .ref x), (2, .ref m), (3, .ref o), (4, .int (nI (5 * j)))] dL_law__515 (by decide) rfl ?_
    refine tw_aload_n 3 dL_law__517 rfl rfl ?_
    refine tw_aload_n 1 dL_law__518 rfl rfl ?_
    refine tw_iload 5 dL_law__519 rfl ?_
    refine tw_iconst (v := 1) dL_law__521 (by decide) ?_
    refine tw_iadd dL_law__522 ?_
    refine tw_nmi (fun v104 ev104 => ?_)
    have q105 : v104 = nI (5 * j + 1) := by rw [ev104]; exact tw_s1 _
    rw [q105]
    refine tw_ti (v := .int y4) (fun _ _ z => z.xs.2.2.2.2.2) dL_law__523 (vp_in_nI (by omega) (by omega)) (congrArg Value.int ey4) ?_
    refine tw_aload_n 1 dL_law__524 rfl rfl ?_
    refine tw_iload 5 dL_law__525 rfl ?_
    refine tw_iconst (v := 2) dL_law__527 (by decide) ?_
    refine tw_iadd dL_law__528 ?_
    refine tw_nmi (fun v106 ev106 => ?_)
    have q107 : v106 = nI (5 * j + 2) := by rw [ev106]; exact tw_s2 _
    rw [q107]
    refine tw_ti (v := .int y7) (fun _ _ z => z.xs.2.2.2.2.2) dL_law__529 (vp_in_nI (by omega) (by omega)) (congrArg Value.int ey7) ?_
    refine tw_aload_n 1 dL_law__530 rfl rfl ?_
    refine tw_iload 5 dL_law__531 rfl ?_
    refine tw_iconst (v := 3) dL_law__533 (by decide) ?_
    refine tw_iadd dL_law__534 ?_
    refine tw_nmi (fun v108 ev108 => ?_)
    have q109 : v108 = nI (5 * j + 3) := by rw [ev108]; exact tw_s3 _
    rw [q109]
    refine tw_ti (v := .int y10) (fun _ _ z => z.xs.2.2.2.2.2) dL_law__535 (vp_in_nI (by omega) (by omega)) (congrArg Value.int ey10) ?_
    obtain ⟨e110, f111, th_112, td_113, ds_114, fr_115, ca_116, us_117, wo_118, cm_119, lc_120, lh_121, ld_122, rfl, k123, k124, k125, k126, k127, k128, k129, k130, k131, k132, k133, k134, k135, k136, k137, k138, k139, k140, k141, k142, k143, k144⟩ := (tw_sp.rf q11s.1).1 m 36 km1 (by decide)
    refine tw_bi (tw_callV (M := mL_law_) (pc := 536) okX10_use dL_law__536 w_1324 rfl f111 [.int y4, .int y7, .int y10] [] rfl rfl ⟨by decide, by decide⟩ (Nat.le_of_ble_eq_true rfl) (c2_X10_use d g τc h12 (tw_sp.rf q11s.1).1 m km1 y4 y7 y10 o ko1 (ok.2.1.am5 (by omega))) ((c + 900) - 20) ((n + 5000) - 120) (by omega) (by omega)) (fun r147 h146 q145 => ?_) (fun E h1 q => q.elim)
    obtain ⟨g9, τ9, s9, oq9, q145a⟩ := q145
    have kx2 := s9.2.1.k kx1 (by decide)
    have km2 := s9.2.1.k km1 (by decide)
    have ko2 := s9.2.1.k ko1 (by decide)
    have q11cI3 : tw_ix (g.2 3) y4 := by rw [← ok.2.1.c6]; exact q11cI
    rcases q145a with ⟨z, -⟩ | ⟨-, -, ht, eg9⟩ | ⟨-, z, -⟩ | ⟨-, z, -⟩
    · exact absurd q11cI3 z
    · rw [eg9] at s9
      have ok9 : tw_ok5 d x m o (100000 * j) g τ9 h146 := ⟨s9.1, ok.2.1, kx2, km2, ko2, ok.2.2.2.2.2⟩
      have sp148 := tw_sp.rf ok9.1
      refine tw_istore [(6, .int r147), (5, .int 2), (0, .ref (d.2 98)), (1, .ref x), (2, .ref m), (3, .ref o), (4, .int (nI (5 * j)))] dL_law__539 (by decide) rfl ?_
      refine tw_goto 1362 dL_law__541 (by decide) ?_
      refine tw_lv [2, 3, 4, 5, 6] rfl ?_
      refine tw_less (c2 := c) (n2 := n) (by omega) (by omega) ?_
      exact J _ _ _ (ok9.up (by omega))
    · exact absurd z q11cR
    · exact absurd z q11cR
  · rw [q11e]
    have h49 := (tw_b678 ok.1 ok.2.2.1).1
    have kx1 := q11s.2.1.k ok.2.2.1 (by decide)
    have km1 := q11s.2.1.k ok.2.2.2.1 (by decide)
    have ko1 := q11s.2.1.k ok.2.2.2.2.1 (by decide)
    refine tw_istore [(5, .int 3), (0, .ref (d.2 98)), (1, .ref x), (2, .ref m), (3, .ref o), (4, .int (nI (5 * j)))] dL_law__515 (by decide) rfl ?_
    refine tw_aload_n 3 dL_law__517 rfl rfl ?_
    refine tw_aload_n 1 dL_law__518 rfl rfl ?_
    refine tw_iload 5 dL_law__519 rfl ?_
    refine tw_iconst (v := 1) dL_law__521 (by decide) ?_
    refine tw_iadd dL_law__522 ?_
    refine tw_nmi (fun v149 ev149 => ?_)
    have q150 : v149 = nI (5 * j + 1) := by rw [ev149]; exact tw_s1 _
    rw [q150]
    refine tw_ti (v := .int y4) (fun _ _ z => z.xs.2.2.2.2.2) dL_law__523 (vp_in_nI (by omega) (by omega)) (congrArg Value.int ey4) ?_
    refine tw_aload_n 1 dL_law__524 rfl rfl ?_
    refine tw_iload 5 dL_law__525 rfl ?_
    refine tw_iconst (v := 2) dL_law__527 (by decide) ?_
    refine tw_iadd dL_law__528 ?_
    refine tw_nmi (fun v151 ev151 => ?_)
    have q152 : v151 = nI (5 * j + 2) := by rw [ev151]; exact tw_s2 _
    rw [q152]
    refine tw_ti (v := .int y7) (fun _ _ z => z.xs.2.2.2.2.2) dL_law__529 (vp_in_nI (by omega) (by omega)) (congrArg Value.int ey7) ?_
    refine tw_aload_n 1 dL_law__530 rfl rfl ?_
    refine tw_iload 5 dL_law__531 rfl ?_
    refine tw_iconst (v := 3) dL_law__533 (by decide) ?_
    refine tw_iadd dL_law__534 ?_
    refine tw_nmi (fun v153 ev153 => ?_)
    have q154 : v153 = nI (5 * j + 3) := by rw [ev153]; exact tw_s3 _
    rw [q154]
    refine tw_ti (v := .int y10) (fun _ _ z => z.xs.2.2.2.2.2) dL_law__535 (vp_in_nI (by omega) (by omega)) (congrArg Value.int ey10) ?_
    obtain ⟨e155, f156, th_157, td_158, ds_159, fr_160, ca_161, us_162, wo_163, cm_164, lc_165, lh_166, ld_167, rfl, k168, k169, k170, k171, k172, k173, k174, k175, k176, k177, k178, k179, k180, k181, k182, k183, k184, k185, k186, k187, k188, k189⟩ := (tw_sp.rf q11s.1).1 m 36 km1 (by decide)
    refine tw_bi (tw_callV (M := mL_law_) (pc := 536) okX10_use dL_law__536 w_1324 rfl f156 [.int y4, .int y7, .int y10] [] rfl rfl ⟨by decide, by decide⟩ (Nat.le_of_ble_eq_true rfl) (c2_X10_use d g τc h12 (tw_sp.rf q11s.1).1 m km1 y4 y7 y10 o ko1 (ok.2.1.am5 (by omega))) ((c + 900) - 20) ((n + 5000) - 120) (by omega) (by omega)) (fun r192 h191 q190 => ?_) (fun E h1 q => q.elim)
    obtain ⟨g9, τ9, s9, oq9, q190a⟩ := q190
    have kx2 := s9.2.1.k kx1 (by decide)
    have km2 := s9.2.1.k km1 (by decide)
    have ko2 := s9.2.1.k ko1 (by decide)
    have q11cI3 : tw_ix (g.2 3) y4 := by rw [← ok.2.1.c6]; exact q11cI
    have q11cL3 : ¬ (tw_DN y10 ≤ tw_DN (g.1 (480 + 64 * tw_DN y4 + 16 + tw_DN y7))) := fun z => q11cL ((tw_Q_use ok.2.1 tw_sc.rf (by omega) q11cI q11cR).mpr z)
    rcases q190a with ⟨z, -⟩ | ⟨-, z, -⟩ | ⟨-, -, -, ht, eg9⟩ | ⟨-, -, z, -⟩
    · exact absurd q11cI3 z
    · exact absurd q11cR z
    · rw [eg9] at s9
      have ok9 : tw_ok5 d x m o (100000 * j) g τ9 h191 := ⟨s9.1, ok.2.1, kx2, km2, ko2, ok.2.2.2.2.2⟩
      have sp193 := tw_sp.rf ok9.1
      refine tw_istore [(6, .int r192), (5, .int 3), (0, .ref (d.2 98)), (1, .ref x), (2, .ref m), (3, .ref o), (4, .int (nI (5 * j)))] dL_law__539 (by decide) rfl ?_
      refine tw_goto 1362 dL_law__541 (by decide) ?_
      refine tw_lv [2, 3, 4, 5, 6] rfl ?_
      refine tw_less (c2 := c) (n2 := n) (by omega) (by omega) ?_
      exact J _ _ _ (ok9.up (by omega))
    · exact absurd z q11cL3

set_option maxHeartbeats 4000000 in
set_option maxRecDepth 100000 in
theorem law_case_7 (d : tw_D) (x m o j c n : Nat) (Q : tw_O → tw_H → Prop) (hL : d.2 97 ≤ 2560) (hj : 5 * j + 5 ≤ d.2 97) (J : tw_J d x m o j Q c n) (g : tw_G) (τ : tw_K) (h : tw_H) (ok : tw_ok5 d x m o (100000 * j) g τ h) : tw_W d mL_law_ Q 544 (tw_lv5 d x m o j) [] h (c + 900) (n + 5000) := by
  show tw_W d mL_law_ Q 544 [(0, .ref (d.2 98)), (1, .ref x), (2, .ref m), (3, .ref o), (4, .int (nI (5 * j)))] [] h (c + 900) (n + 5000)
  have sp1 := tw_sp.rf ok.1
  refine tw_aload_n 1 dL_law__544 rfl rfl ?_
  refine tw_aload_n 0 dL_law__545 rfl rfl ?_
  refine tw_iload 4 dL_law__546 rfl ?_
  refine tw_iconst (v := 1) dL_law__548 (by decide) ?_
  refine tw_iadd dL_law__549 ?_
  refine tw_nmi (fun v2 ev2 => ?_)
  have q3 : v2 = nI (5 * j + 1) := by rw [ev2]; exact tw_s1 _
  rw [q3]
  obtain ⟨y4, ey4⟩ : ∃ y : Int32, Int32.ofNat (d.2 (1000 + (nI (5 * j + 1)).toNatClampNeg)) = y := ⟨_, rfl⟩
  refine tw_ti (v := .int y4) (fun _ _ z => z.xs.2.2.2.2.2) dL_law__550 (vp_in_nI (by omega) (by omega)) (congrArg Value.int ey4) ?_
  refine tw_aload_n 0 dL_law__551 rfl rfl ?_
  refine tw_iload 4 dL_law__552 rfl ?_
  refine tw_iconst (v := 2) dL_law__554 (by decide) ?_
  refine tw_iadd dL_law__555 ?_
  refine tw_nmi (fun v5 ev5 => ?_)
  have q6 : v5 = nI (5 * j + 2) := by rw [ev5]; exact tw_s2 _
  rw [q6]
  obtain ⟨y7, ey7⟩ : ∃ y : Int32, Int32.ofNat (d.2 (1000 + (nI (5 * j + 2)).toNatClampNeg)) = y := ⟨_, rfl⟩
  refine tw_ti (v := .int y7) (fun _ _ z => z.xs.2.2.2.2.2) dL_law__556 (vp_in_nI (by omega) (by omega)) (congrArg Value.int ey7) ?_
  refine tw_aload_n 0 dL_law__557 rfl rfl ?_
  refine tw_iload 4 dL_law__558 rfl ?_
  refine tw_iconst (v := 3) dL_law__560 (by decide) ?_
  refine tw_iadd dL_law__561 ?_
  refine tw_nmi (fun v8 ev8 => ?_)
  have q9 : v8 = nI (5 * j + 3) := by rw [ev8]; exact tw_s3 _
  rw [q9]
  obtain ⟨y10, ey10⟩ : ∃ y : Int32, Int32.ofNat (d.2 (1000 + (nI (5 * j + 3)).toNatClampNeg)) = y := ⟨_, rfl⟩
  refine tw_ti (v := .int y10) (fun _ _ z => z.xs.2.2.2.2.2) dL_law__562 (vp_in_nI (by omega) (by omega)) (congrArg Value.int ey10) ?_
  refine tw_aload_n 3 dL_law__563 rfl rfl ?_
  refine tw_bi (tw_callSH (M := mL_law_) (pc := 564) okL_house dL_law__564 w_624 [.ref x, .int y4, .int y7, .int y10, .ref o] [] rfl rfl ⟨by decide, by decide⟩ (Nat.le_of_ble_eq_true rfl) (c_L_house d g τ h sp1.1 x ok.2.2.1 y4 y7 y10 o ok.2.2.2.2.1 ok.2.1.2.2.2.2.1 ok.2.1.fr.1) ((c + 900) - 20) ((n + 5000) - 120) (by omega) (by omega)) (fun r13 h12 q11 => ?_) (fun E h1 q => q.elim)
  rcases q11 with ⟨q11e, q11cI, q11cR, q11cL, q11n, y9, p9, τc, q11s⟩ | ⟨q11e, q11cI, τc, q11s⟩ | ⟨q11e, q11cI, q11cR, τc, q11s⟩ | ⟨q11e, q11cI, q11cR, q11cL, τc, q11s⟩
  · rw [q11e]
    have h49 := (tw_b678 ok.1 ok.2.2.1).1
    obtain ⟨gL, egL⟩ : ∃ z : tw_G, z = (tw_ad (tw_ad (tw_gI (tw_gH g (768 + 32 * g.2 7) y9 p9 y4 y7 y10) 7 1) (1336 + 0) y7) (1336 + 1) y10) := ⟨_, rfl⟩
    rw [← egL] at q11s
    have gl3 : gL.2 3 = g.2 3 := by rw [egL]; exact tw_gHI_2 (by decide) (by decide) (by decide) (by decide)
    have gl4 : gL.2 4 = g.2 4 := by rw [egL]; exact tw_gHI_2 (by decide) (by decide) (by decide) (by decide)
    have gl5 : gL.2 5 = g.2 5 := by rw [egL]; exact tw_gHI_2 (by decide) (by decide) (by decide) (by decide)
    have gl9 : gL.2 9 = g.2 9 := by rw [egL]; exact tw_gHI_2 (by decide) (by decide) (by decide) (by decide)
    have gl22 : gL.2 22 = g.2 22 := by rw [egL]; exact tw_gHI_2 (by decide) (by decide) (by decide) (by decide)
    have gl131 : gL.2 131 = g.2 131 := by rw [egL]; exact tw_gHI_2 (by decide) (by decide) (by decide) (by decide)
    have sc5 : tw_sc g gL := tw_S_house (by rw [ok.2.1.c7, ← ok.2.1.2.1]; exact q11cL) egL
    have kx1 := q11s.2.1.k ok.2.2.1 (by decide)
    have km1 := q11s.2.1.k ok.2.2.2.1 (by decide)
    have ko1 := q11s.2.1.k ok.2.2.2.2.1 (by decide)
    refine tw_istore [(5, .int 0), (0, .ref (d.2 98)), (1, .ref x), (2, .ref m), (3, .ref o), (4, .int (nI (5 * j)))] dL_law__567 (by decide) rfl ?_
    refine tw_aload_n 3 dL_law__569 rfl rfl ?_
    refine tw_aload_n 1 dL_law__570 rfl rfl ?_
    refine tw_iload 5 dL_law__571 rfl ?_
    refine tw_iconst (v := 1) dL_law__573 (by decide) ?_
    refine tw_iadd dL_law__574 ?_
    refine tw_nmi (fun v14 ev14 => ?_)
    have q15 : v14 = nI (5 * j + 1) := by rw [ev14]; exact tw_s1 _
    rw [q15]
    refine tw_ti (v := .int y4) (fun _ _ z => z.xs.2.2.2.2.2) dL_law__575 (vp_in_nI (by omega) (by omega)) (congrArg Value.int ey4) ?_
    refine tw_aload_n 1 dL_law__576 rfl rfl ?_
    refine tw_iload 5 dL_law__577 rfl ?_
    refine tw_iconst (v := 2) dL_law__579 (by decide) ?_
    refine tw_iadd dL_law__580 ?_
    refine tw_nmi (fun v16 ev16 => ?_)
    have q17 : v16 = nI (5 * j + 2) := by rw [ev16]; exact tw_s2 _
    rw [q17]
    refine tw_ti (v := .int y7) (fun _ _ z => z.xs.2.2.2.2.2) dL_law__581 (vp_in_nI (by omega) (by omega)) (congrArg Value.int ey7) ?_
    refine tw_aload_n 1 dL_law__582 rfl rfl ?_
    refine tw_iload 5 dL_law__583 rfl ?_
    refine tw_iconst (v := 3) dL_law__585 (by decide) ?_
    refine tw_iadd dL_law__586 ?_
    refine tw_nmi (fun v18 ev18 => ?_)
    have q19 : v18 = nI (5 * j + 3) := by rw [ev18]; exact tw_s3 _
    rw [q19]
    refine tw_ti (v := .int y10) (fun _ _ z => z.xs.2.2.2.2.2) dL_law__587 (vp_in_nI (by omega) (by omega)) (congrArg Value.int ey10) ?_
    obtain ⟨e20, f21, th_22, td_23, ds_24, fr_25, ca_26, us_27, wo_28, cm_29, lc_30, lh_31, ld_32, rfl, k33, k34, k35, k36, k37, k38, k39, k40, k41, k42, k43, k44, k45, k46, k47, k48, k49, k50, k51, k52, k53, k54⟩ := (tw_sp.rf q11s.1).1 m 36 km1 (by decide)
    refine tw_bi (tw_callV (M := mL_law_) (pc := 588) okX10_house dL_law__588 w_1328 rfl f21 [.int y4, .int y7, .int y10] [] rfl rfl ⟨by decide, by decide⟩ (Nat.le_of_ble_eq_true rfl) (c2_X10_house d gL τc h12 (tw_sp.rf q11s.1).1 m km1 y4 y7 y10 o ko1 (by rw [gl131, gl4]; exact ok.2.1.fr.2.1) ((ok.2.1.am5 (by omega)).sc sc5)) (((c + 900) - 20) - 10) (((n + 5000) - 120) - 60) (by omega) (by omega)) (fun r57 h56 q55 => ?_) (fun E h1 q => q.elim)
    obtain ⟨g9, τ9, s9, oq9, q55a⟩ := q55
    have kx2 := s9.2.1.k kx1 (by decide)
    have km2 := s9.2.1.k km1 (by decide)
    have ko2 := s9.2.1.k ko1 (by decide)
    have q11cI3 : tw_ix (gL.2 3) y4 := by rw [gl3, ← ok.2.1.2.2.2.1.trans ok.2.1.1]; exact q11cI
    have q11cL3 : gL.2 4 < 6 := by rw [gl4, ← ok.2.1.2.1]; exact q11cL
    rcases q55a with ⟨z, -⟩ | ⟨-, z, -⟩ | ⟨-, -, z, -⟩ | ⟨-, -, -, hr2, ht, gk9⟩
    · exact absurd q11cI3 z
    · exact absurd q11cR z
    · exact absurd q11cL3 z
    · rw [hr2]
      have ok9 : tw_ok5 d x m o (100000 * (j + 1)) g9 τ9 h56 := ⟨s9.1, (ok.2.1.house (by omega) (by omega) q11cI q11cR q11cL egL gk9), kx2, km2, ko2, (ok.2.2.2.2.2.cg (tw_M_house egL gk9))⟩
      have hlg : tw_lg (h56 o) = (nI (g.2 1)).toInt64 := by rw [oq9]; exact q11n
      have sp58 := tw_sp.rf ok9.1
      refine tw_istore [(6, .int (nI (gL.2 4))), (5, .int 0), (0, .ref (d.2 98)), (1, .ref x), (2, .ref m), (3, .ref o), (4, .int (nI (5 * j)))] dL_law__591 (by decide) rfl ?_
      refine tw_goto 1362 dL_law__593 (by decide) ?_
      refine tw_lv [2, 3, 4, 5, 6] rfl ?_
      refine tw_less (c2 := c) (n2 := n) (by omega) (by omega) ?_
      exact J _ _ _ (ok9.up (by omega))
  · rw [q11e]
    have h49 := (tw_b678 ok.1 ok.2.2.1).1
    have kx1 := q11s.2.1.k ok.2.2.1 (by decide)
    have km1 := q11s.2.1.k ok.2.2.2.1 (by decide)
    have ko1 := q11s.2.1.k ok.2.2.2.2.1 (by decide)
    refine tw_istore [(5, .int 1), (0, .ref (d.2 98)), (1, .ref x), (2, .ref m), (3, .ref o), (4, .int (nI (5 * j)))] dL_law__567 (by decide) rfl ?_
    refine tw_aload_n 3 dL_law__569 rfl rfl ?_
    refine tw_aload_n 1 dL_law__570 rfl rfl ?_
    refine tw_iload 5 dL_law__571 rfl ?_
    refine tw_iconst (v := 1) dL_law__573 (by decide) ?_
    refine tw_iadd dL_law__574 ?_
    refine tw_nmi (fun v59 ev59 => ?_)
    have q60 : v59 = nI (5 * j + 1) := by rw [ev59]; exact tw_s1 _
    rw [q60]
    refine tw_ti (v := .int y4) (fun _ _ z => z.xs.2.2.2.2.2) dL_law__575 (vp_in_nI (by omega) (by omega)) (congrArg Value.int ey4) ?_
    refine tw_aload_n 1 dL_law__576 rfl rfl ?_
    refine tw_iload 5 dL_law__577 rfl ?_
    refine tw_iconst (v := 2) dL_law__579 (by decide) ?_
    refine tw_iadd dL_law__580 ?_
    refine tw_nmi (fun v61 ev61 => ?_)
    have q62 : v61 = nI (5 * j + 2) := by rw [ev61]; exact tw_s2 _
    rw [q62]
    refine tw_ti (v := .int y7) (fun _ _ z => z.xs.2.2.2.2.2) dL_law__581 (vp_in_nI (by omega) (by omega)) (congrArg Value.int ey7) ?_
    refine tw_aload_n 1 dL_law__582 rfl rfl ?_
    refine tw_iload 5 dL_law__583 rfl ?_
    refine tw_iconst (v := 3) dL_law__585 (by decide) ?_
    refine tw_iadd dL_law__586 ?_
    refine tw_nmi (fun v63 ev63 => ?_)
    have q64 : v63 = nI (5 * j + 3) := by rw [ev63]; exact tw_s3 _
    rw [q64]
    refine tw_ti (v := .int y10) (fun _ _ z => z.xs.2.2.2.2.2) dL_law__587 (vp_in_nI (by omega) (by omega)) (congrArg Value.int ey10) ?_
    obtain ⟨e65, f66, th_67, td_68, ds_69, fr_70, ca_71, us_72, wo_73, cm_74, lc_75, lh_76, ld_77, rfl, k78, k79, k80, k81, k82, k83, k84, k85, k86, k87, k88, k89, k90, k91, k92, k93, k94, k95, k96, k97, k98, k99⟩ := (tw_sp.rf q11s.1).1 m 36 km1 (by decide)
    refine tw_bi (tw_callV (M := mL_law_) (pc := 588) okX10_house dL_law__588 w_1328 rfl f66 [.int y4, .int y7, .int y10] [] rfl rfl ⟨by decide, by decide⟩ (Nat.le_of_ble_eq_true rfl) (c2_X10_house d g τc h12 (tw_sp.rf q11s.1).1 m km1 y4 y7 y10 o ko1 (by exact ok.2.1.fr.2.1) (ok.2.1.am5 (by omega))) (((c + 900) - 20) - 10) (((n + 5000) - 120) - 60) (by omega) (by omega)) (fun r102 h101 q100 => ?_) (fun E h1 q => q.elim)
    obtain ⟨g9, τ9, s9, oq9, q100a⟩ := q100
    have kx2 := s9.2.1.k kx1 (by decide)
    have km2 := s9.2.1.k km1 (by decide)
    have ko2 := s9.2.1.k ko1 (by decide)
    have q11cI3 : ¬ tw_ix (g.2 3) y4 := by rw [← ok.2.1.2.2.2.1.trans ok.2.1.1]; exact q11cI
    rcases q100a with ⟨-, ht, eg9⟩ | ⟨z, -⟩ | ⟨z, -⟩ | ⟨z, -⟩
    · rw [eg9] at s9
      have ok9 : tw_ok5 d x m o (100000 * j) g τ9 h101 := ⟨s9.1, ok.2.1, kx2, km2, ko2, ok.2.2.2.2.2⟩
      have sp103 := tw_sp.rf ok9.1
      refine tw_istore [(6, .int r102), (5, .int 1), (0, .ref (d.2 98)), (1, .ref x), (2, .ref m), (3, .ref o), (4, .int (nI (5 * j)))] dL_law__591 (by decide) rfl ?_
      refine tw_goto 1362 dL_law__593 (by decide) ?_
      refine tw_lv [2, 3, 4, 5, 6] rfl ?_
      refine tw_less (c2 := c) (n2 := n) (by omega) (by omega) ?_
      exact J _ _ _ (ok9.up (by omega))
    · exact absurd z q11cI3
    · exact absurd z q11cI3
    · exact absurd z q11cI3
  · rw [q11e]
    have h49 := (tw_b678 ok.1 ok.2.2.1).1
    have kx1 := q11s.2.1.k ok.2.2.1 (by decide)
    have km1 := q11s.2.1.k ok.2.2.2.1 (by decide)
    have ko1 := q11s.2.1.k ok.2.2.2.2.1 (by decide)
    refine tw_istore [(5, .int 2), (0, .ref (d.2 98)), (1, .ref x), (2, .ref m), (3, .ref o), (4, .int (nI (5 * j)))] dL_law__567 (by decide) rfl ?_
    refine tw_aload_n 3 dL_law__569 rfl rfl ?_
    refine tw_aload_n 1 dL_law__570 rfl rfl ?_
    refine tw_iload 5 dL_law__571 rfl ?_
    refine tw_iconst (v := 1) dL_law__573 (by decide) ?_
    refine tw_iadd dL_law__574 ?_
    refine tw_nmi (fun v104 ev104 => ?_)
    have q105 : v104 = nI (5 * j + 1) := by rw [ev104]; exact tw_s1 _
    rw [q105]
    refine tw_ti (v := .int y4) (fun _ _ z => z.xs.2.2.2.2.2) dL_law__575 (vp_in_nI (by omega) (by omega)) (congrArg Value.int ey4) ?_
    refine tw_aload_n 1 dL_law__576 rfl rfl ?_
    refine tw_iload 5 dL_law__577 rfl ?_
    refine tw_iconst (v := 2) dL_law__579 (by decide) ?_
    refine tw_iadd dL_law__580 ?_
    refine tw_nmi (fun v106 ev106 => ?_)
    have q107 : v106 = nI (5 * j + 2) := by rw [ev106]; exact tw_s2 _
    rw [q107]
    refine tw_ti (v := .int y7) (fun _ _ z => z.xs.2.2.2.2.2) dL_law__581 (vp_in_nI (by omega) (by omega)) (congrArg Value.int ey7) ?_
    refine tw_aload_n 1 dL_law__582 rfl rfl ?_
    refine tw_iload 5 dL_law__583 rfl ?_
    refine tw_iconst (v := 3) dL_law__585 (by decide) ?_
    refine tw_iadd dL_law__586 ?_
    refine tw_nmi (fun v108 ev108 => ?_)
    have q109 : v108 = nI (5 * j + 3) := by rw [ev108]; exact tw_s3 _
    rw [q109]
    refine tw_ti (v := .int y10) (fun _ _ z => z.xs.2.2.2.2.2) dL_law__587 (vp_in_nI (by omega) (by omega)) (congrArg Value.int ey10) ?_
    obtain ⟨e110, f111, th_112, td_113, ds_114, fr_115, ca_116, us_117, wo_118, cm_119, lc_120, lh_121, ld_122, rfl, k123, k124, k125, k126, k127, k128, k129, k130, k131, k132, k133, k134, k135, k136, k137, k138, k139, k140, k141, k142, k143, k144⟩ := (tw_sp.rf q11s.1).1 m 36 km1 (by decide)
    refine tw_bi (tw_callV (M := mL_law_) (pc := 588) okX10_house dL_law__588 w_1328 rfl f111 [.int y4, .int y7, .int y10] [] rfl rfl ⟨by decide, by decide⟩ (Nat.le_of_ble_eq_true rfl) (c2_X10_house d g τc h12 (tw_sp.rf q11s.1).1 m km1 y4 y7 y10 o ko1 (by exact ok.2.1.fr.2.1) (ok.2.1.am5 (by omega))) (((c + 900) - 20) - 10) (((n + 5000) - 120) - 60) (by omega) (by omega)) (fun r147 h146 q145 => ?_) (fun E h1 q => q.elim)
    obtain ⟨g9, τ9, s9, oq9, q145a⟩ := q145
    have kx2 := s9.2.1.k kx1 (by decide)
    have km2 := s9.2.1.k km1 (by decide)
    have ko2 := s9.2.1.k ko1 (by decide)
    have q11cI3 : tw_ix (g.2 3) y4 := by rw [← ok.2.1.2.2.2.1.trans ok.2.1.1]; exact q11cI
    rcases q145a with ⟨z, -⟩ | ⟨-, -, ht, eg9⟩ | ⟨-, z, -⟩ | ⟨-, z, -⟩
    · exact absurd q11cI3 z
    · rw [eg9] at s9
      have ok9 : tw_ok5 d x m o (100000 * j) g τ9 h146 := ⟨s9.1, ok.2.1, kx2, km2, ko2, ok.2.2.2.2.2⟩
      have sp148 := tw_sp.rf ok9.1
      refine tw_istore [(6, .int r147), (5, .int 2), (0, .ref (d.2 98)), (1, .ref x), (2, .ref m), (3, .ref o), (4, .int (nI (5 * j)))] dL_law__591 (by decide) rfl ?_
      refine tw_goto 1362 dL_law__593 (by decide) ?_
      refine tw_lv [2, 3, 4, 5, 6] rfl ?_
      refine tw_less (c2 := c) (n2 := n) (by omega) (by omega) ?_
      exact J _ _ _ (ok9.up (by omega))
    · exact absurd z q11cR
    · exact absurd z q11cR
  · rw [q11e]
    have h49 := (tw_b678 ok.1 ok.2.2.1).1
    have kx1 := q11s.2.1.k ok.2.2.1 (by decide)
    have km1 := q11s.2.1.k ok.2.2.2.1 (by decide)
    have ko1 := q11s.2.1.k ok.2.2.2.2.1 (by decide)
    refine tw_istore [(5, .int 3), (0, .ref (d.2 98)), (1, .ref x), (2, .ref m), (3, .ref o), (4, .int (nI (5 * j)))] dL_law__567 (by decide) rfl ?_
    refine tw_aload_n 3 dL_law__569 rfl rfl ?_
    refine tw_aload_n 1 dL_law__570 rfl rfl ?_
    refine tw_iload 5 dL_law__571 rfl ?_
    refine tw_iconst (v := 1) dL_law__573 (by decide) ?_
    refine tw_iadd dL_law__574 ?_
    refine tw_nmi (fun v149 ev149 => ?_)
    have q150 : v149 = nI (5 * j + 1) := by rw [ev149]; exact tw_s1 _
    rw [q150]
    refine tw_ti (v := .int y4) (fun _ _ z => z.xs.2.2.2.2.2) dL_law__575 (vp_in_nI (by omega) (by omega)) (congrArg Value.int ey4) ?_
    refine tw_aload_n 1 dL_law__576 rfl rfl ?_
    refine tw_iload 5 dL_law__577 rfl ?_
    refine tw_iconst (v := 2) dL_law__579 (by decide) ?_
    refine tw_iadd dL_law__580 ?_
    refine tw_nmi (fun v151 ev151 => ?_)
    have q152 : v151 = nI (5 * j + 2) := by rw [ev151]; exact tw_s2 _
    rw [q152]
    refine tw_ti (v := .int y7) (fun _ _ z => z.xs.2.2.2.2.2) dL_law__581 (vp_in_nI (by omega) (by omega)) (congrArg Value.int ey7) ?_
    refine tw_aload_n 1 dL_law__582 rfl rfl ?_
    refine tw_iload 5 dL_law__583 rfl ?_
    refine tw_iconst (v := 3) dL_law__585 (by decide) ?_
    refine tw_iadd dL_law__586 ?_
    refine tw_nmi (fun v153 ev153 => ?_)
    have q154 : v153 = nI (5 * j + 3) := by rw [ev153]; exact tw_s3 _
    rw [q154]
    refine tw_ti (v := .int y10) (fun _ _ z => z.xs.2.2.2.2.2) dL_law__587 (vp_in_nI (by omega) (by omega)) (congrArg Value.int ey10) ?_
    obtain ⟨e155, f156, th_157, td_158, ds_159, fr_160, ca_161, us_162, wo_163, cm_164, lc_165, lh_166, ld_167, rfl, k168, k169, k170, k171, k172, k173, k174, k175, k176, k177, k178, k179, k180, k181, k182, k183, k184, k185, k186, k187, k188, k189⟩ := (tw_sp.rf q11s.1).1 m 36 km1 (by decide)
    refine tw_bi (tw_callV (M := mL_law_) (pc := 588) okX10_house dL_law__588 w_1328 rfl f156 [.int y4, .int y7, .int y10] [] rfl rfl ⟨by decide, by decide⟩ (Nat.le_of_ble_eq_true rfl) (c2_X10_house d g τc h12 (tw_sp.rf q11s.1).1 m km1 y4 y7 y10 o ko1 (by exact ok.2.1.fr.2.1) (ok.2.1.am5 (by omega))) (((c + 900) - 20) - 10) (((n + 5000) - 120) - 60) (by omega) (by omega)) (fun r192 h191 q190 => ?_) (fun E h1 q => q.elim)
    obtain ⟨g9, τ9, s9, oq9, q190a⟩ := q190
    have kx2 := s9.2.1.k kx1 (by decide)
    have km2 := s9.2.1.k km1 (by decide)
    have ko2 := s9.2.1.k ko1 (by decide)
    have q11cI3 : tw_ix (g.2 3) y4 := by rw [← ok.2.1.2.2.2.1.trans ok.2.1.1]; exact q11cI
    have q11cL3 : ¬ g.2 4 < 6 := by rw [← ok.2.1.2.1]; exact q11cL
    rcases q190a with ⟨z, -⟩ | ⟨-, z, -⟩ | ⟨-, -, -, ht, eg9⟩ | ⟨-, -, z, -⟩
    · exact absurd q11cI3 z
    · exact absurd q11cR z
    · rw [eg9] at s9
      have ok9 : tw_ok5 d x m o (100000 * j) g τ9 h191 := ⟨s9.1, ok.2.1, kx2, km2, ko2, ok.2.2.2.2.2⟩
      have sp193 := tw_sp.rf ok9.1
      refine tw_istore [(6, .int r192), (5, .int 3), (0, .ref (d.2 98)), (1, .ref x), (2, .ref m), (3, .ref o), (4, .int (nI (5 * j)))] dL_law__591 (by decide) rfl ?_
      refine tw_goto 1362 dL_law__593 (by decide) ?_
      refine tw_lv [2, 3, 4, 5, 6] rfl ?_
      refine tw_less (c2 := c) (n2 := n) (by omega) (by omega) ?_
      exact J _ _ _ (ok9.up (by omega))
    · exact absurd z q11cL3

set_option maxHeartbeats 4000000 in
set_option maxRecDepth 100000 in
theorem law_case_8 (d : tw_D) (x m o j c n : Nat) (Q : tw_O → tw_H → Prop) (hL : d.2 97 ≤ 2560) (hj : 5 * j + 5 ≤ d.2 97) (J : tw_J d x m o j Q c n) (g : tw_G) (τ : tw_K) (h : tw_H) (ok : tw_ok5 d x m o (100000 * j) g τ h) : tw_W d mL_law_ Q 596 (tw_lv5 d x m o j) [] h (c + 900) (n + 5000) := by
  show tw_W d mL_law_ Q 596 [(0, .ref (d.2 98)), (1, .ref x), (2, .ref m), (3, .ref o), (4, .int (nI (5 * j)))] [] h (c + 900) (n + 5000)
  have sp1 := tw_sp.rf ok.1
  refine tw_aload_n 1 dL_law__596 rfl rfl ?_
  refine tw_aload_n 0 dL_law__597 rfl rfl ?_
  refine tw_iload 4 dL_law__598 rfl ?_
  refine tw_iconst (v := 1) dL_law__600 (by decide) ?_
  refine tw_iadd dL_law__601 ?_
  refine tw_nmi (fun v2 ev2 => ?_)
  have q3 : v2 = nI (5 * j + 1) := by rw [ev2]; exact tw_s1 _
  rw [q3]
  obtain ⟨y4, ey4⟩ : ∃ y : Int32, Int32.ofNat (d.2 (1000 + (nI (5 * j + 1)).toNatClampNeg)) = y := ⟨_, rfl⟩
  refine tw_ti (v := .int y4) (fun _ _ z => z.xs.2.2.2.2.2) dL_law__602 (vp_in_nI (by omega) (by omega)) (congrArg Value.int ey4) ?_
  refine tw_aload_n 0 dL_law__603 rfl rfl ?_
  refine tw_iload 4 dL_law__604 rfl ?_
  refine tw_iconst (v := 2) dL_law__606 (by decide) ?_
  refine tw_iadd dL_law__607 ?_
  refine tw_nmi (fun v5 ev5 => ?_)
  have q6 : v5 = nI (5 * j + 2) := by rw [ev5]; exact tw_s2 _
  rw [q6]
  obtain ⟨y7, ey7⟩ : ∃ y : Int32, Int32.ofNat (d.2 (1000 + (nI (5 * j + 2)).toNatClampNeg)) = y := ⟨_, rfl⟩
  refine tw_ti (v := .int y7) (fun _ _ z => z.xs.2.2.2.2.2) dL_law__608 (vp_in_nI (by omega) (by omega)) (congrArg Value.int ey7) ?_
  refine tw_aload_n 0 dL_law__609 rfl rfl ?_
  refine tw_iload 4 dL_law__610 rfl ?_
  refine tw_iconst (v := 3) dL_law__612 (by decide) ?_
  refine tw_iadd dL_law__613 ?_
  refine tw_nmi (fun v8 ev8 => ?_)
  have q9 : v8 = nI (5 * j + 3) := by rw [ev8]; exact tw_s3 _
  rw [q9]
  obtain ⟨y10, ey10⟩ : ∃ y : Int32, Int32.ofNat (d.2 (1000 + (nI (5 * j + 3)).toNatClampNeg)) = y := ⟨_, rfl⟩
  refine tw_ti (v := .int y10) (fun _ _ z => z.xs.2.2.2.2.2) dL_law__614 (vp_in_nI (by omega) (by omega)) (congrArg Value.int ey10) ?_
  refine tw_aload_n 3 dL_law__615 rfl rfl ?_
  refine tw_bi (tw_callSH (M := mL_law_) (pc := 616) okL_change dL_law__616 w_657 [.ref x, .int y4, .int y7, .int y10, .ref o] [] rfl rfl ⟨by decide, by decide⟩ (Nat.le_of_ble_eq_true rfl) (c_L_change d g τ h sp1.1 x ok.2.2.1 y4 y7 y10 o ok.2.2.2.2.1 (ok.2.1.ch5 (by omega))) ((c + 900) - 20) ((n + 5000) - 120) (by omega) (by omega)) (fun r13 h12 q11 => ?_) (fun E h1 q => q.elim)
  rcases q11 with ⟨q11e, q11cI, q11cR, q11cL, q11n, τc, q11s⟩ | ⟨q11e, q11cI, τc, q11s⟩ | ⟨q11e, q11cI, q11cR, τc, q11s⟩ | ⟨q11e, q11cI, q11cR, q11cL, τc, q11s⟩
  · rw [q11e]
    have h49 := (tw_b678 ok.1 ok.2.2.1).1
    obtain ⟨gL, egL⟩ : ∃ z : tw_G, z = (tw_ad (tw_ad (tw_ad (tw_ad g (768 + 32 * tw_DN y4 + 8 + tw_DN y7) (-y10)) (160 + 64 * tw_cP g (tw_DN y4) + 24 + tw_DN y7) y10) (160 + 64 * tw_cP g (tw_DN y4) + 24 + (1 - tw_DN y7)) (-nI (tw_cg g (tw_DN y4) (tw_DN y7) (tw_DN y10)))) (768 + 32 * tw_DN y4 + 8 + (1 - tw_DN y7)) (nI (tw_cg g (tw_DN y4) (tw_DN y7) (tw_DN y10)))) := ⟨_, rfl⟩
    rw [← egL] at q11s
    have gl3 : gL.2 3 = g.2 3 := by rw [egL]; rfl
    have gl4 : gL.2 4 = g.2 4 := by rw [egL]; rfl
    have gl5 : gL.2 5 = g.2 5 := by rw [egL]; rfl
    have gl9 : gL.2 9 = g.2 9 := by rw [egL]; rfl
    have gl22 : gL.2 22 = g.2 22 := by rw [egL]; rfl
    have sc5 : tw_sc g gL := tw_S_change ok.2.1 q11cI q11cR q11cL egL
    have kx1 := q11s.2.1.k ok.2.2.1 (by decide)
    have km1 := q11s.2.1.k ok.2.2.2.1 (by decide)
    have ko1 := q11s.2.1.k ok.2.2.2.2.1 (by decide)
    refine tw_istore [(5, .int 0), (0, .ref (d.2 98)), (1, .ref x), (2, .ref m), (3, .ref o), (4, .int (nI (5 * j)))] dL_law__619 (by decide) rfl ?_
    refine tw_aload_n 3 dL_law__621 rfl rfl ?_
    refine tw_aload_n 1 dL_law__622 rfl rfl ?_
    refine tw_iload 5 dL_law__623 rfl ?_
    refine tw_iconst (v := 1) dL_law__625 (by decide) ?_
    refine tw_iadd dL_law__626 ?_
    refine tw_nmi (fun v14 ev14 => ?_)
    have q15 : v14 = nI (5 * j + 1) := by rw [ev14]; exact tw_s1 _
    rw [q15]
    refine tw_ti (v := .int y4) (fun _ _ z => z.xs.2.2.2.2.2) dL_law__627 (vp_in_nI (by omega) (by omega)) (congrArg Value.int ey4) ?_
    refine tw_aload_n 1 dL_law__628 rfl rfl ?_
    refine tw_iload 5 dL_law__629 rfl ?_
    refine tw_iconst (v := 2) dL_law__631 (by decide) ?_
    refine tw_iadd dL_law__632 ?_
    refine tw_nmi (fun v16 ev16 => ?_)
    have q17 : v16 = nI (5 * j + 2) := by rw [ev16]; exact tw_s2 _
    rw [q17]
    refine tw_ti (v := .int y7) (fun _ _ z => z.xs.2.2.2.2.2) dL_law__633 (vp_in_nI (by omega) (by omega)) (congrArg Value.int ey7) ?_
    refine tw_aload_n 1 dL_law__634 rfl rfl ?_
    refine tw_iload 5 dL_law__635 rfl ?_
    refine tw_iconst (v := 3) dL_law__637 (by decide) ?_
    refine tw_iadd dL_law__638 ?_
    refine tw_nmi (fun v18 ev18 => ?_)
    have q19 : v18 = nI (5 * j + 3) := by rw [ev18]; exact tw_s3 _
    rw [q19]
    refine tw_ti (v := .int y10) (fun _ _ z => z.xs.2.2.2.2.2) dL_law__639 (vp_in_nI (by omega) (by omega)) (congrArg Value.int ey10) ?_
    obtain ⟨e20, f21, th_22, td_23, ds_24, fr_25, ca_26, us_27, wo_28, cm_29, lc_30, lh_31, ld_32, rfl, k33, k34, k35, k36, k37, k38, k39, k40, k41, k42, k43, k44, k45, k46, k47, k48, k49, k50, k51, k52, k53, k54⟩ := (tw_sp.rf q11s.1).1 m 36 km1 (by decide)
    refine tw_bi (tw_callV (M := mL_law_) (pc := 640) okX10_change dL_law__640 w_1354 rfl f21 [.int y4, .int y7, .int y10] [] rfl rfl ⟨by decide, by decide⟩ (Nat.le_of_ble_eq_true rfl) (c2_X10_change d gL τc h12 (tw_sp.rf q11s.1).1 m km1 y4 y7 y10 o ko1 ((ok.2.1.am5 (by omega)).sc sc5) (ok.2.1.em5.sc sc5 gl3 ok.2.1.bd.1)) ((c + 900) - 20) ((n + 5000) - 120) (by omega) (by omega)) (fun r57 h56 q55 => ?_) (fun E h1 q => q.elim)
    obtain ⟨g9, τ9, s9, oq9, q55a⟩ := q55
    have kx2 := s9.2.1.k kx1 (by decide)
    have km2 := s9.2.1.k km1 (by decide)
    have ko2 := s9.2.1.k ko1 (by decide)
    have q11cI3 : tw_ix (gL.2 4) y4 := by rw [gl4, ← ok.2.1.c7]; exact q11cI
    have q11cL3 : (tw_MC gL (tw_DN y4) (tw_DN y7) (tw_DN y10)) := (tw_Q_change ok.2.1 sc5 (by omega) q11cI q11cR).mp q11cL
    rcases q55a with ⟨z, -⟩ | ⟨-, z, -⟩ | ⟨-, -, z, -⟩ | ⟨-, -, -, hr2, ht, gk9⟩
    · exact absurd q11cI3 z
    · exact absurd q11cR z
    · exact absurd q11cL3 z
    · rw [hr2]
      have ok9 : tw_ok5 d x m o (100000 * j) g9 τ9 h56 := ⟨s9.1, (ok.2.1.change (by omega) q11cI q11cR q11cL egL gk9), kx2, km2, ko2, (ok.2.2.2.2.2.cg (fun i hi => by rw [gk9]; (repeat (first | rw [tw_g1_ne (by omega)] | rw [tw_ad_ne (by omega)] | rw [tw_gT_1 (by omega)])); rw [egL]; (repeat (first | rw [tw_g1_ne (by omega)] | rw [tw_ad_ne (by omega)] | rw [tw_gT_1 (by omega)]))))⟩
      have hlg : tw_lg (h56 o) = (nI (tw_cg g (tw_DN y4) (tw_DN y7) (tw_DN y10))).toInt64 := by rw [oq9]; exact q11n
      have sp58 := tw_sp.rf ok9.1
      refine tw_istore [(6, .int (nI (tw_mg gL (tw_DN y4) (tw_DN y7) (tw_DN y10)))), (5, .int 0), (0, .ref (d.2 98)), (1, .ref x), (2, .ref m), (3, .ref o), (4, .int (nI (5 * j)))] dL_law__643 (by decide) rfl ?_
      refine tw_goto 1362 dL_law__645 (by decide) ?_
      refine tw_lv [2, 3, 4, 5, 6] rfl ?_
      refine tw_less (c2 := c) (n2 := n) (by omega) (by omega) ?_
      exact J _ _ _ (ok9.up (by omega))
  · rw [q11e]
    have h49 := (tw_b678 ok.1 ok.2.2.1).1
    have kx1 := q11s.2.1.k ok.2.2.1 (by decide)
    have km1 := q11s.2.1.k ok.2.2.2.1 (by decide)
    have ko1 := q11s.2.1.k ok.2.2.2.2.1 (by decide)
    refine tw_istore [(5, .int 1), (0, .ref (d.2 98)), (1, .ref x), (2, .ref m), (3, .ref o), (4, .int (nI (5 * j)))] dL_law__619 (by decide) rfl ?_
    refine tw_aload_n 3 dL_law__621 rfl rfl ?_
    refine tw_aload_n 1 dL_law__622 rfl rfl ?_
    refine tw_iload 5 dL_law__623 rfl ?_
    refine tw_iconst (v := 1) dL_law__625 (by decide) ?_
    refine tw_iadd dL_law__626 ?_
    refine tw_nmi (fun v59 ev59 => ?_)
    have q60 : v59 = nI (5 * j + 1) := by rw [ev59]; exact tw_s1 _
    rw [q60]
    refine tw_ti (v := .int y4) (fun _ _ z => z.xs.2.2.2.2.2) dL_law__627 (vp_in_nI (by omega) (by omega)) (congrArg Value.int ey4) ?_
    refine tw_aload_n 1 dL_law__628 rfl rfl ?_
    refine tw_iload 5 dL_law__629 rfl ?_
    refine tw_iconst (v := 2) dL_law__631 (by decide) ?_
    refine tw_iadd dL_law__632 ?_
    refine tw_nmi (fun v61 ev61 => ?_)
    have q62 : v61 = nI (5 * j + 2) := by rw [ev61]; exact tw_s2 _
    rw [q62]
    refine tw_ti (v := .int y7) (fun _ _ z => z.xs.2.2.2.2.2) dL_law__633 (vp_in_nI (by omega) (by omega)) (congrArg Value.int ey7) ?_
    refine tw_aload_n 1 dL_law__634 rfl rfl ?_
    refine tw_iload 5 dL_law__635 rfl ?_
    refine tw_iconst (v := 3) dL_law__637 (by decide) ?_
    refine tw_iadd dL_law__638 ?_
    refine tw_nmi (fun v63 ev63 => ?_)
    have q64 : v63 = nI (5 * j + 3) := by rw [ev63]; exact tw_s3 _
    rw [q64]
    refine tw_ti (v := .int y10) (fun _ _ z => z.xs.2.2.2.2.2) dL_law__639 (vp_in_nI (by omega) (by omega)) (congrArg Value.int ey10) ?_
    obtain ⟨e65, f66, th_67, td_68, ds_69, fr_70, ca_71, us_72, wo_73, cm_74, lc_75, lh_76, ld_77, rfl, k78, k79, k80, k81, k82, k83, k84, k85, k86, k87, k88, k89, k90, k91, k92, k93, k94, k95, k96, k97, k98, k99⟩ := (tw_sp.rf q11s.1).1 m 36 km1 (by decide)
    refine tw_bi (tw_callV (M := mL_law_) (pc := 640) okX10_change dL_law__640 w_1354 rfl f66 [.int y4, .int y7, .int y10] [] rfl rfl ⟨by decide, by decide⟩ (Nat.le_of_ble_eq_true rfl) (c2_X10_change d g τc h12 (tw_sp.rf q11s.1).1 m km1 y4 y7 y10 o ko1 (ok.2.1.am5 (by omega)) ok.2.1.em5) ((c + 900) - 20) ((n + 5000) - 120) (by omega) (by omega)) (fun r102 h101 q100 => ?_) (fun E h1 q => q.elim)
    obtain ⟨g9, τ9, s9, oq9, q100a⟩ := q100
    have kx2 := s9.2.1.k kx1 (by decide)
    have km2 := s9.2.1.k km1 (by decide)
    have ko2 := s9.2.1.k ko1 (by decide)
    have q11cI3 : ¬ tw_ix (g.2 4) y4 := by rw [← ok.2.1.c7]; exact q11cI
    rcases q100a with ⟨-, ht, eg9⟩ | ⟨z, -⟩ | ⟨z, -⟩ | ⟨z, -⟩
    · rw [eg9] at s9
      have ok9 : tw_ok5 d x m o (100000 * j) g τ9 h101 := ⟨s9.1, ok.2.1, kx2, km2, ko2, ok.2.2.2.2.2⟩
      have sp103 := tw_sp.rf ok9.1
      refine tw_istore [(6, .int r102), (5, .int 1), (0, .ref (d.2 98)), (1, .ref x), (2, .ref m), (3, .ref o), (4, .int (nI (5 * j)))] dL_law__643 (by decide) rfl ?_
      refine tw_goto 1362 dL_law__645 (by decide) ?_
      refine tw_lv [2, 3, 4, 5, 6] rfl ?_
      refine tw_less (c2 := c) (n2 := n) (by omega) (by omega) ?_
      exact J _ _ _ (ok9.up (by omega))
    · exact absurd z q11cI3
    · exact absurd z q11cI3
    · exact absurd z q11cI3
  · rw [q11e]
    have h49 := (tw_b678 ok.1 ok.2.2.1).1
    have kx1 := q11s.2.1.k ok.2.2.1 (by decide)
    have km1 := q11s.2.1.k ok.2.2.2.1 (by decide)
    have ko1 := q11s.2.1.k ok.2.2.2.2.1 (by decide)
    refine tw_istore [(5, .int 2), (0, .ref (d.2 98)), (1, .ref x), (2, .ref m), (3, .ref o), (4, .int (nI (5 * j)))] dL_law__619 (by decide) rfl ?_
    refine tw_aload_n 3 dL_law__621 rfl rfl ?_
    refine tw_aload_n 1 dL_law__622 rfl rfl ?_
    refine tw_iload 5 dL_law__623 rfl ?_
    refine tw_iconst (v := 1) dL_law__625 (by decide) ?_
    refine tw_iadd dL_law__626 ?_
    refine tw_nmi (fun v104 ev104 => ?_)
    have q105 : v104 = nI (5 * j + 1) := by rw [ev104]; exact tw_s1 _
    rw [q105]
    refine tw_ti (v := .int y4) (fun _ _ z => z.xs.2.2.2.2.2) dL_law__627 (vp_in_nI (by omega) (by omega)) (congrArg Value.int ey4) ?_
    refine tw_aload_n 1 dL_law__628 rfl rfl ?_
    refine tw_iload 5 dL_law__629 rfl ?_
    refine tw_iconst (v := 2) dL_law__631 (by decide) ?_
    refine tw_iadd dL_law__632 ?_
    refine tw_nmi (fun v106 ev106 => ?_)
    have q107 : v106 = nI (5 * j + 2) := by rw [ev106]; exact tw_s2 _
    rw [q107]
    refine tw_ti (v := .int y7) (fun _ _ z => z.xs.2.2.2.2.2) dL_law__633 (vp_in_nI (by omega) (by omega)) (congrArg Value.int ey7) ?_
    refine tw_aload_n 1 dL_law__634 rfl rfl ?_
    refine tw_iload 5 dL_law__635 rfl ?_
    refine tw_iconst (v := 3) dL_law__637 (by decide) ?_
    refine tw_iadd dL_law__638 ?_
    refine tw_nmi (fun v108 ev108 => ?_)
    have q109 : v108 = nI (5 * j + 3) := by rw [ev108]; exact tw_s3 _
    rw [q109]
    refine tw_ti (v := .int y10) (fun _ _ z => z.xs.2.2.2.2.2) dL_law__639 (vp_in_nI (by omega) (by omega)) (congrArg Value.int ey10) ?_
    obtain ⟨e110, f111, th_112, td_113, ds_114, fr_115, ca_116, us_117, wo_118, cm_119, lc_120, lh_121, ld_122, rfl, k123, k124, k125, k126, k127, k128, k129, k130, k131, k132, k133, k134, k135, k136, k137, k138, k139, k140, k141, k142, k143, k144⟩ := (tw_sp.rf q11s.1).1 m 36 km1 (by decide)
    refine tw_bi (tw_callV (M := mL_law_) (pc := 640) okX10_change dL_law__640 w_1354 rfl f111 [.int y4, .int y7, .int y10] [] rfl rfl ⟨by decide, by decide⟩ (Nat.le_of_ble_eq_true rfl) (c2_X10_change d g τc h12 (tw_sp.rf q11s.1).1 m km1 y4 y7 y10 o ko1 (ok.2.1.am5 (by omega)) ok.2.1.em5) ((c + 900) - 20) ((n + 5000) - 120) (by omega) (by omega)) (fun r147 h146 q145 => ?_) (fun E h1 q => q.elim)
    obtain ⟨g9, τ9, s9, oq9, q145a⟩ := q145
    have kx2 := s9.2.1.k kx1 (by decide)
    have km2 := s9.2.1.k km1 (by decide)
    have ko2 := s9.2.1.k ko1 (by decide)
    have q11cI3 : tw_ix (g.2 4) y4 := by rw [← ok.2.1.c7]; exact q11cI
    rcases q145a with ⟨z, -⟩ | ⟨-, -, ht, eg9⟩ | ⟨-, z, -⟩ | ⟨-, z, -⟩
    · exact absurd q11cI3 z
    · rw [eg9] at s9
      have ok9 : tw_ok5 d x m o (100000 * j) g τ9 h146 := ⟨s9.1, ok.2.1, kx2, km2, ko2, ok.2.2.2.2.2⟩
      have sp148 := tw_sp.rf ok9.1
      refine tw_istore [(6, .int r147), (5, .int 2), (0, .ref (d.2 98)), (1, .ref x), (2, .ref m), (3, .ref o), (4, .int (nI (5 * j)))] dL_law__643 (by decide) rfl ?_
      refine tw_goto 1362 dL_law__645 (by decide) ?_
      refine tw_lv [2, 3, 4, 5, 6] rfl ?_
      refine tw_less (c2 := c) (n2 := n) (by omega) (by omega) ?_
      exact J _ _ _ (ok9.up (by omega))
    · exact absurd z q11cR
    · exact absurd z q11cR
  · rw [q11e]
    have h49 := (tw_b678 ok.1 ok.2.2.1).1
    have kx1 := q11s.2.1.k ok.2.2.1 (by decide)
    have km1 := q11s.2.1.k ok.2.2.2.1 (by decide)
    have ko1 := q11s.2.1.k ok.2.2.2.2.1 (by decide)
    refine tw_istore [(5, .int 3), (0, .ref (d.2 98)), (1, .ref x), (2, .ref m), (3, .ref o), (4, .int (nI (5 * j)))] dL_law__619 (by decide) rfl ?_
    refine tw_aload_n 3 dL_law__621 rfl rfl ?_
    refine tw_aload_n 1 dL_law__622 rfl rfl ?_
    refine tw_iload 5 dL_law__623 rfl ?_
    refine tw_iconst (v := 1) dL_law__625 (by decide) ?_
    refine tw_iadd dL_law__626 ?_
    refine tw_nmi (fun v149 ev149 => ?_)
    have q150 : v149 = nI (5 * j + 1) := by rw [ev149]; exact tw_s1 _
    rw [q150]
    refine tw_ti (v := .int y4) (fun _ _ z => z.xs.2.2.2.2.2) dL_law__627 (vp_in_nI (by omega) (by omega)) (congrArg Value.int ey4) ?_
    refine tw_aload_n 1 dL_law__628 rfl rfl ?_
    refine tw_iload 5 dL_law__629 rfl ?_
    refine tw_iconst (v := 2) dL_law__631 (by decide) ?_
    refine tw_iadd dL_law__632 ?_
    refine tw_nmi (fun v151 ev151 => ?_)
    have q152 : v151 = nI (5 * j + 2) := by rw [ev151]; exact tw_s2 _
    rw [q152]
    refine tw_ti (v := .int y7) (fun _ _ z => z.xs.2.2.2.2.2) dL_law__633 (vp_in_nI (by omega) (by omega)) (congrArg Value.int ey7) ?_
    refine tw_aload_n 1 dL_law__634 rfl rfl ?_
    refine tw_iload 5 dL_law__635 rfl ?_
    refine tw_iconst (v := 3) dL_law__637 (by decide) ?_
    refine tw_iadd dL_law__638 ?_
    refine tw_nmi (fun v153 ev153 => ?_)
    have q154 : v153 = nI (5 * j + 3) := by rw [ev153]; exact tw_s3 _
    rw [q154]
    refine tw_ti (v := .int y10) (fun _ _ z => z.xs.2.2.2.2.2) dL_law__639 (vp_in_nI (by omega) (by omega)) (congrArg Value.int ey10) ?_
    obtain ⟨e155, f156, th_157, td_158, ds_159, fr_160, ca_161, us_162, wo_163, cm_164, lc_165, lh_166, ld_167, rfl, k168, k169, k170, k171, k172, k173, k174, k175, k176, k177, k178, k179, k180, k181, k182, k183, k184, k185, k186, k187, k188, k189⟩ := (tw_sp.rf q11s.1).1 m 36 km1 (by decide)
    refine tw_bi (tw_callV (M := mL_law_) (pc := 640) okX10_change dL_law__640 w_1354 rfl f156 [.int y4, .int y7, .int y10] [] rfl rfl ⟨by decide, by decide⟩ (Nat.le_of_ble_eq_true rfl) (c2_X10_change d g τc h12 (tw_sp.rf q11s.1).1 m km1 y4 y7 y10 o ko1 (ok.2.1.am5 (by omega)) ok.2.1.em5) ((c + 900) - 20) ((n + 5000) - 120) (by omega) (by omega)) (fun r192 h191 q190 => ?_) (fun E h1 q => q.elim)
    obtain ⟨g9, τ9, s9, oq9, q190a⟩ := q190
    have kx2 := s9.2.1.k kx1 (by decide)
    have km2 := s9.2.1.k km1 (by decide)
    have ko2 := s9.2.1.k ko1 (by decide)
    have q11cI3 : tw_ix (g.2 4) y4 := by rw [← ok.2.1.c7]; exact q11cI
    have q11cL3 : ¬ (tw_MC g (tw_DN y4) (tw_DN y7) (tw_DN y10)) := fun z => q11cL ((tw_Q_change ok.2.1 tw_sc.rf (by omega) q11cI q11cR).mpr z)
    rcases q190a with ⟨z, -⟩ | ⟨-, z, -⟩ | ⟨-, -, -, ht, eg9⟩ | ⟨-, -, z, -⟩
    · exact absurd q11cI3 z
    · exact absurd q11cR z
    · rw [eg9] at s9
      have ok9 : tw_ok5 d x m o (100000 * j) g τ9 h191 := ⟨s9.1, ok.2.1, kx2, km2, ko2, ok.2.2.2.2.2⟩
      have sp193 := tw_sp.rf ok9.1
      refine tw_istore [(6, .int r192), (5, .int 3), (0, .ref (d.2 98)), (1, .ref x), (2, .ref m), (3, .ref o), (4, .int (nI (5 * j)))] dL_law__643 (by decide) rfl ?_
      refine tw_goto 1362 dL_law__645 (by decide) ?_
      refine tw_lv [2, 3, 4, 5, 6] rfl ?_
      refine tw_less (c2 := c) (n2 := n) (by omega) (by omega) ?_
      exact J _ _ _ (ok9.up (by omega))
    · exact absurd z q11cL3

set_option maxHeartbeats 4000000 in
set_option maxRecDepth 100000 in
theorem law_case_9 (d : tw_D) (x m o j c n : Nat) (Q : tw_O → tw_H → Prop) (hL : d.2 97 ≤ 2560) (hj : 5 * j + 5 ≤ d.2 97) (J : tw_J d x m o j Q c n) (g : tw_G) (τ : tw_K) (h : tw_H) (ok : tw_ok5 d x m o (100000 * j) g τ h) : tw_W d mL_law_ Q 648 (tw_lv5 d x m o j) [] h (c + 900) (n + 5000) := by
  show tw_W d mL_law_ Q 648 [(0, .ref (d.2 98)), (1, .ref x), (2, .ref m), (3, .ref o), (4, .int (nI (5 * j)))] [] h (c + 900) (n + 5000)
  have sp1 := tw_sp.rf ok.1
  refine tw_aload_n 1 dL_law__648 rfl rfl ?_
  refine tw_aload_n 0 dL_law__649 rfl rfl ?_
  refine tw_iload 4 dL_law__650 rfl ?_
  refine tw_iconst (v := 1) dL_law__652 (by decide) ?_
  refine tw_iadd dL_law__653 ?_
  refine tw_nmi (fun v2 ev2 => ?_)
  have q3 : v2 = nI (5 * j + 1) := by rw [ev2]; exact tw_s1 _
  rw [q3]
  obtain ⟨y4, ey4⟩ : ∃ y : Int32, Int32.ofNat (d.2 (1000 + (nI (5 * j + 1)).toNatClampNeg)) = y := ⟨_, rfl⟩
  refine tw_ti (v := .int y4) (fun _ _ z => z.xs.2.2.2.2.2) dL_law__654 (vp_in_nI (by omega) (by omega)) (congrArg Value.int ey4) ?_
  refine tw_aload_n 0 dL_law__655 rfl rfl ?_
  refine tw_iload 4 dL_law__656 rfl ?_
  refine tw_iconst (v := 2) dL_law__658 (by decide) ?_
  refine tw_iadd dL_law__659 ?_
  refine tw_nmi (fun v5 ev5 => ?_)
  have q6 : v5 = nI (5 * j + 2) := by rw [ev5]; exact tw_s2 _
  rw [q6]
  obtain ⟨y7, ey7⟩ : ∃ y : Int32, Int32.ofNat (d.2 (1000 + (nI (5 * j + 2)).toNatClampNeg)) = y := ⟨_, rfl⟩
  refine tw_ti (v := .int y7) (fun _ _ z => z.xs.2.2.2.2.2) dL_law__660 (vp_in_nI (by omega) (by omega)) (congrArg Value.int ey7) ?_
  refine tw_aload_n 3 dL_law__661 rfl rfl ?_
  refine tw_bi (tw_callSH (M := mL_law_) (pc := 662) okL_send dL_law__662 w_671 [.ref x, .int y4, .int y7, .ref o] [] rfl rfl ⟨by decide, by decide⟩ (Nat.le_of_ble_eq_true rfl) (c_L_send d g τ h sp1.1 x ok.2.2.1 y4 y7 o ok.2.2.2.2.1 (ok.2.1.ch5 (by omega))) ((c + 900) - 20) ((n + 5000) - 120) (by omega) (by omega)) (fun r10 h9 q8 => ?_) (fun E h1 q => q.elim)
  rcases q8 with ⟨q8e, q8cI, q8cL, q8n, τc, q8s⟩ | ⟨q8e, q8cI, τc, q8s⟩ | ⟨q8e, q8cI, q8cL, τc, q8s⟩
  · rw [q8e]
    have h49 := (tw_b678 ok.1 ok.2.2.1).1
    obtain ⟨gL, egL⟩ : ∃ z : tw_G, z = (tw_g1 (tw_g1 (tw_g1 (tw_ad (tw_ad (tw_ad (tw_ad g (768 + 32 * tw_DN y4 + 8 + 0) (-nI (tw_fr g (tw_DN y4) (tw_DN y7) 0))) (1312 + 0) (nI (tw_fr g (tw_DN y4) (tw_DN y7) 0))) (768 + 32 * tw_DN y4 + 8 + 1) (-nI (tw_fr g (tw_DN y4) (tw_DN y7) 1))) (1312 + 1) (nI (tw_fr g (tw_DN y4) (tw_DN y7) 1))) (768 + 32 * tw_DN y4 + 1) (-1)) (768 + 32 * tw_DN y4 + 2) y7) (768 + 32 * tw_DN y4 + 0) (tw_sD g (tw_DN y4) (tw_DN y7))) := ⟨_, rfl⟩
    rw [← egL] at q8s
    have gl3 : gL.2 3 = g.2 3 := by rw [egL]; rfl
    have gl4 : gL.2 4 = g.2 4 := by rw [egL]; rfl
    have gl5 : gL.2 5 = g.2 5 := by rw [egL]; rfl
    have gl9 : gL.2 9 = g.2 9 := by rw [egL]; rfl
    have gl22 : gL.2 22 = g.2 22 := by rw [egL]; rfl
    have sc5 : tw_sc g gL := tw_S_send ok.2.1 q8cI egL
    have kx1 := q8s.2.1.k ok.2.2.1 (by decide)
    have km1 := q8s.2.1.k ok.2.2.2.1 (by decide)
    have ko1 := q8s.2.1.k ok.2.2.2.2.1 (by decide)
    refine tw_istore [(5, .int 0), (0, .ref (d.2 98)), (1, .ref x), (2, .ref m), (3, .ref o), (4, .int (nI (5 * j)))] dL_law__665 (by decide) rfl ?_
    refine tw_aload_n 3 dL_law__667 rfl rfl ?_
    refine tw_aload_n 1 dL_law__668 rfl rfl ?_
    refine tw_iload 5 dL_law__669 rfl ?_
    refine tw_iconst (v := 1) dL_law__671 (by decide) ?_
    refine tw_iadd dL_law__672 ?_
    refine tw_nmi (fun v11 ev11 => ?_)
    have q12 : v11 = nI (5 * j + 1) := by rw [ev11]; exact tw_s1 _
    rw [q12]
    refine tw_ti (v := .int y4) (fun _ _ z => z.xs.2.2.2.2.2) dL_law__673 (vp_in_nI (by omega) (by omega)) (congrArg Value.int ey4) ?_
    refine tw_aload_n 1 dL_law__674 rfl rfl ?_
    refine tw_iload 5 dL_law__675 rfl ?_
    refine tw_iconst (v := 2) dL_law__677 (by decide) ?_
    refine tw_iadd dL_law__678 ?_
    refine tw_nmi (fun v13 ev13 => ?_)
    have q14 : v13 = nI (5 * j + 2) := by rw [ev13]; exact tw_s2 _
    rw [q14]
    refine tw_ti (v := .int y7) (fun _ _ z => z.xs.2.2.2.2.2) dL_law__679 (vp_in_nI (by omega) (by omega)) (congrArg Value.int ey7) ?_
    obtain ⟨e15, f16, th_17, td_18, ds_19, fr_20, ca_21, us_22, wo_23, cm_24, lc_25, lh_26, ld_27, rfl, k28, k29, k30, k31, k32, k33, k34, k35, k36, k37, k38, k39, k40, k41, k42, k43, k44, k45, k46, k47, k48, k49⟩ := (tw_sp.rf q8s.1).1 m 36 km1 (by decide)
    refine tw_bi (tw_callV (M := mL_law_) (pc := 680) okX10_send dL_law__680 w_1374 rfl f16 [.int y4, .int y7] [] rfl rfl ⟨by decide, by decide⟩ (Nat.le_of_ble_eq_true rfl) (c2_X10_send d gL τc h9 (tw_sp.rf q8s.1).1 m km1 y4 y7 o ko1 ((ok.2.1.am5 (by omega)).sc sc5) (ok.2.1.em5.sc sc5 gl3 ok.2.1.bd.1)) ((c + 900) - 20) ((n + 5000) - 120) (by omega) (by omega)) (fun r52 h51 q50 => ?_) (fun E h1 q => q.elim)
    obtain ⟨g9, τ9, s9, oq9, q50a⟩ := q50
    have kx2 := s9.2.1.k kx1 (by decide)
    have km2 := s9.2.1.k km1 (by decide)
    have ko2 := s9.2.1.k ko1 (by decide)
    have q8cI3 : (tw_ix (gL.2 4) y4 ∧ tw_ix (gL.2 3) y7) := by rw [gl3, gl4, ← ok.2.1.c7, ← ok.2.1.c6]; exact q8cI
    have q8cL3 : (tw_MS gL (tw_DN y4) y7) := (tw_Q_send ok.2.1 sc5 q8cI).mp q8cL
    rcases q50a with ⟨z, -⟩ | ⟨-, z, -⟩ | ⟨-, -, hr2, ht, gk9⟩
    · exact absurd q8cI3 z
    · exact absurd q8cL3 z
    · rw [hr2]
      have ok9 : tw_ok5 d x m o (100000 * j) g9 τ9 h51 := ⟨s9.1, (ok.2.1.send (by omega) q8cI q8cL egL gk9), kx2, km2, ko2, (ok.2.2.2.2.2.cg (fun i hi => by rw [gk9]; (repeat (first | rw [tw_g1_ne (by omega)] | rw [tw_ad_ne (by omega)] | rw [tw_gT_1 (by omega)])); rw [egL]; (repeat (first | rw [tw_g1_ne (by omega)] | rw [tw_ad_ne (by omega)] | rw [tw_gT_1 (by omega)]))))⟩
      have hlg : tw_lg (h51 o) = (tw_sD g (tw_DN y4) (tw_DN y7)).toInt64 := by rw [oq9]; exact q8n
      have sp53 := tw_sp.rf ok9.1
      refine tw_istore [(6, .int (tw_mD gL (tw_DN y4) (tw_DN y7))), (5, .int 0), (0, .ref (d.2 98)), (1, .ref x), (2, .ref m), (3, .ref o), (4, .int (nI (5 * j)))] dL_law__683 (by decide) rfl ?_
      refine tw_goto 1362 dL_law__685 (by decide) ?_
      refine tw_lv [2, 3, 4, 5, 6] rfl ?_
      refine tw_less (c2 := c) (n2 := n) (by omega) (by omega) ?_
      exact J _ _ _ (ok9.up (by omega))
  · rw [q8e]
    have h49 := (tw_b678 ok.1 ok.2.2.1).1
    have kx1 := q8s.2.1.k ok.2.2.1 (by decide)
    have km1 := q8s.2.1.k ok.2.2.2.1 (by decide)
    have ko1 := q8s.2.1.k ok.2.2.2.2.1 (by decide)
    refine tw_istore [(5, .int 1), (0, .ref (d.2 98)), (1, .ref x), (2, .ref m), (3, .ref o), (4, .int (nI (5 * j)))] dL_law__665 (by decide) rfl ?_
    refine tw_aload_n 3 dL_law__667 rfl rfl ?_
    refine tw_aload_n 1 dL_law__668 rfl rfl ?_
    refine tw_iload 5 dL_law__669 rfl ?_
    refine tw_iconst (v := 1) dL_law__671 (by decide) ?_
    refine tw_iadd dL_law__672 ?_
    refine tw_nmi (fun v54 ev54 => ?_)
    have q55 : v54 = nI (5 * j + 1) := by rw [ev54]; exact tw_s1 _
    rw [q55]
    refine tw_ti (v := .int y4) (fun _ _ z => z.xs.2.2.2.2.2) dL_law__673 (vp_in_nI (by omega) (by omega)) (congrArg Value.int ey4) ?_
    refine tw_aload_n 1 dL_law__674 rfl rfl ?_
    refine tw_iload 5 dL_law__675 rfl ?_
    refine tw_iconst (v := 2) dL_law__677 (by decide) ?_
    refine tw_iadd dL_law__678 ?_
    refine tw_nmi (fun v56 ev56 => ?_)
    have q57 : v56 = nI (5 * j + 2) := by rw [ev56]; exact tw_s2 _
    rw [q57]
    refine tw_ti (v := .int y7) (fun _ _ z => z.xs.2.2.2.2.2) dL_law__679 (vp_in_nI (by omega) (by omega)) (congrArg Value.int ey7) ?_
    obtain ⟨e58, f59, th_60, td_61, ds_62, fr_63, ca_64, us_65, wo_66, cm_67, lc_68, lh_69, ld_70, rfl, k71, k72, k73, k74, k75, k76, k77, k78, k79, k80, k81, k82, k83, k84, k85, k86, k87, k88, k89, k90, k91, k92⟩ := (tw_sp.rf q8s.1).1 m 36 km1 (by decide)
    refine tw_bi (tw_callV (M := mL_law_) (pc := 680) okX10_send dL_law__680 w_1374 rfl f59 [.int y4, .int y7] [] rfl rfl ⟨by decide, by decide⟩ (Nat.le_of_ble_eq_true rfl) (c2_X10_send d g τc h9 (tw_sp.rf q8s.1).1 m km1 y4 y7 o ko1 (ok.2.1.am5 (by omega)) ok.2.1.em5) ((c + 900) - 20) ((n + 5000) - 120) (by omega) (by omega)) (fun r95 h94 q93 => ?_) (fun E h1 q => q.elim)
    obtain ⟨g9, τ9, s9, oq9, q93a⟩ := q93
    have kx2 := s9.2.1.k kx1 (by decide)
    have km2 := s9.2.1.k km1 (by decide)
    have ko2 := s9.2.1.k ko1 (by decide)
    have q8cI3 : ¬ (tw_ix (g.2 4) y4 ∧ tw_ix (g.2 3) y7) := by rw [← ok.2.1.c7, ← ok.2.1.c6]; exact q8cI
    rcases q93a with ⟨-, ht, eg9⟩ | ⟨z, -⟩ | ⟨z, -⟩
    · rw [eg9] at s9
      have ok9 : tw_ok5 d x m o (100000 * j) g τ9 h94 := ⟨s9.1, ok.2.1, kx2, km2, ko2, ok.2.2.2.2.2⟩
      have sp96 := tw_sp.rf ok9.1
      refine tw_istore [(6, .int r95), (5, .int 1), (0, .ref (d.2 98)), (1, .ref x), (2, .ref m), (3, .ref o), (4, .int (nI (5 * j)))] dL_law__683 (by decide) rfl ?_
      refine tw_goto 1362 dL_law__685 (by decide) ?_
      refine tw_lv [2, 3, 4, 5, 6] rfl ?_
      refine tw_less (c2 := c) (n2 := n) (by omega) (by omega) ?_
      exact J _ _ _ (ok9.up (by omega))
    · exact absurd z q8cI3
    · exact absurd z q8cI3
  · rw [q8e]
    have h49 := (tw_b678 ok.1 ok.2.2.1).1
    have kx1 := q8s.2.1.k ok.2.2.1 (by decide)
    have km1 := q8s.2.1.k ok.2.2.2.1 (by decide)
    have ko1 := q8s.2.1.k ok.2.2.2.2.1 (by decide)
    refine tw_istore [(5, .int 2), (0, .ref (d.2 98)), (1, .ref x), (2, .ref m), (3, .ref o), (4, .int (nI (5 * j)))] dL_law__665 (by decide) rfl ?_
    refine tw_aload_n 3 dL_law__667 rfl rfl ?_
    refine tw_aload_n 1 dL_law__668 rfl rfl ?_
    refine tw_iload 5 dL_law__669 rfl ?_
    refine tw_iconst (v := 1) dL_law__671 (by decide) ?_
    refine tw_iadd dL_law__672 ?_
    refine tw_nmi (fun v97 ev97 => ?_)
    have q98 : v97 = nI (5 * j + 1) := by rw [ev97]; exact tw_s1 _
    rw [q98]
    refine tw_ti (v := .int y4) (fun _ _ z => z.xs.2.2.2.2.2) dL_law__673 (vp_in_nI (by omega) (by omega)) (congrArg Value.int ey4) ?_
    refine tw_aload_n 1 dL_law__674 rfl rfl ?_
    refine tw_iload 5 dL_law__675 rfl ?_
    refine tw_iconst (v := 2) dL_law__677 (by decide) ?_
    refine tw_iadd dL_law__678 ?_
    refine tw_nmi (fun v99 ev99 => ?_)
    have q100 : v99 = nI (5 * j + 2) := by rw [ev99]; exact tw_s2 _
    rw [q100]
    refine tw_ti (v := .int y7) (fun _ _ z => z.xs.2.2.2.2.2) dL_law__679 (vp_in_nI (by omega) (by omega)) (congrArg Value.int ey7) ?_
    obtain ⟨e101, f102, th_103, td_104, ds_105, fr_106, ca_107, us_108, wo_109, cm_110, lc_111, lh_112, ld_113, rfl, k114, k115, k116, k117, k118, k119, k120, k121, k122, k123, k124, k125, k126, k127, k128, k129, k130, k131, k132, k133, k134, k135⟩ := (tw_sp.rf q8s.1).1 m 36 km1 (by decide)
    refine tw_bi (tw_callV (M := mL_law_) (pc := 680) okX10_send dL_law__680 w_1374 rfl f102 [.int y4, .int y7] [] rfl rfl ⟨by decide, by decide⟩ (Nat.le_of_ble_eq_true rfl) (c2_X10_send d g τc h9 (tw_sp.rf q8s.1).1 m km1 y4 y7 o ko1 (ok.2.1.am5 (by omega)) ok.2.1.em5) ((c + 900) - 20) ((n + 5000) - 120) (by omega) (by omega)) (fun r138 h137 q136 => ?_) (fun E h1 q => q.elim)
    obtain ⟨g9, τ9, s9, oq9, q136a⟩ := q136
    have kx2 := s9.2.1.k kx1 (by decide)
    have km2 := s9.2.1.k km1 (by decide)
    have ko2 := s9.2.1.k ko1 (by decide)
    have q8cI3 : (tw_ix (g.2 4) y4 ∧ tw_ix (g.2 3) y7) := by rw [← ok.2.1.c7, ← ok.2.1.c6]; exact q8cI
    have q8cL3 : ¬ (tw_MS g (tw_DN y4) y7) := fun z => q8cL ((tw_Q_send ok.2.1 tw_sc.rf q8cI).mpr z)
    rcases q136a with ⟨z, -⟩ | ⟨-, -, ht, eg9⟩ | ⟨-, z, -⟩
    · exact absurd q8cI3 z
    · rw [eg9] at s9
      have ok9 : tw_ok5 d x m o (100000 * j) g τ9 h137 := ⟨s9.1, ok.2.1, kx2, km2, ko2, ok.2.2.2.2.2⟩
      have sp139 := tw_sp.rf ok9.1
      refine tw_istore [(6, .int r138), (5, .int 2), (0, .ref (d.2 98)), (1, .ref x), (2, .ref m), (3, .ref o), (4, .int (nI (5 * j)))] dL_law__683 (by decide) rfl ?_
      refine tw_goto 1362 dL_law__685 (by decide) ?_
      refine tw_lv [2, 3, 4, 5, 6] rfl ?_
      refine tw_less (c2 := c) (n2 := n) (by omega) (by omega) ?_
      exact J _ _ _ (ok9.up (by omega))
    · exact absurd z q8cL3

set_option maxHeartbeats 4000000 in
set_option maxRecDepth 100000 in
theorem law_case_10 (d : tw_D) (x m o j c n : Nat) (Q : tw_O → tw_H → Prop) (hL : d.2 97 ≤ 2560) (hj : 5 * j + 5 ≤ d.2 97) (J : tw_J d x m o j Q c n) (g : tw_G) (τ : tw_K) (h : tw_H) (ok : tw_ok5 d x m o (100000 * j) g τ h) : tw_W d mL_law_ Q 688 (tw_lv5 d x m o j) [] h (c + 900) (n + 5000) := by
  show tw_W d mL_law_ Q 688 [(0, .ref (d.2 98)), (1, .ref x), (2, .ref m), (3, .ref o), (4, .int (nI (5 * j)))] [] h (c + 900) (n + 5000)
  have sp1 := tw_sp.rf ok.1
  refine tw_aload_n 1 dL_law__688 rfl rfl ?_
  refine tw_aload_n 0 dL_law__689 rfl rfl ?_
  refine tw_iload 4 dL_law__690 rfl ?_
  refine tw_iconst (v := 1) dL_law__692 (by decide) ?_
  refine tw_iadd dL_law__693 ?_
  refine tw_nmi (fun v2 ev2 => ?_)
  have q3 : v2 = nI (5 * j + 1) := by rw [ev2]; exact tw_s1 _
  rw [q3]
  obtain ⟨y4, ey4⟩ : ∃ y : Int32, Int32.ofNat (d.2 (1000 + (nI (5 * j + 1)).toNatClampNeg)) = y := ⟨_, rfl⟩
  refine tw_ti (v := .int y4) (fun _ _ z => z.xs.2.2.2.2.2) dL_law__694 (vp_in_nI (by omega) (by omega)) (congrArg Value.int ey4) ?_
  refine tw_aload_n 3 dL_law__695 rfl rfl ?_
  refine tw_bi (tw_callSH (M := mL_law_) (pc := 696) okL_pass dL_law__696 w_687 [.ref x, .int y4, .ref o] [] rfl rfl ⟨by decide, by decide⟩ (Nat.le_of_ble_eq_true rfl) (c_L_pass d g τ h sp1.1 x ok.2.2.1 y4 o ok.2.2.2.2.1) ((c + 900) - 20) ((n + 5000) - 120) (by omega) (by omega)) (fun r7 h6 q5 => ?_) (fun E h1 q => q.elim)
  rcases q5 with ⟨q5e, q5cR, q5cL, q5n, τc, q5s⟩ | ⟨q5e, q5cR, τc, q5s⟩ | ⟨q5e, q5cR, q5cL, τc, q5s⟩
  · rw [q5e]
    have h49 := (tw_b678 ok.1 ok.2.2.1).1
    obtain ⟨gL, egL⟩ : ∃ z : tw_G, z = (tw_dsC g (tw_DN y4)) := ⟨_, rfl⟩
    rw [← egL] at q5s
    have gl3 : gL.2 3 = g.2 3 := by rw [egL]; exact congrFun (tw_dsC_2 _ _) _
    have gl4 : gL.2 4 = g.2 4 := by rw [egL]; exact congrFun (tw_dsC_2 _ _) _
    have gl5 : gL.2 5 = g.2 5 := by rw [egL]; exact congrFun (tw_dsC_2 _ _) _
    have gl9 : gL.2 9 = g.2 9 := by rw [egL]; exact congrFun (tw_dsC_2 _ _) _
    have gl22 : gL.2 22 = g.2 22 := by rw [egL]; exact congrFun (tw_dsC_2 _ _) _
    have sc5 : tw_sc g gL := tw_S_pass (tw_b678 ok.1 ok.2.2.1).1 (tw_b678 ok.1 ok.2.2.1).2.1 egL
    have kx1 := q5s.2.1.k ok.2.2.1 (by decide)
    have km1 := q5s.2.1.k ok.2.2.2.1 (by decide)
    have ko1 := q5s.2.1.k ok.2.2.2.2.1 (by decide)
    refine tw_istore [(5, .int 0), (0, .ref (d.2 98)), (1, .ref x), (2, .ref m), (3, .ref o), (4, .int (nI (5 * j)))] dL_law__699 (by decide) rfl ?_
    refine tw_aload_n 3 dL_law__701 rfl rfl ?_
    refine tw_aload_n 1 dL_law__702 rfl rfl ?_
    refine tw_iload 5 dL_law__703 rfl ?_
    refine tw_iconst (v := 1) dL_law__705 (by decide) ?_
    refine tw_iadd dL_law__706 ?_
    refine tw_nmi (fun v8 ev8 => ?_)
    have q9 : v8 = nI (5 * j + 1) := by rw [ev8]; exact tw_s1 _
    rw [q9]
    refine tw_ti (v := .int y4) (fun _ _ z => z.xs.2.2.2.2.2) dL_law__707 (vp_in_nI (by omega) (by omega)) (congrArg Value.int ey4) ?_
    obtain ⟨e10, f11, th_12, td_13, ds_14, fr_15, ca_16, us_17, wo_18, cm_19, lc_20, lh_21, ld_22, rfl, k23, k24, k25, k26, k27, k28, k29, k30, k31, k32, k33, k34, k35, k36, k37, k38, k39, k40, k41, k42, k43, k44⟩ := (tw_sp.rf q5s.1).1 m 36 km1 (by decide)
    refine tw_bi (tw_callV (M := mL_law_) (pc := 708) okX10_pass dL_law__708 w_1378 rfl f11 [.int y4] [] rfl rfl ⟨by decide, by decide⟩ (Nat.le_of_ble_eq_true rfl) (c2_X10_pass d gL τc h6 (tw_sp.rf q5s.1).1 m km1 y4 o ko1 ((ok.2.1.am5 (by omega)).sc sc5)) (((c + 900) - 20) - 802) (((n + 5000) - 120) - 3208) (by omega) (by omega)) (fun r47 h46 q45 => ?_) (fun E h1 q => q.elim)
    obtain ⟨g9, τ9, s9, oq9, q45a⟩ := q45
    have kx2 := s9.2.1.k kx1 (by decide)
    have km2 := s9.2.1.k km1 (by decide)
    have ko2 := s9.2.1.k ko1 (by decide)
    have q5cL3 : gL.2 22 + tw_DN y4 ≤ 3000 := by rw [gl22, ← ok.2.1.2.2.2.2.2.2.1]; exact q5cL
    rcases q45a with ⟨z, -⟩ | ⟨-, z, -⟩ | ⟨-, -, hr2, ht, gk9⟩
    · exact absurd q5cR z
    · exact absurd q5cL3 z
    · rw [hr2]
      have ok9 : tw_ok5 d x m o (100000 * j) g9 τ9 h46 := ⟨s9.1, (ok.2.1.pass (by omega) q5cL egL gk9), kx2, km2, ko2, (ok.2.2.2.2.2.cg (tw_M_pass h49 (tw_b678 ok.1 ok.2.2.1).2.1 (by rw [gl3]; exact ok.2.1.bd.1) (by rw [gl4]; exact ok.2.1.bd.2.1) egL gk9))⟩
      have hlg : tw_lg (h46 o) = (nI (g.2 21 + tw_DN y4)).toInt64 := by rw [oq9]; exact q5n
      have sp48 := tw_sp.rf ok9.1
      refine tw_istore [(6, .int (nI (gL.2 22 + tw_DN y4))), (5, .int 0), (0, .ref (d.2 98)), (1, .ref x), (2, .ref m), (3, .ref o), (4, .int (nI (5 * j)))] dL_law__711 (by decide) rfl ?_
      refine tw_goto 1362 dL_law__713 (by decide) ?_
      refine tw_lv [2, 3, 4, 5, 6] rfl ?_
      refine tw_less (c2 := c) (n2 := n) (by omega) (by omega) ?_
      exact J _ _ _ (ok9.up (by omega))
  · rw [q5e]
    have h49 := (tw_b678 ok.1 ok.2.2.1).1
    have kx1 := q5s.2.1.k ok.2.2.1 (by decide)
    have km1 := q5s.2.1.k ok.2.2.2.1 (by decide)
    have ko1 := q5s.2.1.k ok.2.2.2.2.1 (by decide)
    refine tw_istore [(5, .int 1), (0, .ref (d.2 98)), (1, .ref x), (2, .ref m), (3, .ref o), (4, .int (nI (5 * j)))] dL_law__699 (by decide) rfl ?_
    refine tw_aload_n 3 dL_law__701 rfl rfl ?_
    refine tw_aload_n 1 dL_law__702 rfl rfl ?_
    refine tw_iload 5 dL_law__703 rfl ?_
    refine tw_iconst (v := 1) dL_law__705 (by decide) ?_
    refine tw_iadd dL_law__706 ?_
    refine tw_nmi (fun v49 ev49 => ?_)
    have q50 : v49 = nI (5 * j + 1) := by rw [ev49]; exact tw_s1 _
    rw [q50]
    refine tw_ti (v := .int y4) (fun _ _ z => z.xs.2.2.2.2.2) dL_law__707 (vp_in_nI (by omega) (by omega)) (congrArg Value.int ey4) ?_
    obtain ⟨e51, f52, th_53, td_54, ds_55, fr_56, ca_57, us_58, wo_59, cm_60, lc_61, lh_62, ld_63, rfl, k64, k65, k66, k67, k68, k69, k70, k71, k72, k73, k74, k75, k76, k77, k78, k79, k80, k81, k82, k83, k84, k85⟩ := (tw_sp.rf q5s.1).1 m 36 km1 (by decide)
    refine tw_bi (tw_callV (M := mL_law_) (pc := 708) okX10_pass dL_law__708 w_1378 rfl f52 [.int y4] [] rfl rfl ⟨by decide, by decide⟩ (Nat.le_of_ble_eq_true rfl) (c2_X10_pass d g τc h6 (tw_sp.rf q5s.1).1 m km1 y4 o ko1 (ok.2.1.am5 (by omega))) (((c + 900) - 20) - 802) (((n + 5000) - 120) - 3208) (by omega) (by omega)) (fun r88 h87 q86 => ?_) (fun E h1 q => q.elim)
    obtain ⟨g9, τ9, s9, oq9, q86a⟩ := q86
    have kx2 := s9.2.1.k kx1 (by decide)
    have km2 := s9.2.1.k km1 (by decide)
    have ko2 := s9.2.1.k ko1 (by decide)
    rcases q86a with ⟨-, ht, eg9⟩ | ⟨z, -⟩ | ⟨z, -⟩
    · rw [eg9] at s9
      have ok9 : tw_ok5 d x m o (100000 * j) g τ9 h87 := ⟨s9.1, ok.2.1, kx2, km2, ko2, ok.2.2.2.2.2⟩
      have sp89 := tw_sp.rf ok9.1
      refine tw_istore [(6, .int r88), (5, .int 1), (0, .ref (d.2 98)), (1, .ref x), (2, .ref m), (3, .ref o), (4, .int (nI (5 * j)))] dL_law__711 (by decide) rfl ?_
      refine tw_goto 1362 dL_law__713 (by decide) ?_
      refine tw_lv [2, 3, 4, 5, 6] rfl ?_
      refine tw_less (c2 := c) (n2 := n) (by omega) (by omega) ?_
      exact J _ _ _ (ok9.up (by omega))
    · exact absurd z q5cR
    · exact absurd z q5cR
  · rw [q5e]
    have h49 := (tw_b678 ok.1 ok.2.2.1).1
    have kx1 := q5s.2.1.k ok.2.2.1 (by decide)
    have km1 := q5s.2.1.k ok.2.2.2.1 (by decide)
    have ko1 := q5s.2.1.k ok.2.2.2.2.1 (by decide)
    refine tw_istore [(5, .int 2), (0, .ref (d.2 98)), (1, .ref x), (2, .ref m), (3, .ref o), (4, .int (nI (5 * j)))] dL_law__699 (by decide) rfl ?_
    refine tw_aload_n 3 dL_law__701 rfl rfl ?_
    refine tw_aload_n 1 dL_law__702 rfl rfl ?_
    refine tw_iload 5 dL_law__703 rfl ?_
    refine tw_iconst (v := 1) dL_law__705 (by decide) ?_
    refine tw_iadd dL_law__706 ?_
    refine tw_nmi (fun v90 ev90 => ?_)
    have q91 : v90 = nI (5 * j + 1) := by rw [ev90]; exact tw_s1 _
    rw [q91]
    refine tw_ti (v := .int y4) (fun _ _ z => z.xs.2.2.2.2.2) dL_law__707 (vp_in_nI (by omega) (by omega)) (congrArg Value.int ey4) ?_
    obtain ⟨e92, f93, th_94, td_95, ds_96, fr_97, ca_98, us_99, wo_100, cm_101, lc_102, lh_103, ld_104, rfl, k105, k106, k107, k108, k109, k110, k111, k112, k113, k114, k115, k116, k117, k118, k119, k120, k121, k122, k123, k124, k125, k126⟩ := (tw_sp.rf q5s.1).1 m 36 km1 (by decide)
    refine tw_bi (tw_callV (M := mL_law_) (pc := 708) okX10_pass dL_law__708 w_1378 rfl f93 [.int y4] [] rfl rfl ⟨by decide, by decide⟩ (Nat.le_of_ble_eq_true rfl) (c2_X10_pass d g τc h6 (tw_sp.rf q5s.1).1 m km1 y4 o ko1 (ok.2.1.am5 (by omega))) (((c + 900) - 20) - 802) (((n + 5000) - 120) - 3208) (by omega) (by omega)) (fun r129 h128 q127 => ?_) (fun E h1 q => q.elim)
    obtain ⟨g9, τ9, s9, oq9, q127a⟩ := q127
    have kx2 := s9.2.1.k kx1 (by decide)
    have km2 := s9.2.1.k km1 (by decide)
    have ko2 := s9.2.1.k ko1 (by decide)
    have q5cL3 : ¬ g.2 22 + tw_DN y4 ≤ 3000 := by rw [← ok.2.1.2.2.2.2.2.2.1]; exact q5cL
    rcases q127a with ⟨z, -⟩ | ⟨-, -, ht, eg9⟩ | ⟨-, z, -⟩
    · exact absurd q5cR z
    · rw [eg9] at s9
      have ok9 : tw_ok5 d x m o (100000 * j) g τ9 h128 := ⟨s9.1, ok.2.1, kx2, km2, ko2, ok.2.2.2.2.2⟩
      have sp130 := tw_sp.rf ok9.1
      refine tw_istore [(6, .int r129), (5, .int 2), (0, .ref (d.2 98)), (1, .ref x), (2, .ref m), (3, .ref o), (4, .int (nI (5 * j)))] dL_law__711 (by decide) rfl ?_
      refine tw_goto 1362 dL_law__713 (by decide) ?_
      refine tw_lv [2, 3, 4, 5, 6] rfl ?_
      refine tw_less (c2 := c) (n2 := n) (by omega) (by omega) ?_
      exact J _ _ _ (ok9.up (by omega))
    · exact absurd z q5cL3

set_option maxHeartbeats 4000000 in
set_option maxRecDepth 100000 in
theorem law_case_11 (d : tw_D) (x m o j c n : Nat) (Q : tw_O → tw_H → Prop) (hL : d.2 97 ≤ 2560) (hj : 5 * j + 5 ≤ d.2 97) (J : tw_J d x m o j Q c n) (g : tw_G) (τ : tw_K) (h : tw_H) (ok : tw_ok5 d x m o (100000 * j) g τ h) : tw_W d mL_law_ Q 716 (tw_lv5 d x m o j) [] h (c + 900) (n + 5000) := by
  show tw_W d mL_law_ Q 716 [(0, .ref (d.2 98)), (1, .ref x), (2, .ref m), (3, .ref o), (4, .int (nI (5 * j)))] [] h (c + 900) (n + 5000)
  have sp1 := tw_sp.rf ok.1
  refine tw_aload_n 1 dL_law__716 rfl rfl ?_
  refine tw_aload_n 0 dL_law__717 rfl rfl ?_
  refine tw_iload 4 dL_law__718 rfl ?_
  refine tw_iconst (v := 1) dL_law__720 (by decide) ?_
  refine tw_iadd dL_law__721 ?_
  refine tw_nmi (fun v2 ev2 => ?_)
  have q3 : v2 = nI (5 * j + 1) := by rw [ev2]; exact tw_s1 _
  rw [q3]
  obtain ⟨y4, ey4⟩ : ∃ y : Int32, Int32.ofNat (d.2 (1000 + (nI (5 * j + 1)).toNatClampNeg)) = y := ⟨_, rfl⟩
  refine tw_ti (v := .int y4) (fun _ _ z => z.xs.2.2.2.2.2) dL_law__722 (vp_in_nI (by omega) (by omega)) (congrArg Value.int ey4) ?_
  refine tw_aload_n 0 dL_law__723 rfl rfl ?_
  refine tw_iload 4 dL_law__724 rfl ?_
  refine tw_iconst (v := 2) dL_law__726 (by decide) ?_
  refine tw_iadd dL_law__727 ?_
  refine tw_nmi (fun v5 ev5 => ?_)
  have q6 : v5 = nI (5 * j + 2) := by rw [ev5]; exact tw_s2 _
  rw [q6]
  obtain ⟨y7, ey7⟩ : ∃ y : Int32, Int32.ofNat (d.2 (1000 + (nI (5 * j + 2)).toNatClampNeg)) = y := ⟨_, rfl⟩
  refine tw_ti (v := .int y7) (fun _ _ z => z.xs.2.2.2.2.2) dL_law__728 (vp_in_nI (by omega) (by omega)) (congrArg Value.int ey7) ?_
  refine tw_aload_n 0 dL_law__729 rfl rfl ?_
  refine tw_iload 4 dL_law__730 rfl ?_
  refine tw_iconst (v := 3) dL_law__732 (by decide) ?_
  refine tw_iadd dL_law__733 ?_
  refine tw_nmi (fun v8 ev8 => ?_)
  have q9 : v8 = nI (5 * j + 3) := by rw [ev8]; exact tw_s3 _
  rw [q9]
  obtain ⟨y10, ey10⟩ : ∃ y : Int32, Int32.ofNat (d.2 (1000 + (nI (5 * j + 3)).toNatClampNeg)) = y := ⟨_, rfl⟩
  refine tw_ti (v := .int y10) (fun _ _ z => z.xs.2.2.2.2.2) dL_law__734 (vp_in_nI (by omega) (by omega)) (congrArg Value.int ey10) ?_
  refine tw_aload_n 0 dL_law__735 rfl rfl ?_
  refine tw_iload 4 dL_law__736 rfl ?_
  refine tw_iconst (v := 4) dL_law__738 (by decide) ?_
  refine tw_iadd dL_law__739 ?_
  refine tw_nmi (fun v11 ev11 => ?_)
  have q12 : v11 = nI (5 * j + 4) := by rw [ev11]; exact tw_s4 _
  rw [q12]
  obtain ⟨y13, ey13⟩ : ∃ y : Int32, Int32.ofNat (d.2 (1000 + (nI (5 * j + 4)).toNatClampNeg)) = y := ⟨_, rfl⟩
  refine tw_ti (v := .int y13) (fun _ _ z => z.xs.2.2.2.2.2) dL_law__740 (vp_in_nI (by omega) (by omega)) (congrArg Value.int ey13) ?_
  refine tw_aload_n 3 dL_law__741 rfl rfl ?_
  refine tw_bi (tw_callSH (M := mL_law_) (pc := 742) okL_owe dL_law__742 w_707 [.ref x, .int y4, .int y7, .int y10, .int y13, .ref o] [] rfl rfl ⟨by decide, by decide⟩ (Nat.le_of_ble_eq_true rfl) (c_L_owe d g τ h sp1.1 x ok.2.2.1 y4 y7 y10 y13 o ok.2.2.2.2.1 ok.2.1.2.2.2.2.2.1 ok.2.1.fr.2.2.1) ((c + 900) - 20) ((n + 5000) - 120) (by omega) (by omega)) (fun r16 h15 q14 => ?_) (fun E h1 q => q.elim)
  rcases q14 with ⟨q14e, q14cI, q14cR, q14cL, q14n, y9, τc, q14s⟩ | ⟨q14e, q14cI, τc, q14s⟩ | ⟨q14e, q14cI, q14cR, τc, q14s⟩ | ⟨q14e, q14cI, q14cR, q14cL, τc, q14s⟩
  · rw [q14e]
    have h49 := (tw_b678 ok.1 ok.2.2.1).1
    obtain ⟨gL, egL⟩ : ∃ z : tw_G, z = (tw_gI (tw_gD g (1152 + 8 * g.2 8) y9 y10 (nI (g.2 21) + y13) y4 y7) 8 2) := ⟨_, rfl⟩
    rw [← egL] at q14s
    have gl3 : gL.2 3 = g.2 3 := by rw [egL]; exact tw_gDI_2 (by decide) (by decide) (by decide) (by decide)
    have gl4 : gL.2 4 = g.2 4 := by rw [egL]; exact tw_gDI_2 (by decide) (by decide) (by decide) (by decide)
    have gl5 : gL.2 5 = g.2 5 := by rw [egL]; exact tw_gDI_2 (by decide) (by decide) (by decide) (by decide)
    have gl9 : gL.2 9 = g.2 9 := by rw [egL]; exact tw_gDI_2 (by decide) (by decide) (by decide) (by decide)
    have gl22 : gL.2 22 = g.2 22 := by rw [egL]; exact tw_gDI_2 (by decide) (by decide) (by decide) (by decide)
    have gl133 : gL.2 133 = g.2 133 := by rw [egL]; exact tw_gDI_2 (by decide) (by decide) (by decide) (by decide)
    have sc5 : tw_sc g gL := tw_S_owe (by rw [ok.2.1.c8, ← ok.2.1.2.2.1]; exact q14cL) egL
    have kx1 := q14s.2.1.k ok.2.2.1 (by decide)
    have km1 := q14s.2.1.k ok.2.2.2.1 (by decide)
    have ko1 := q14s.2.1.k ok.2.2.2.2.1 (by decide)
    refine tw_istore [(5, .int 0), (0, .ref (d.2 98)), (1, .ref x), (2, .ref m), (3, .ref o), (4, .int (nI (5 * j)))] dL_law__745 (by decide) rfl ?_
    refine tw_aload_n 3 dL_law__747 rfl rfl ?_
    refine tw_aload_n 1 dL_law__748 rfl rfl ?_
    refine tw_iload 5 dL_law__749 rfl ?_
    refine tw_iconst (v := 1) dL_law__751 (by decide) ?_
    refine tw_iadd dL_law__752 ?_
    refine tw_nmi (fun v17 ev17 => ?_)
    have q18 : v17 = nI (5 * j + 1) := by rw [ev17]; exact tw_s1 _
    rw [q18]
    refine tw_ti (v := .int y4) (fun _ _ z => z.xs.2.2.2.2.2) dL_law__753 (vp_in_nI (by omega) (by omega)) (congrArg Value.int ey4) ?_
    refine tw_aload_n 1 dL_law__754 rfl rfl ?_
    refine tw_iload 5 dL_law__755 rfl ?_
    refine tw_iconst (v := 2) dL_law__757 (by decide) ?_
    refine tw_iadd dL_law__758 ?_
    refine tw_nmi (fun v19 ev19 => ?_)
    have q20 : v19 = nI (5 * j + 2) := by rw [ev19]; exact tw_s2 _
    rw [q20]
    refine tw_ti (v := .int y7) (fun _ _ z => z.xs.2.2.2.2.2) dL_law__759 (vp_in_nI (by omega) (by omega)) (congrArg Value.int ey7) ?_
    refine tw_aload_n 1 dL_law__760 rfl rfl ?_
    refine tw_iload 5 dL_law__761 rfl ?_
    refine tw_iconst (v := 3) dL_law__763 (by decide) ?_
    refine tw_iadd dL_law__764 ?_
    refine tw_nmi (fun v21 ev21 => ?_)
    have q22 : v21 = nI (5 * j + 3) := by rw [ev21]; exact tw_s3 _
    rw [q22]
    refine tw_ti (v := .int y10) (fun _ _ z => z.xs.2.2.2.2.2) dL_law__765 (vp_in_nI (by omega) (by omega)) (congrArg Value.int ey10) ?_
    refine tw_aload_n 1 dL_law__766 rfl rfl ?_
    refine tw_iload 5 dL_law__767 rfl ?_
    refine tw_iconst (v := 4) dL_law__769 (by decide) ?_
    refine tw_iadd dL_law__770 ?_
    refine tw_nmi (fun v23 ev23 => ?_)
    have q24 : v23 = nI (5 * j + 4) := by rw [ev23]; exact tw_s4 _
    rw [q24]
    refine tw_ti (v := .int y13) (fun _ _ z => z.xs.2.2.2.2.2) dL_law__771 (vp_in_nI (by omega) (by omega)) (congrArg Value.int ey13) ?_
    obtain ⟨e25, f26, th_27, td_28, ds_29, fr_30, ca_31, us_32, wo_33, cm_34, lc_35, lh_36, ld_37, rfl, k38, k39, k40, k41, k42, k43, k44, k45, k46, k47, k48, k49, k50, k51, k52, k53, k54, k55, k56, k57, k58, k59⟩ := (tw_sp.rf q14s.1).1 m 36 km1 (by decide)
    refine tw_bi (tw_callV (M := mL_law_) (pc := 772) okX10_owe dL_law__772 w_1429 rfl f26 [.int y4, .int y7, .int y10, .int y13] [] rfl rfl ⟨by decide, by decide⟩ (Nat.le_of_ble_eq_true rfl) (c2_X10_owe d gL τc h15 (tw_sp.rf q14s.1).1 m km1 y4 y7 y10 y13 o ko1 (by rw [gl133, gl5]; exact ok.2.1.fr.2.2.2)) (((c + 900) - 20) - 10) (((n + 5000) - 120) - 60) (by omega) (by omega)) (fun r62 h61 q60 => ?_) (fun E h1 q => q.elim)
    obtain ⟨g9, τ9, s9, oq9, q60a⟩ := q60
    have kx2 := s9.2.1.k kx1 (by decide)
    have km2 := s9.2.1.k km1 (by decide)
    have ko2 := s9.2.1.k ko1 (by decide)
    have q14cI3 : (tw_ix (gL.2 4) y4 ∧ tw_ix (gL.2 4) y7) := by rw [gl4, ← ok.2.1.2.2.2.2.1.trans ok.2.1.2.1]; exact q14cI
    have q14cL3 : gL.2 5 < 10 := by rw [gl5, ← ok.2.1.2.2.1]; exact q14cL
    rcases q60a with ⟨z, -⟩ | ⟨-, z, -⟩ | ⟨-, -, z, -⟩ | ⟨-, -, -, hr2, ht, gk9⟩
    · exact absurd q14cI3 z
    · exact absurd q14cR z
    · exact absurd q14cL3 z
    · rw [hr2]
      have ok9 : tw_ok5 d x m o (100000 * j) g9 τ9 h61 := ⟨s9.1, (ok.2.1.owe q14cI q14cR q14cL egL gk9), kx2, km2, ko2, (ok.2.2.2.2.2.cg (tw_M_owe egL gk9))⟩
      have hlg : tw_lg (h61 o) = (nI (g.2 2)).toInt64 := by rw [oq9]; exact q14n
      have sp63 := tw_sp.rf ok9.1
      refine tw_istore [(6, .int (nI (gL.2 5))), (5, .int 0), (0, .ref (d.2 98)), (1, .ref x), (2, .ref m), (3, .ref o), (4, .int (nI (5 * j)))] dL_law__775 (by decide) rfl ?_
      refine tw_goto 1362 dL_law__777 (by decide) ?_
      refine tw_lv [2, 3, 4, 5, 6] rfl ?_
      refine tw_less (c2 := c) (n2 := n) (by omega) (by omega) ?_
      exact J _ _ _ (ok9.up (by omega))
  · rw [q14e]
    have h49 := (tw_b678 ok.1 ok.2.2.1).1
    have kx1 := q14s.2.1.k ok.2.2.1 (by decide)
    have km1 := q14s.2.1.k ok.2.2.2.1 (by decide)
    have ko1 := q14s.2.1.k ok.2.2.2.2.1 (by decide)
    refine tw_istore [(5, .int 1), (0, .ref (d.2 98)), (1, .ref x), (2, .ref m), (3, .ref o), (4, .int (nI (5 * j)))] dL_law__745 (by decide) rfl ?_
    refine tw_aload_n 3 dL_law__747 rfl rfl ?_
    refine tw_aload_n 1 dL_law__748 rfl rfl ?_
    refine tw_iload 5 dL_law__749 rfl ?_
    refine tw_iconst (v := 1) dL_law__751 (by decide) ?_
    refine tw_iadd dL_law__752 ?_
    refine tw_nmi (fun v64 ev64 => ?_)
    have q65 : v64 = nI (5 * j + 1) := by rw [ev64]; exact tw_s1 _
    rw [q65]
    refine tw_ti (v := .int y4) (fun _ _ z => z.xs.2.2.2.2.2) dL_law__753 (vp_in_nI (by omega) (by omega)) (congrArg Value.int ey4) ?_
    refine tw_aload_n 1 dL_law__754 rfl rfl ?_
    refine tw_iload 5 dL_law__755 rfl ?_
    refine tw_iconst (v := 2) dL_law__757 (by decide) ?_
    refine tw_iadd dL_law__758 ?_
    refine tw_nmi (fun v66 ev66 => ?_)
    have q67 : v66 = nI (5 * j + 2) := by rw [ev66]; exact tw_s2 _
    rw [q67]
    refine tw_ti (v := .int y7) (fun _ _ z => z.xs.2.2.2.2.2) dL_law__759 (vp_in_nI (by omega) (by omega)) (congrArg Value.int ey7) ?_
    refine tw_aload_n 1 dL_law__760 rfl rfl ?_
    refine tw_iload 5 dL_law__761 rfl ?_
    refine tw_iconst (v := 3) dL_law__763 (by decide) ?_
    refine tw_iadd dL_law__764 ?_
    refine tw_nmi (fun v68 ev68 => ?_)
    have q69 : v68 = nI (5 * j + 3) := by rw [ev68]; exact tw_s3 _
    rw [q69]
    refine tw_ti (v := .int y10) (fun _ _ z => z.xs.2.2.2.2.2) dL_law__765 (vp_in_nI (by omega) (by omega)) (congrArg Value.int ey10) ?_
    refine tw_aload_n 1 dL_law__766 rfl rfl ?_
    refine tw_iload 5 dL_law__767 rfl ?_
    refine tw_iconst (v := 4) dL_law__769 (by decide) ?_
    refine tw_iadd dL_law__770 ?_
    refine tw_nmi (fun v70 ev70 => ?_)
    have q71 : v70 = nI (5 * j + 4) := by rw [ev70]; exact tw_s4 _
    rw [q71]
    refine tw_ti (v := .int y13) (fun _ _ z => z.xs.2.2.2.2.2) dL_law__771 (vp_in_nI (by omega) (by omega)) (congrArg Value.int ey13) ?_
    obtain ⟨e72, f73, th_74, td_75, ds_76, fr_77, ca_78, us_79, wo_80, cm_81, lc_82, lh_83, ld_84, rfl, k85, k86, k87, k88, k89, k90, k91, k92, k93, k94, k95, k96, k97, k98, k99, k100, k101, k102, k103, k104, k105, k106⟩ := (tw_sp.rf q14s.1).1 m 36 km1 (by decide)
    refine tw_bi (tw_callV (M := mL_law_) (pc := 772) okX10_owe dL_law__772 w_1429 rfl f73 [.int y4, .int y7, .int y10, .int y13] [] rfl rfl ⟨by decide, by decide⟩ (Nat.le_of_ble_eq_true rfl) (c2_X10_owe d g τc h15 (tw_sp.rf q14s.1).1 m km1 y4 y7 y10 y13 o ko1 (by exact ok.2.1.fr.2.2.2)) (((c + 900) - 20) - 10) (((n + 5000) - 120) - 60) (by omega) (by omega)) (fun r109 h108 q107 => ?_) (fun E h1 q => q.elim)
    obtain ⟨g9, τ9, s9, oq9, q107a⟩ := q107
    have kx2 := s9.2.1.k kx1 (by decide)
    have km2 := s9.2.1.k km1 (by decide)
    have ko2 := s9.2.1.k ko1 (by decide)
    have q14cI3 : ¬ (tw_ix (g.2 4) y4 ∧ tw_ix (g.2 4) y7) := by rw [← ok.2.1.2.2.2.2.1.trans ok.2.1.2.1]; exact q14cI
    rcases q107a with ⟨-, ht, eg9⟩ | ⟨z, -⟩ | ⟨z, -⟩ | ⟨z, -⟩
    · rw [eg9] at s9
      have ok9 : tw_ok5 d x m o (100000 * j) g τ9 h108 := ⟨s9.1, ok.2.1, kx2, km2, ko2, ok.2.2.2.2.2⟩
      have sp110 := tw_sp.rf ok9.1
      refine tw_istore [(6, .int r109), (5, .int 1), (0, .ref (d.2 98)), (1, .ref x), (2, .ref m), (3, .ref o), (4, .int (nI (5 * j)))] dL_law__775 (by decide) rfl ?_
      refine tw_goto 1362 dL_law__777 (by decide) ?_
      refine tw_lv [2, 3, 4, 5, 6] rfl ?_
      refine tw_less (c2 := c) (n2 := n) (by omega) (by omega) ?_
      exact J _ _ _ (ok9.up (by omega))
    · exact absurd z q14cI3
    · exact absurd z q14cI3
    · exact absurd z q14cI3
  · rw [q14e]
    have h49 := (tw_b678 ok.1 ok.2.2.1).1
    have kx1 := q14s.2.1.k ok.2.2.1 (by decide)
    have km1 := q14s.2.1.k ok.2.2.2.1 (by decide)
    have ko1 := q14s.2.1.k ok.2.2.2.2.1 (by decide)
    refine tw_istore [(5, .int 2), (0, .ref (d.2 98)), (1, .ref x), (2, .ref m), (3, .ref o), (4, .int (nI (5 * j)))] dL_law__745 (by decide) rfl ?_
    refine tw_aload_n 3 dL_law__747 rfl rfl ?_
    refine tw_aload_n 1 dL_law__748 rfl rfl ?_
    refine tw_iload 5 dL_law__749 rfl ?_
    refine tw_iconst (v := 1) dL_law__751 (by decide) ?_
    refine tw_iadd dL_law__752 ?_
    refine tw_nmi (fun v111 ev111 => ?_)
    have q112 : v111 = nI (5 * j + 1) := by rw [ev111]; exact tw_s1 _
    rw [q112]
    refine tw_ti (v := .int y4) (fun _ _ z => z.xs.2.2.2.2.2) dL_law__753 (vp_in_nI (by omega) (by omega)) (congrArg Value.int ey4) ?_
    refine tw_aload_n 1 dL_law__754 rfl rfl ?_
    refine tw_iload 5 dL_law__755 rfl ?_
    refine tw_iconst (v := 2) dL_law__757 (by decide) ?_
    refine tw_iadd dL_law__758 ?_
    refine tw_nmi (fun v113 ev113 => ?_)
    have q114 : v113 = nI (5 * j + 2) := by rw [ev113]; exact tw_s2 _
    rw [q114]
    refine tw_ti (v := .int y7) (fun _ _ z => z.xs.2.2.2.2.2) dL_law__759 (vp_in_nI (by omega) (by omega)) (congrArg Value.int ey7) ?_
    refine tw_aload_n 1 dL_law__760 rfl rfl ?_
    refine tw_iload 5 dL_law__761 rfl ?_
    refine tw_iconst (v := 3) dL_law__763 (by decide) ?_
    refine tw_iadd dL_law__764 ?_
    refine tw_nmi (fun v115 ev115 => ?_)
    have q116 : v115 = nI (5 * j + 3) := by rw [ev115]; exact tw_s3 _
    rw [q116]
    refine tw_ti (v := .int y10) (fun _ _ z => z.xs.2.2.2.2.2) dL_law__765 (vp_in_nI (by omega) (by omega)) (congrArg Value.int ey10) ?_
    refine tw_aload_n 1 dL_law__766 rfl rfl ?_
    refine tw_iload 5 dL_law__767 rfl ?_
    refine tw_iconst (v := 4) dL_law__769 (by decide) ?_
    refine tw_iadd dL_law__770 ?_
    refine tw_nmi (fun v117 ev117 => ?_)
    have q118 : v117 = nI (5 * j + 4) := by rw [ev117]; exact tw_s4 _
    rw [q118]
    refine tw_ti (v := .int y13) (fun _ _ z => z.xs.2.2.2.2.2) dL_law__771 (vp_in_nI (by omega) (by omega)) (congrArg Value.int ey13) ?_
    obtain ⟨e119, f120, th_121, td_122, ds_123, fr_124, ca_125, us_126, wo_127, cm_128, lc_129, lh_130, ld_131, rfl, k132, k133, k134, k135, k136, k137, k138, k139, k140, k141, k142, k143, k144, k145, k146, k147, k148, k149, k150, k151, k152, k153⟩ := (tw_sp.rf q14s.1).1 m 36 km1 (by decide)
    refine tw_bi (tw_callV (M := mL_law_) (pc := 772) okX10_owe dL_law__772 w_1429 rfl f120 [.int y4, .int y7, .int y10, .int y13] [] rfl rfl ⟨by decide, by decide⟩ (Nat.le_of_ble_eq_true rfl) (c2_X10_owe d g τc h15 (tw_sp.rf q14s.1).1 m km1 y4 y7 y10 y13 o ko1 (by exact ok.2.1.fr.2.2.2)) (((c + 900) - 20) - 10) (((n + 5000) - 120) - 60) (by omega) (by omega)) (fun r156 h155 q154 => ?_) (fun E h1 q => q.elim)
    obtain ⟨g9, τ9, s9, oq9, q154a⟩ := q154
    have kx2 := s9.2.1.k kx1 (by decide)
    have km2 := s9.2.1.k km1 (by decide)
    have ko2 := s9.2.1.k ko1 (by decide)
    have q14cI3 : (tw_ix (g.2 4) y4 ∧ tw_ix (g.2 4) y7) := by rw [← ok.2.1.2.2.2.2.1.trans ok.2.1.2.1]; exact q14cI
    rcases q154a with ⟨z, -⟩ | ⟨-, -, ht, eg9⟩ | ⟨-, z, -⟩ | ⟨-, z, -⟩
    · exact absurd q14cI3 z
    · rw [eg9] at s9
      have ok9 : tw_ok5 d x m o (100000 * j) g τ9 h155 := ⟨s9.1, ok.2.1, kx2, km2, ko2, ok.2.2.2.2.2⟩
      have sp157 := tw_sp.rf ok9.1
      refine tw_istore [(6, .int r156), (5, .int 2), (0, .ref (d.2 98)), (1, .ref x), (2, .ref m), (3, .ref o), (4, .int (nI (5 * j)))] dL_law__775 (by decide) rfl ?_
      refine tw_goto 1362 dL_law__777 (by decide) ?_
      refine tw_lv [2, 3, 4, 5, 6] rfl ?_
      refine tw_less (c2 := c) (n2 := n) (by omega) (by omega) ?_
      exact J _ _ _ (ok9.up (by omega))
    · exact absurd z q14cR
    · exact absurd z q14cR
  · rw [q14e]
    have h49 := (tw_b678 ok.1 ok.2.2.1).1
    have kx1 := q14s.2.1.k ok.2.2.1 (by decide)
    have km1 := q14s.2.1.k ok.2.2.2.1 (by decide)
    have ko1 := q14s.2.1.k ok.2.2.2.2.1 (by decide)
    refine tw_istore [(5, .int 3), (0, .ref (d.2 98)), (1, .ref x), (2, .ref m), (3, .ref o), (4, .int (nI (5 * j)))] dL_law__745 (by decide) rfl ?_
    refine tw_aload_n 3 dL_law__747 rfl rfl ?_
    refine tw_aload_n 1 dL_law__748 rfl rfl ?_
    refine tw_iload 5 dL_law__749 rfl ?_
    refine tw_iconst (v := 1) dL_law__751 (by decide) ?_
    refine tw_iadd dL_law__752 ?_
    refine tw_nmi (fun v158 ev158 => ?_)
    have q159 : v158 = nI (5 * j + 1) := by rw [ev158]; exact tw_s1 _
    rw [q159]
    refine tw_ti (v := .int y4) (fun _ _ z => z.xs.2.2.2.2.2) dL_law__753 (vp_in_nI (by omega) (by omega)) (congrArg Value.int ey4) ?_
    refine tw_aload_n 1 dL_law__754 rfl rfl ?_
    refine tw_iload 5 dL_law__755 rfl ?_
    refine tw_iconst (v := 2) dL_law__757 (by decide) ?_
    refine tw_iadd dL_law__758 ?_
    refine tw_nmi (fun v160 ev160 => ?_)
    have q161 : v160 = nI (5 * j + 2) := by rw [ev160]; exact tw_s2 _
    rw [q161]
    refine tw_ti (v := .int y7) (fun _ _ z => z.xs.2.2.2.2.2) dL_law__759 (vp_in_nI (by omega) (by omega)) (congrArg Value.int ey7) ?_
    refine tw_aload_n 1 dL_law__760 rfl rfl ?_
    refine tw_iload 5 dL_law__761 rfl ?_
    refine tw_iconst (v := 3) dL_law__763 (by decide) ?_
    refine tw_iadd dL_law__764 ?_
    refine tw_nmi (fun v162 ev162 => ?_)
    have q163 : v162 = nI (5 * j + 3) := by rw [ev162]; exact tw_s3 _
    rw [q163]
    refine tw_ti (v := .int y10) (fun _ _ z => z.xs.2.2.2.2.2) dL_law__765 (vp_in_nI (by omega) (by omega)) (congrArg Value.int ey10) ?_
    refine tw_aload_n 1 dL_law__766 rfl rfl ?_
    refine tw_iload 5 dL_law__767 rfl ?_
    refine tw_iconst (v := 4) dL_law__769 (by decide) ?_
    refine tw_iadd dL_law__770 ?_
    refine tw_nmi (fun v164 ev164 => ?_)
    have q165 : v164 = nI (5 * j + 4) := by rw [ev164]; exact tw_s4 _
    rw [q165]
    refine tw_ti (v := .int y13) (fun _ _ z => z.xs.2.2.2.2.2) dL_law__771 (vp_in_nI (by omega) (by omega)) (congrArg Value.int ey13) ?_
    obtain ⟨e166, f167, th_168, td_169, ds_170, fr_171, ca_172, us_173, wo_174, cm_175, lc_176, lh_177, ld_178, rfl, k179, k180, k181, k182, k183, k184, k185, k186, k187, k188, k189, k190, k191, k192, k193, k194, k195, k196, k197, k198, k199, k200⟩ := (tw_sp.rf q14s.1).1 m 36 km1 (by decide)
    refine tw_bi (tw_callV (M := mL_law_) (pc := 772) okX10_owe dL_law__772 w_1429 rfl f167 [.int y4, .int y7, .int y10, .int y13] [] rfl rfl ⟨by decide, by decide⟩ (Nat.le_of_ble_eq_true rfl) (c2_X10_owe d g τc h15 (tw_sp.rf q14s.1).1 m km1 y4 y7 y10 y13 o ko1 (by exact ok.2.1.fr.2.2.2)) (((c + 900) - 20) - 10) (((n + 5000) - 120) - 60) (by omega) (by omega)) (fun r203 h202 q201 => ?_) (fun E h1 q => q.elim)
    obtain ⟨g9, τ9, s9, oq9, q201a⟩ := q201
    have kx2 := s9.2.1.k kx1 (by decide)
    have km2 := s9.2.1.k km1 (by decide)
    have ko2 := s9.2.1.k ko1 (by decide)
    have q14cI3 : (tw_ix (g.2 4) y4 ∧ tw_ix (g.2 4) y7) := by rw [← ok.2.1.2.2.2.2.1.trans ok.2.1.2.1]; exact q14cI
    have q14cL3 : ¬ g.2 5 < 10 := by rw [← ok.2.1.2.2.1]; exact q14cL
    rcases q201a with ⟨z, -⟩ | ⟨-, z, -⟩ | ⟨-, -, -, ht, eg9⟩ | ⟨-, -, z, -⟩
    · exact absurd q14cI3 z
    · exact absurd q14cR z
    · rw [eg9] at s9
      have ok9 : tw_ok5 d x m o (100000 * j) g τ9 h202 := ⟨s9.1, ok.2.1, kx2, km2, ko2, ok.2.2.2.2.2⟩
      have sp204 := tw_sp.rf ok9.1
      refine tw_istore [(6, .int r203), (5, .int 3), (0, .ref (d.2 98)), (1, .ref x), (2, .ref m), (3, .ref o), (4, .int (nI (5 * j)))] dL_law__775 (by decide) rfl ?_
      refine tw_goto 1362 dL_law__777 (by decide) ?_
      refine tw_lv [2, 3, 4, 5, 6] rfl ?_
      refine tw_less (c2 := c) (n2 := n) (by omega) (by omega) ?_
      exact J _ _ _ (ok9.up (by omega))
    · exact absurd z q14cL3

set_option maxHeartbeats 4000000 in
set_option maxRecDepth 100000 in
theorem law_case_12 (d : tw_D) (x m o j c n : Nat) (Q : tw_O → tw_H → Prop) (hL : d.2 97 ≤ 2560) (hj : 5 * j + 5 ≤ d.2 97) (J : tw_J d x m o j Q c n) (g : tw_G) (τ : tw_K) (h : tw_H) (ok : tw_ok5 d x m o (100000 * j) g τ h) : tw_W d mL_law_ Q 780 (tw_lv5 d x m o j) [] h (c + 900) (n + 5000) := by
  show tw_W d mL_law_ Q 780 [(0, .ref (d.2 98)), (1, .ref x), (2, .ref m), (3, .ref o), (4, .int (nI (5 * j)))] [] h (c + 900) (n + 5000)
  have sp1 := tw_sp.rf ok.1
  refine tw_aload_n 1 dL_law__780 rfl rfl ?_
  refine tw_aload_n 0 dL_law__781 rfl rfl ?_
  refine tw_iload 4 dL_law__782 rfl ?_
  refine tw_iconst (v := 1) dL_law__784 (by decide) ?_
  refine tw_iadd dL_law__785 ?_
  refine tw_nmi (fun v2 ev2 => ?_)
  have q3 : v2 = nI (5 * j + 1) := by rw [ev2]; exact tw_s1 _
  rw [q3]
  obtain ⟨y4, ey4⟩ : ∃ y : Int32, Int32.ofNat (d.2 (1000 + (nI (5 * j + 1)).toNatClampNeg)) = y := ⟨_, rfl⟩
  refine tw_ti (v := .int y4) (fun _ _ z => z.xs.2.2.2.2.2) dL_law__786 (vp_in_nI (by omega) (by omega)) (congrArg Value.int ey4) ?_
  refine tw_aload_n 0 dL_law__787 rfl rfl ?_
  refine tw_iload 4 dL_law__788 rfl ?_
  refine tw_iconst (v := 2) dL_law__790 (by decide) ?_
  refine tw_iadd dL_law__791 ?_
  refine tw_nmi (fun v5 ev5 => ?_)
  have q6 : v5 = nI (5 * j + 2) := by rw [ev5]; exact tw_s2 _
  rw [q6]
  obtain ⟨y7, ey7⟩ : ∃ y : Int32, Int32.ofNat (d.2 (1000 + (nI (5 * j + 2)).toNatClampNeg)) = y := ⟨_, rfl⟩
  refine tw_ti (v := .int y7) (fun _ _ z => z.xs.2.2.2.2.2) dL_law__792 (vp_in_nI (by omega) (by omega)) (congrArg Value.int ey7) ?_
  refine tw_aload_n 3 dL_law__793 rfl rfl ?_
  refine tw_bi (tw_callSH (M := mL_law_) (pc := 794) okL_settle dL_law__794 w_740 [.ref x, .int y4, .int y7, .ref o] [] rfl rfl ⟨by decide, by decide⟩ (Nat.le_of_ble_eq_true rfl) (c_L_settle d g τ h sp1.1 x ok.2.2.1 y4 y7 o ok.2.2.2.2.1 (ok.2.1.ch5 (by omega))) ((c + 900) - 20) ((n + 5000) - 120) (by omega) (by omega)) (fun r10 h9 q8 => ?_) (fun E h1 q => q.elim)
  rcases q8 with ⟨q8e, q8cI, q8cR, q8cL, q8n, τc, q8s⟩ | ⟨q8e, q8cI, τc, q8s⟩ | ⟨q8e, q8cI, q8cR, τc, q8s⟩ | ⟨q8e, q8cI, q8cR, q8cL, τc, q8s⟩
  · rw [q8e]
    have h49 := (tw_b678 ok.1 ok.2.2.1).1
    obtain ⟨gL, egL⟩ : ∃ z : tw_G, z = (tw_g1 (tw_ad (tw_ad g (768 + 32 * tw_dF g (tw_DN y4) + 8 + tw_DN y7) (-nI (tw_sg g (tw_DN y4) (tw_DN y7)))) (768 + 32 * tw_dT g (tw_DN y4) + 8 + tw_DN y7) (nI (tw_sg g (tw_DN y4) (tw_DN y7)))) (1152 + 8 * tw_DN y4 + 2) 1) := ⟨_, rfl⟩
    rw [← egL] at q8s
    have gl3 : gL.2 3 = g.2 3 := by rw [egL]; rfl
    have gl4 : gL.2 4 = g.2 4 := by rw [egL]; rfl
    have gl5 : gL.2 5 = g.2 5 := by rw [egL]; rfl
    have gl9 : gL.2 9 = g.2 9 := by rw [egL]; rfl
    have gl22 : gL.2 22 = g.2 22 := by rw [egL]; rfl
    have sc5 : tw_sc g gL := tw_S_settle ok.2.1 q8cI q8cR egL
    have kx1 := q8s.2.1.k ok.2.2.1 (by decide)
    have km1 := q8s.2.1.k ok.2.2.2.1 (by decide)
    have ko1 := q8s.2.1.k ok.2.2.2.2.1 (by decide)
    refine tw_istore [(5, .int 0), (0, .ref (d.2 98)), (1, .ref x), (2, .ref m), (3, .ref o), (4, .int (nI (5 * j)))] dL_law__797 (by decide) rfl ?_
    refine tw_aload_n 3 dL_law__799 rfl rfl ?_
    refine tw_aload_n 1 dL_law__800 rfl rfl ?_
    refine tw_iload 5 dL_law__801 rfl ?_
    refine tw_iconst (v := 1) dL_law__803 (by decide) ?_
    refine tw_iadd dL_law__804 ?_
    refine tw_nmi (fun v11 ev11 => ?_)
    have q12 : v11 = nI (5 * j + 1) := by rw [ev11]; exact tw_s1 _
    rw [q12]
    refine tw_ti (v := .int y4) (fun _ _ z => z.xs.2.2.2.2.2) dL_law__805 (vp_in_nI (by omega) (by omega)) (congrArg Value.int ey4) ?_
    refine tw_aload_n 1 dL_law__806 rfl rfl ?_
    refine tw_iload 5 dL_law__807 rfl ?_
    refine tw_iconst (v := 2) dL_law__809 (by decide) ?_
    refine tw_iadd dL_law__810 ?_
    refine tw_nmi (fun v13 ev13 => ?_)
    have q14 : v13 = nI (5 * j + 2) := by rw [ev13]; exact tw_s2 _
    rw [q14]
    refine tw_ti (v := .int y7) (fun _ _ z => z.xs.2.2.2.2.2) dL_law__811 (vp_in_nI (by omega) (by omega)) (congrArg Value.int ey7) ?_
    obtain ⟨e15, f16, th_17, td_18, ds_19, fr_20, ca_21, us_22, wo_23, cm_24, lc_25, lh_26, ld_27, rfl, k28, k29, k30, k31, k32, k33, k34, k35, k36, k37, k38, k39, k40, k41, k42, k43, k44, k45, k46, k47, k48, k49⟩ := (tw_sp.rf q8s.1).1 m 36 km1 (by decide)
    refine tw_bi (tw_callV (M := mL_law_) (pc := 812) okX10_settle dL_law__812 w_1455 rfl f16 [.int y4, .int y7] [] rfl rfl ⟨by decide, by decide⟩ (Nat.le_of_ble_eq_true rfl) (c2_X10_settle d gL τc h9 (tw_sp.rf q8s.1).1 m km1 y4 y7 o ko1 ((ok.2.1.am5 (by omega)).sc sc5) (ok.2.1.i5.mh.sc sc5 gl5 ok.2.1.bd.2.2.1) (ok.2.1.em5.sc sc5 gl3 ok.2.1.bd.1)) ((c + 900) - 20) ((n + 5000) - 120) (by omega) (by omega)) (fun r52 h51 q50 => ?_) (fun E h1 q => q.elim)
    obtain ⟨g9, τ9, s9, oq9, q50a⟩ := q50
    have kx2 := s9.2.1.k kx1 (by decide)
    have km2 := s9.2.1.k km1 (by decide)
    have ko2 := s9.2.1.k ko1 (by decide)
    have q8cI3 : tw_ix (gL.2 5) y4 := by rw [gl5, ← ok.2.1.c8]; exact q8cI
    have q8cL3 : (tw_MT gL (tw_DN y4) (tw_DN y7)) := (tw_Q_settle ok.2.1 sc5 (by omega) gl22 q8cI q8cR).mp q8cL
    rcases q50a with ⟨z, -⟩ | ⟨-, z, -⟩ | ⟨-, -, z, -⟩ | ⟨-, -, -, hr2, ht, gk9⟩
    · exact absurd q8cI3 z
    · exact absurd q8cR z
    · exact absurd q8cL3 z
    · rw [hr2]
      have ok9 : tw_ok5 d x m o (100000 * j) g9 τ9 h51 := ⟨s9.1, (ok.2.1.settle (by omega) q8cI q8cR q8cL egL gk9), kx2, km2, ko2, (ok.2.2.2.2.2.cg (fun i hi => by rw [gk9]; (repeat (first | rw [tw_g1_ne (by omega)] | rw [tw_ad_ne (by omega)] | rw [tw_gT_1 (by omega)])); rw [egL]; (repeat (first | rw [tw_g1_ne (by omega)] | rw [tw_ad_ne (by omega)] | rw [tw_gT_1 (by omega)]))))⟩
      have hlg : tw_lg (h51 o) = (nI (tw_sg g (tw_DN y4) (tw_DN y7))).toInt64 := by rw [oq9]; exact q8n
      have sp53 := tw_sp.rf ok9.1
      refine tw_istore [(6, .int (nI (tw_ms gL (tw_DN y4) (tw_DN y7)))), (5, .int 0), (0, .ref (d.2 98)), (1, .ref x), (2, .ref m), (3, .ref o), (4, .int (nI (5 * j)))] dL_law__815 (by decide) rfl ?_
      refine tw_goto 1362 dL_law__817 (by decide) ?_
      refine tw_lv [2, 3, 4, 5, 6] rfl ?_
      refine tw_less (c2 := c) (n2 := n) (by omega) (by omega) ?_
      exact J _ _ _ (ok9.up (by omega))
  · rw [q8e]
    have h49 := (tw_b678 ok.1 ok.2.2.1).1
    have kx1 := q8s.2.1.k ok.2.2.1 (by decide)
    have km1 := q8s.2.1.k ok.2.2.2.1 (by decide)
    have ko1 := q8s.2.1.k ok.2.2.2.2.1 (by decide)
    refine tw_istore [(5, .int 1), (0, .ref (d.2 98)), (1, .ref x), (2, .ref m), (3, .ref o), (4, .int (nI (5 * j)))] dL_law__797 (by decide) rfl ?_
    refine tw_aload_n 3 dL_law__799 rfl rfl ?_
    refine tw_aload_n 1 dL_law__800 rfl rfl ?_
    refine tw_iload 5 dL_law__801 rfl ?_
    refine tw_iconst (v := 1) dL_law__803 (by decide) ?_
    refine tw_iadd dL_law__804 ?_
    refine tw_nmi (fun v54 ev54 => ?_)
    have q55 : v54 = nI (5 * j + 1) := by rw [ev54]; exact tw_s1 _
    rw [q55]
    refine tw_ti (v := .int y4) (fun _ _ z => z.xs.2.2.2.2.2) dL_law__805 (vp_in_nI (by omega) (by omega)) (congrArg Value.int ey4) ?_
    refine tw_aload_n 1 dL_law__806 rfl rfl ?_
    refine tw_iload 5 dL_law__807 rfl ?_
    refine tw_iconst (v := 2) dL_law__809 (by decide) ?_
    refine tw_iadd dL_law__810 ?_
    refine tw_nmi (fun v56 ev56 => ?_)
    have q57 : v56 = nI (5 * j + 2) := by rw [ev56]; exact tw_s2 _
    rw [q57]
    refine tw_ti (v := .int y7) (fun _ _ z => z.xs.2.2.2.2.2) dL_law__811 (vp_in_nI (by omega) (by omega)) (congrArg Value.int ey7) ?_
    obtain ⟨e58, f59, th_60, td_61, ds_62, fr_63, ca_64, us_65, wo_66, cm_67, lc_68, lh_69, ld_70, rfl, k71, k72, k73, k74, k75, k76, k77, k78, k79, k80, k81, k82, k83, k84, k85, k86, k87, k88, k89, k90, k91, k92⟩ := (tw_sp.rf q8s.1).1 m 36 km1 (by decide)
    refine tw_bi (tw_callV (M := mL_law_) (pc := 812) okX10_settle dL_law__812 w_1455 rfl f59 [.int y4, .int y7] [] rfl rfl ⟨by decide, by decide⟩ (Nat.le_of_ble_eq_true rfl) (c2_X10_settle d g τc h9 (tw_sp.rf q8s.1).1 m km1 y4 y7 o ko1 (ok.2.1.am5 (by omega)) ok.2.1.i5.mh ok.2.1.em5) ((c + 900) - 20) ((n + 5000) - 120) (by omega) (by omega)) (fun r95 h94 q93 => ?_) (fun E h1 q => q.elim)
    obtain ⟨g9, τ9, s9, oq9, q93a⟩ := q93
    have kx2 := s9.2.1.k kx1 (by decide)
    have km2 := s9.2.1.k km1 (by decide)
    have ko2 := s9.2.1.k ko1 (by decide)
    have q8cI3 : ¬ tw_ix (g.2 5) y4 := by rw [← ok.2.1.c8]; exact q8cI
    rcases q93a with ⟨-, ht, eg9⟩ | ⟨z, -⟩ | ⟨z, -⟩ | ⟨z, -⟩
    · rw [eg9] at s9
      have ok9 : tw_ok5 d x m o (100000 * j) g τ9 h94 := ⟨s9.1, ok.2.1, kx2, km2, ko2, ok.2.2.2.2.2⟩
      have sp96 := tw_sp.rf ok9.1
      refine tw_istore [(6, .int r95), (5, .int 1), (0, .ref (d.2 98)), (1, .ref x), (2, .ref m), (3, .ref o), (4, .int (nI (5 * j)))] dL_law__815 (by decide) rfl ?_
      refine tw_goto 1362 dL_law__817 (by decide) ?_
      refine tw_lv [2, 3, 4, 5, 6] rfl ?_
      refine tw_less (c2 := c) (n2 := n) (by omega) (by omega) ?_
      exact J _ _ _ (ok9.up (by omega))
    · exact absurd z q8cI3
    · exact absurd z q8cI3
    · exact absurd z q8cI3
  · rw [q8e]
    have h49 := (tw_b678 ok.1 ok.2.2.1).1
    have kx1 := q8s.2.1.k ok.2.2.1 (by decide)
    have km1 := q8s.2.1.k ok.2.2.2.1 (by decide)
    have ko1 := q8s.2.1.k ok.2.2.2.2.1 (by decide)
    refine tw_istore [(5, .int 2), (0, .ref (d.2 98)), (1, .ref x), (2, .ref m), (3, .ref o), (4, .int (nI (5 * j)))] dL_law__797 (by decide) rfl ?_
    refine tw_aload_n 3 dL_law__799 rfl rfl ?_
    refine tw_aload_n 1 dL_law__800 rfl rfl ?_
    refine tw_iload 5 dL_law__801 rfl ?_
    refine tw_iconst (v := 1) dL_law__803 (by decide) ?_
    refine tw_iadd dL_law__804 ?_
    refine tw_nmi (fun v97 ev97 => ?_)
    have q98 : v97 = nI (5 * j + 1) := by rw [ev97]; exact tw_s1 _
    rw [q98]
    refine tw_ti (v := .int y4) (fun _ _ z => z.xs.2.2.2.2.2) dL_law__805 (vp_in_nI (by omega) (by omega)) (congrArg Value.int ey4) ?_
    refine tw_aload_n 1 dL_law__806 rfl rfl ?_
    refine tw_iload 5 dL_law__807 rfl ?_
    refine tw_iconst (v := 2) dL_law__809 (by decide) ?_
    refine tw_iadd dL_law__810 ?_
    refine tw_nmi (fun v99 ev99 => ?_)
    have q100 : v99 = nI (5 * j + 2) := by rw [ev99]; exact tw_s2 _
    rw [q100]
    refine tw_ti (v := .int y7) (fun _ _ z => z.xs.2.2.2.2.2) dL_law__811 (vp_in_nI (by omega) (by omega)) (congrArg Value.int ey7) ?_
    obtain ⟨e101, f102, th_103, td_104, ds_105, fr_106, ca_107, us_108, wo_109, cm_110, lc_111, lh_112, ld_113, rfl, k114, k115, k116, k117, k118, k119, k120, k121, k122, k123, k124, k125, k126, k127, k128, k129, k130, k131, k132, k133, k134, k135⟩ := (tw_sp.rf q8s.1).1 m 36 km1 (by decide)
    refine tw_bi (tw_callV (M := mL_law_) (pc := 812) okX10_settle dL_law__812 w_1455 rfl f102 [.int y4, .int y7] [] rfl rfl ⟨by decide, by decide⟩ (Nat.le_of_ble_eq_true rfl) (c2_X10_settle d g τc h9 (tw_sp.rf q8s.1).1 m km1 y4 y7 o ko1 (ok.2.1.am5 (by omega)) ok.2.1.i5.mh ok.2.1.em5) ((c + 900) - 20) ((n + 5000) - 120) (by omega) (by omega)) (fun r138 h137 q136 => ?_) (fun E h1 q => q.elim)
    obtain ⟨g9, τ9, s9, oq9, q136a⟩ := q136
    have kx2 := s9.2.1.k kx1 (by decide)
    have km2 := s9.2.1.k km1 (by decide)
    have ko2 := s9.2.1.k ko1 (by decide)
    have q8cI3 : tw_ix (g.2 5) y4 := by rw [← ok.2.1.c8]; exact q8cI
    rcases q136a with ⟨z, -⟩ | ⟨-, -, ht, eg9⟩ | ⟨-, z, -⟩ | ⟨-, z, -⟩
    · exact absurd q8cI3 z
    · rw [eg9] at s9
      have ok9 : tw_ok5 d x m o (100000 * j) g τ9 h137 := ⟨s9.1, ok.2.1, kx2, km2, ko2, ok.2.2.2.2.2⟩
      have sp139 := tw_sp.rf ok9.1
      refine tw_istore [(6, .int r138), (5, .int 2), (0, .ref (d.2 98)), (1, .ref x), (2, .ref m), (3, .ref o), (4, .int (nI (5 * j)))] dL_law__815 (by decide) rfl ?_
      refine tw_goto 1362 dL_law__817 (by decide) ?_
      refine tw_lv [2, 3, 4, 5, 6] rfl ?_
      refine tw_less (c2 := c) (n2 := n) (by omega) (by omega) ?_
      exact J _ _ _ (ok9.up (by omega))
    · exact absurd z q8cR
    · exact absurd z q8cR
  · rw [q8e]
    have h49 := (tw_b678 ok.1 ok.2.2.1).1
    have kx1 := q8s.2.1.k ok.2.2.1 (by decide)
    have km1 := q8s.2.1.k ok.2.2.2.1 (by decide)
    have ko1 := q8s.2.1.k ok.2.2.2.2.1 (by decide)
    refine tw_istore [(5, .int 3), (0, .ref (d.2 98)), (1, .ref x), (2, .ref m), (3, .ref o), (4, .int (nI (5 * j)))] dL_law__797 (by decide) rfl ?_
    refine tw_aload_n 3 dL_law__799 rfl rfl ?_
    refine tw_aload_n 1 dL_law__800 rfl rfl ?_
    refine tw_iload 5 dL_law__801 rfl ?_
    refine tw_iconst (v := 1) dL_law__803 (by decide) ?_
    refine tw_iadd dL_law__804 ?_
    refine tw_nmi (fun v140 ev140 => ?_)
    have q141 : v140 = nI (5 * j + 1) := by rw [ev140]; exact tw_s1 _
    rw [q141]
    refine tw_ti (v := .int y4) (fun _ _ z => z.xs.2.2.2.2.2) dL_law__805 (vp_in_nI (by omega) (by omega)) (congrArg Value.int ey4) ?_
    refine tw_aload_n 1 dL_law__806 rfl rfl ?_
    refine tw_iload 5 dL_law__807 rfl ?_
    refine tw_iconst (v := 2) dL_law__809 (by decide) ?_
    refine tw_iadd dL_law__810 ?_
    refine tw_nmi (fun v142 ev142 => ?_)
    have q143 : v142 = nI (5 * j + 2) := by rw [ev142]; exact tw_s2 _
    rw [q143]
    refine tw_ti (v := .int y7) (fun _ _ z => z.xs.2.2.2.2.2) dL_law__811 (vp_in_nI (by omega) (by omega)) (congrArg Value.int ey7) ?_
    obtain ⟨e144, f145, th_146, td_147, ds_148, fr_149, ca_150, us_151, wo_152, cm_153, lc_154, lh_155, ld_156, rfl, k157, k158, k159, k160, k161, k162, k163, k164, k165, k166, k167, k168, k169, k170, k171, k172, k173, k174, k175, k176, k177, k178⟩ := (tw_sp.rf q8s.1).1 m 36 km1 (by decide)
    refine tw_bi (tw_callV (M := mL_law_) (pc := 812) okX10_settle dL_law__812 w_1455 rfl f145 [.int y4, .int y7] [] rfl rfl ⟨by decide, by decide⟩ (Nat.le_of_ble_eq_true rfl) (c2_X10_settle d g τc h9 (tw_sp.rf q8s.1).1 m km1 y4 y7 o ko1 (ok.2.1.am5 (by omega)) ok.2.1.i5.mh ok.2.1.em5) ((c + 900) - 20) ((n + 5000) - 120) (by omega) (by omega)) (fun r181 h180 q179 => ?_) (fun E h1 q => q.elim)
    obtain ⟨g9, τ9, s9, oq9, q179a⟩ := q179
    have kx2 := s9.2.1.k kx1 (by decide)
    have km2 := s9.2.1.k km1 (by decide)
    have ko2 := s9.2.1.k ko1 (by decide)
    have q8cI3 : tw_ix (g.2 5) y4 := by rw [← ok.2.1.c8]; exact q8cI
    have q8cL3 : ¬ (tw_MT g (tw_DN y4) (tw_DN y7)) := fun z => q8cL ((tw_Q_settle ok.2.1 tw_sc.rf (by omega) rfl q8cI q8cR).mpr z)
    rcases q179a with ⟨z, -⟩ | ⟨-, z, -⟩ | ⟨-, -, -, ht, eg9⟩ | ⟨-, -, z, -⟩
    · exact absurd q8cI3 z
    · exact absurd q8cR z
    · rw [eg9] at s9
      have ok9 : tw_ok5 d x m o (100000 * j) g τ9 h180 := ⟨s9.1, ok.2.1, kx2, km2, ko2, ok.2.2.2.2.2⟩
      have sp182 := tw_sp.rf ok9.1
      refine tw_istore [(6, .int r181), (5, .int 3), (0, .ref (d.2 98)), (1, .ref x), (2, .ref m), (3, .ref o), (4, .int (nI (5 * j)))] dL_law__815 (by decide) rfl ?_
      refine tw_goto 1362 dL_law__817 (by decide) ?_
      refine tw_lv [2, 3, 4, 5, 6] rfl ?_
      refine tw_less (c2 := c) (n2 := n) (by omega) (by omega) ?_
      exact J _ _ _ (ok9.up (by omega))
    · exact absurd z q8cL3

set_option maxHeartbeats 4000000 in
set_option maxRecDepth 100000 in
theorem law_case_13 (d : tw_D) (x m o j c n : Nat) (Q : tw_O → tw_H → Prop) (hL : d.2 97 ≤ 2560) (hj : 5 * j + 5 ≤ d.2 97) (J : tw_J d x m o j Q c n) (g : tw_G) (τ : tw_K) (h : tw_H) (ok : tw_ok5 d x m o (100000 * j) g τ h) : tw_W d mL_law_ Q 820 (tw_lv5 d x m o j) [] h (c + 900) (n + 5000) := by
  show tw_W d mL_law_ Q 820 [(0, .ref (d.2 98)), (1, .ref x), (2, .ref m), (3, .ref o), (4, .int (nI (5 * j)))] [] h (c + 900) (n + 5000)
  have sp1 := tw_sp.rf ok.1
  refine tw_aload_n 1 dL_law__820 rfl rfl ?_
  refine tw_aload_n 0 dL_law__821 rfl rfl ?_
  refine tw_iload 4 dL_law__822 rfl ?_
  refine tw_iconst (v := 1) dL_law__824 (by decide) ?_
  refine tw_iadd dL_law__825 ?_
  refine tw_nmi (fun v2 ev2 => ?_)
  have q3 : v2 = nI (5 * j + 1) := by rw [ev2]; exact tw_s1 _
  rw [q3]
  obtain ⟨y4, ey4⟩ : ∃ y : Int32, Int32.ofNat (d.2 (1000 + (nI (5 * j + 1)).toNatClampNeg)) = y := ⟨_, rfl⟩
  refine tw_ti (v := .int y4) (fun _ _ z => z.xs.2.2.2.2.2) dL_law__826 (vp_in_nI (by omega) (by omega)) (congrArg Value.int ey4) ?_
  refine tw_aload_n 0 dL_law__827 rfl rfl ?_
  refine tw_iload 4 dL_law__828 rfl ?_
  refine tw_iconst (v := 2) dL_law__830 (by decide) ?_
  refine tw_iadd dL_law__831 ?_
  refine tw_nmi (fun v5 ev5 => ?_)
  have q6 : v5 = nI (5 * j + 2) := by rw [ev5]; exact tw_s2 _
  rw [q6]
  obtain ⟨y7, ey7⟩ : ∃ y : Int32, Int32.ofNat (d.2 (1000 + (nI (5 * j + 2)).toNatClampNeg)) = y := ⟨_, rfl⟩
  refine tw_ti (v := .int y7) (fun _ _ z => z.xs.2.2.2.2.2) dL_law__832 (vp_in_nI (by omega) (by omega)) (congrArg Value.int ey7) ?_
  refine tw_aload_n 0 dL_law__833 rfl rfl ?_
  refine tw_iload 4 dL_law__834 rfl ?_
  refine tw_iconst (v := 3) dL_law__836 (by decide) ?_
  refine tw_iadd dL_law__837 ?_
  refine tw_nmi (fun v8 ev8 => ?_)
  have q9 : v8 = nI (5 * j + 3) := by rw [ev8]; exact tw_s3 _
  rw [q9]
  obtain ⟨y10, ey10⟩ : ∃ y : Int32, Int32.ofNat (d.2 (1000 + (nI (5 * j + 3)).toNatClampNeg)) = y := ⟨_, rfl⟩
  refine tw_ti (v := .int y10) (fun _ _ z => z.xs.2.2.2.2.2) dL_law__838 (vp_in_nI (by omega) (by omega)) (congrArg Value.int ey10) ?_
  refine tw_aload_n 3 dL_law__839 rfl rfl ?_
  refine tw_bi (tw_callSH (M := mL_law_) (pc := 840) okL_till dL_law__840 w_754 [.ref x, .int y4, .int y7, .int y10, .ref o] [] rfl rfl ⟨by decide, by decide⟩ (Nat.le_of_ble_eq_true rfl) (c_L_till d g τ h sp1.1 x ok.2.2.1 y4 y7 y10 o ok.2.2.2.2.1) ((c + 900) - 20) ((n + 5000) - 120) (by omega) (by omega)) (fun r13 h12 q11 => ?_) (fun E h1 q => q.elim)
  rcases q11 with ⟨q11e, q11cI, q11cR, q11n, τc, q11s⟩ | ⟨q11e, q11cI, τc, q11s⟩ | ⟨q11e, q11cI, q11cR, τc, q11s⟩
  · rw [q11e]
    have h49 := (tw_b678 ok.1 ok.2.2.1).1
    obtain ⟨gL, egL⟩ : ∃ z : tw_G, z = (tw_g1 g (160 + 64 * tw_DN y4 + 32 + tw_DN y7) y10) := ⟨_, rfl⟩
    rw [← egL] at q11s
    have gl3 : gL.2 3 = g.2 3 := by rw [egL]; rfl
    have gl4 : gL.2 4 = g.2 4 := by rw [egL]; rfl
    have gl5 : gL.2 5 = g.2 5 := by rw [egL]; rfl
    have gl9 : gL.2 9 = g.2 9 := by rw [egL]; rfl
    have gl22 : gL.2 22 = g.2 22 := by rw [egL]; rfl
    have kx1 := q11s.2.1.k ok.2.2.1 (by decide)
    have km1 := q11s.2.1.k ok.2.2.2.1 (by decide)
    have ko1 := q11s.2.1.k ok.2.2.2.2.1 (by decide)
    refine tw_istore [(5, .int 0), (0, .ref (d.2 98)), (1, .ref x), (2, .ref m), (3, .ref o), (4, .int (nI (5 * j)))] dL_law__843 (by decide) rfl ?_
    refine tw_aload_n 3 dL_law__845 rfl rfl ?_
    refine tw_aload_n 1 dL_law__846 rfl rfl ?_
    refine tw_iload 5 dL_law__847 rfl ?_
    refine tw_iconst (v := 1) dL_law__849 (by decide) ?_
    refine tw_iadd dL_law__850 ?_
    refine tw_nmi (fun v14 ev14 => ?_)
    have q15 : v14 = nI (5 * j + 1) := by rw [ev14]; exact tw_s1 _
    rw [q15]
    refine tw_ti (v := .int y4) (fun _ _ z => z.xs.2.2.2.2.2) dL_law__851 (vp_in_nI (by omega) (by omega)) (congrArg Value.int ey4) ?_
    refine tw_aload_n 1 dL_law__852 rfl rfl ?_
    refine tw_iload 5 dL_law__853 rfl ?_
    refine tw_iconst (v := 2) dL_law__855 (by decide) ?_
    refine tw_iadd dL_law__856 ?_
    refine tw_nmi (fun v16 ev16 => ?_)
    have q17 : v16 = nI (5 * j + 2) := by rw [ev16]; exact tw_s2 _
    rw [q17]
    refine tw_ti (v := .int y7) (fun _ _ z => z.xs.2.2.2.2.2) dL_law__857 (vp_in_nI (by omega) (by omega)) (congrArg Value.int ey7) ?_
    refine tw_aload_n 1 dL_law__858 rfl rfl ?_
    refine tw_iload 5 dL_law__859 rfl ?_
    refine tw_iconst (v := 3) dL_law__861 (by decide) ?_
    refine tw_iadd dL_law__862 ?_
    refine tw_nmi (fun v18 ev18 => ?_)
    have q19 : v18 = nI (5 * j + 3) := by rw [ev18]; exact tw_s3 _
    rw [q19]
    refine tw_ti (v := .int y10) (fun _ _ z => z.xs.2.2.2.2.2) dL_law__863 (vp_in_nI (by omega) (by omega)) (congrArg Value.int ey10) ?_
    obtain ⟨e20, f21, th_22, td_23, ds_24, fr_25, ca_26, us_27, wo_28, cm_29, lc_30, lh_31, ld_32, rfl, k33, k34, k35, k36, k37, k38, k39, k40, k41, k42, k43, k44, k45, k46, k47, k48, k49, k50, k51, k52, k53, k54⟩ := (tw_sp.rf q11s.1).1 m 36 km1 (by decide)
    refine tw_bi (tw_callV (M := mL_law_) (pc := 864) okX10_till dL_law__864 w_1472 rfl f21 [.int y4, .int y7, .int y10] [] rfl rfl ⟨by decide, by decide⟩ (Nat.le_of_ble_eq_true rfl) (c2_X10_till d gL τc h12 (tw_sp.rf q11s.1).1 m km1 y4 y7 y10 o ko1) ((c + 900) - 20) ((n + 5000) - 120) (by omega) (by omega)) (fun r57 h56 q55 => ?_) (fun E h1 q => q.elim)
    obtain ⟨g9, τ9, s9, oq9, q55a⟩ := q55
    have kx2 := s9.2.1.k kx1 (by decide)
    have km2 := s9.2.1.k km1 (by decide)
    have ko2 := s9.2.1.k ko1 (by decide)
    have q11cI3 : (tw_ix (gL.2 3) y4 ∧ tw_ix 5 y7) := by rw [gl3, ← ok.2.1.2.2.2.1.trans ok.2.1.1]; exact q11cI
    rcases q55a with ⟨z, -⟩ | ⟨-, z, -⟩ | ⟨-, -, hr2, ht, gk9⟩
    · exact absurd q11cI3 z
    · exact absurd q11cR z
    · rw [hr2]
      have ok9 : tw_ok5 d x m o (100000 * j) g9 τ9 h56 := ⟨s9.1, (by rw [gk9, egL]; exact ok.2.1.till q11cI q11cR h49), kx2, km2, ko2, (ok.2.2.2.2.2.cg (fun i hi => by rw [gk9]; (repeat (first | rw [tw_g1_ne (by omega)] | rw [tw_ad_ne (by omega)] | rw [tw_gT_1 (by omega)])); rw [egL]; (repeat (first | rw [tw_g1_ne (by omega)] | rw [tw_ad_ne (by omega)] | rw [tw_gT_1 (by omega)]))))⟩
      have hlg : tw_lg (h56 o) = (g.1 (160 + 64 * tw_DN y4 + 32 + tw_DN y7)).toInt64 := by rw [oq9]; exact q11n
      have sp58 := tw_sp.rf ok9.1
      refine tw_istore [(6, .int (gL.1 (480 + 64 * tw_DN y4 + 24 + tw_DN y7))), (5, .int 0), (0, .ref (d.2 98)), (1, .ref x), (2, .ref m), (3, .ref o), (4, .int (nI (5 * j)))] dL_law__867 (by decide) rfl ?_
      refine tw_goto 1362 dL_law__869 (by decide) ?_
      refine tw_lv [2, 3, 4, 5, 6] rfl ?_
      refine tw_less (c2 := c) (n2 := n) (by omega) (by omega) ?_
      exact J _ _ _ (ok9.up (by omega))
  · rw [q11e]
    have h49 := (tw_b678 ok.1 ok.2.2.1).1
    have kx1 := q11s.2.1.k ok.2.2.1 (by decide)
    have km1 := q11s.2.1.k ok.2.2.2.1 (by decide)
    have ko1 := q11s.2.1.k ok.2.2.2.2.1 (by decide)
    refine tw_istore [(5, .int 1), (0, .ref (d.2 98)), (1, .ref x), (2, .ref m), (3, .ref o), (4, .int (nI (5 * j)))] dL_law__843 (by decide) rfl ?_
    refine tw_aload_n 3 dL_law__845 rfl rfl ?_
    refine tw_aload_n 1 dL_law__846 rfl rfl ?_
    refine tw_iload 5 dL_law__847 rfl ?_
    refine tw_iconst (v := 1) dL_law__849 (by decide) ?_
    refine tw_iadd dL_law__850 ?_
    refine tw_nmi (fun v59 ev59 => ?_)
    have q60 : v59 = nI (5 * j + 1) := by rw [ev59]; exact tw_s1 _
    rw [q60]
    refine tw_ti (v := .int y4) (fun _ _ z => z.xs.2.2.2.2.2) dL_law__851 (vp_in_nI (by omega) (by omega)) (congrArg Value.int ey4) ?_
    refine tw_aload_n 1 dL_law__852 rfl rfl ?_
    refine tw_iload 5 dL_law__853 rfl ?_
    refine tw_iconst (v := 2) dL_law__855 (by decide) ?_
    refine tw_iadd dL_law__856 ?_
    refine tw_nmi (fun v61 ev61 => ?_)
    have q62 : v61 = nI (5 * j + 2) := by rw [ev61]; exact tw_s2 _
    rw [q62]
    refine tw_ti (v := .int y7) (fun _ _ z => z.xs.2.2.2.2.2) dL_law__857 (vp_in_nI (by omega) (by omega)) (congrArg Value.int ey7) ?_
    refine tw_aload_n 1 dL_law__858 rfl rfl ?_
    refine tw_iload 5 dL_law__859 rfl ?_
    refine tw_iconst (v := 3) dL_law__861 (by decide) ?_
    refine tw_iadd dL_law__862 ?_
    refine tw_nmi (fun v63 ev63 => ?_)
    have q64 : v63 = nI (5 * j + 3) := by rw [ev63]; exact tw_s3 _
    rw [q64]
    refine tw_ti (v := .int y10) (fun _ _ z => z.xs.2.2.2.2.2) dL_law__863 (vp_in_nI (by omega) (by omega)) (congrArg Value.int ey10) ?_
    obtain ⟨e65, f66, th_67, td_68, ds_69, fr_70, ca_71, us_72, wo_73, cm_74, lc_75, lh_76, ld_77, rfl, k78, k79, k80, k81, k82, k83, k84, k85, k86, k87, k88, k89, k90, k91, k92, k93, k94, k95, k96, k97, k98, k99⟩ := (tw_sp.rf q11s.1).1 m 36 km1 (by decide)
    refine tw_bi (tw_callV (M := mL_law_) (pc := 864) okX10_till dL_law__864 w_1472 rfl f66 [.int y4, .int y7, .int y10] [] rfl rfl ⟨by decide, by decide⟩ (Nat.le_of_ble_eq_true rfl) (c2_X10_till d g τc h12 (tw_sp.rf q11s.1).1 m km1 y4 y7 y10 o ko1) ((c + 900) - 20) ((n + 5000) - 120) (by omega) (by omega)) (fun r102 h101 q100 => ?_) (fun E h1 q => q.elim)
    obtain ⟨g9, τ9, s9, oq9, q100a⟩ := q100
    have kx2 := s9.2.1.k kx1 (by decide)
    have km2 := s9.2.1.k km1 (by decide)
    have ko2 := s9.2.1.k ko1 (by decide)
    have q11cI3 : ¬ (tw_ix (g.2 3) y4 ∧ tw_ix 5 y7) := by rw [← ok.2.1.2.2.2.1.trans ok.2.1.1]; exact q11cI
    rcases q100a with ⟨-, ht, eg9⟩ | ⟨z, -⟩ | ⟨z, -⟩
    · rw [eg9] at s9
      have ok9 : tw_ok5 d x m o (100000 * j) g τ9 h101 := ⟨s9.1, ok.2.1, kx2, km2, ko2, ok.2.2.2.2.2⟩
      have sp103 := tw_sp.rf ok9.1
      refine tw_istore [(6, .int r102), (5, .int 1), (0, .ref (d.2 98)), (1, .ref x), (2, .ref m), (3, .ref o), (4, .int (nI (5 * j)))] dL_law__867 (by decide) rfl ?_
      refine tw_goto 1362 dL_law__869 (by decide) ?_
      refine tw_lv [2, 3, 4, 5, 6] rfl ?_
      refine tw_less (c2 := c) (n2 := n) (by omega) (by omega) ?_
      exact J _ _ _ (ok9.up (by omega))
    · exact absurd z q11cI3
    · exact absurd z q11cI3
  · rw [q11e]
    have h49 := (tw_b678 ok.1 ok.2.2.1).1
    have kx1 := q11s.2.1.k ok.2.2.1 (by decide)
    have km1 := q11s.2.1.k ok.2.2.2.1 (by decide)
    have ko1 := q11s.2.1.k ok.2.2.2.2.1 (by decide)
    refine tw_istore [(5, .int 2), (0, .ref (d.2 98)), (1, .ref x), (2, .ref m), (3, .ref o), (4, .int (nI (5 * j)))] dL_law__843 (by decide) rfl ?_
    refine tw_aload_n 3 dL_law__845 rfl rfl ?_
    refine tw_aload_n 1 dL_law__846 rfl rfl ?_
    refine tw_iload 5 dL_law__847 rfl ?_
    refine tw_iconst (v := 1) dL_law__849 (by decide) ?_
    refine tw_iadd dL_law__850 ?_
    refine tw_nmi (fun v104 ev104 => ?_)
    have q105 : v104 = nI (5 * j + 1) := by rw [ev104]; exact tw_s1 _
    rw [q105]
    refine tw_ti (v := .int y4) (fun _ _ z => z.xs.2.2.2.2.2) dL_law__851 (vp_in_nI (by omega) (by omega)) (congrArg Value.int ey4) ?_
    refine tw_aload_n 1 dL_law__852 rfl rfl ?_
    refine tw_iload 5 dL_law__853 rfl ?_
    refine tw_iconst (v := 2) dL_law__855 (by decide) ?_
    refine tw_iadd dL_law__856 ?_
    refine tw_nmi (fun v106 ev106 => ?_)
    have q107 : v106 = nI (5 * j + 2) := by rw [ev106]; exact tw_s2 _
    rw [q107]
    refine tw_ti (v := .int y7) (fun _ _ z => z.xs.2.2.2.2.2) dL_law__857 (vp_in_nI (by omega) (by omega)) (congrArg Value.int ey7) ?_
    refine tw_aload_n 1 dL_law__858 rfl rfl ?_
    refine tw_iload 5 dL_law__859 rfl ?_
    refine tw_iconst (v := 3) dL_law__861 (by decide) ?_
    refine tw_iadd dL_law__862 ?_
    refine tw_nmi (fun v108 ev108 => ?_)
    have q109 : v108 = nI (5 * j + 3) := by rw [ev108]; exact tw_s3 _
    rw [q109]
    refine tw_ti (v := .int y10) (fun _ _ z => z.xs.2.2.2.2.2) dL_law__863 (vp_in_nI (by omega) (by omega)) (congrArg Value.int ey10) ?_
    obtain ⟨e110, f111, th_112, td_113, ds_114, fr_115, ca_116, us_117, wo_118, cm_119, lc_120, lh_121, ld_122, rfl, k123, k124, k125, k126, k127, k128, k129, k130, k131, k132, k133, k134, k135, k136, k137, k138, k139, k140, k141, k142, k143, k144⟩ := (tw_sp.rf q11s.1).1 m 36 km1 (by decide)
    refine tw_bi (tw_callV (M := mL_law_) (pc := 864) okX10_till dL_law__864 w_1472 rfl f111 [.int y4, .int y7, .int y10] [] rfl rfl ⟨by decide, by decide⟩ (Nat.le_of_ble_eq_true rfl) (c2_X10_till d g τc h12 (tw_sp.rf q11s.1).1 m km1 y4 y7 y10 o ko1) ((c + 900) - 20) ((n + 5000) - 120) (by omega) (by omega)) (fun r147 h146 q145 => ?_) (fun E h1 q => q.elim)
    obtain ⟨g9, τ9, s9, oq9, q145a⟩ := q145
    have kx2 := s9.2.1.k kx1 (by decide)
    have km2 := s9.2.1.k km1 (by decide)
    have ko2 := s9.2.1.k ko1 (by decide)
    have q11cI3 : (tw_ix (g.2 3) y4 ∧ tw_ix 5 y7) := by rw [← ok.2.1.2.2.2.1.trans ok.2.1.1]; exact q11cI
    rcases q145a with ⟨z, -⟩ | ⟨-, -, ht, eg9⟩ | ⟨-, z, -⟩
    · exact absurd q11cI3 z
    · rw [eg9] at s9
      have ok9 : tw_ok5 d x m o (100000 * j) g τ9 h146 := ⟨s9.1, ok.2.1, kx2, km2, ko2, ok.2.2.2.2.2⟩
      have sp148 := tw_sp.rf ok9.1
      refine tw_istore [(6, .int r147), (5, .int 2), (0, .ref (d.2 98)), (1, .ref x), (2, .ref m), (3, .ref o), (4, .int (nI (5 * j)))] dL_law__867 (by decide) rfl ?_
      refine tw_goto 1362 dL_law__869 (by decide) ?_
      refine tw_lv [2, 3, 4, 5, 6] rfl ?_
      refine tw_less (c2 := c) (n2 := n) (by omega) (by omega) ?_
      exact J _ _ _ (ok9.up (by omega))
    · exact absurd z q11cR

set_option maxHeartbeats 4000000 in
set_option maxRecDepth 100000 in
theorem law_case_14 (d : tw_D) (x m o j c n : Nat) (Q : tw_O → tw_H → Prop) (hL : d.2 97 ≤ 2560) (hj : 5 * j + 5 ≤ d.2 97) (J : tw_J d x m o j Q c n) (g : tw_G) (τ : tw_K) (h : tw_H) (ok : tw_ok5 d x m o (100000 * j) g τ h) : tw_W d mL_law_ Q 872 (tw_lv5 d x m o j) [] h (c + 900) (n + 5000) := by
  show tw_W d mL_law_ Q 872 [(0, .ref (d.2 98)), (1, .ref x), (2, .ref m), (3, .ref o), (4, .int (nI (5 * j)))] [] h (c + 900) (n + 5000)
  have sp1 := tw_sp.rf ok.1
  refine tw_aload_n 1 dL_law__872 rfl rfl ?_
  refine tw_aload_n 0 dL_law__873 rfl rfl ?_
  refine tw_iload 4 dL_law__874 rfl ?_
  refine tw_iconst (v := 1) dL_law__876 (by decide) ?_
  refine tw_iadd dL_law__877 ?_
  refine tw_nmi (fun v2 ev2 => ?_)
  have q3 : v2 = nI (5 * j + 1) := by rw [ev2]; exact tw_s1 _
  rw [q3]
  obtain ⟨y4, ey4⟩ : ∃ y : Int32, Int32.ofNat (d.2 (1000 + (nI (5 * j + 1)).toNatClampNeg)) = y := ⟨_, rfl⟩
  refine tw_ti (v := .int y4) (fun _ _ z => z.xs.2.2.2.2.2) dL_law__878 (vp_in_nI (by omega) (by omega)) (congrArg Value.int ey4) ?_
  refine tw_aload_n 0 dL_law__879 rfl rfl ?_
  refine tw_iload 4 dL_law__880 rfl ?_
  refine tw_iconst (v := 2) dL_law__882 (by decide) ?_
  refine tw_iadd dL_law__883 ?_
  refine tw_nmi (fun v5 ev5 => ?_)
  have q6 : v5 = nI (5 * j + 2) := by rw [ev5]; exact tw_s2 _
  rw [q6]
  obtain ⟨y7, ey7⟩ : ∃ y : Int32, Int32.ofNat (d.2 (1000 + (nI (5 * j + 2)).toNatClampNeg)) = y := ⟨_, rfl⟩
  refine tw_ti (v := .int y7) (fun _ _ z => z.xs.2.2.2.2.2) dL_law__884 (vp_in_nI (by omega) (by omega)) (congrArg Value.int ey7) ?_
  refine tw_aload_n 3 dL_law__885 rfl rfl ?_
  refine tw_bi (tw_callSH (M := mL_law_) (pc := 886) okL_give dL_law__886 w_767 [.ref x, .int y4, .int y7, .ref o] [] rfl rfl ⟨by decide, by decide⟩ (Nat.le_of_ble_eq_true rfl) (c_L_give d g τ h sp1.1 x ok.2.2.1 y4 y7 o ok.2.2.2.2.1 (ok.2.1.tc (tw_b678 ok.1 ok.2.2.1).1)) ((c + 900) - 20) ((n + 5000) - 120) (by omega) (by omega)) (fun r10 h9 q8 => ?_) (fun E h1 q => q.elim)
  rcases q8 with ⟨q8e, q8cI, q8cR, q8cL, q8n, τc, q8s⟩ | ⟨q8e, q8cI, τc, q8s⟩ | ⟨q8e, q8cI, q8cR, τc, q8s⟩ | ⟨q8e, q8cI, q8cR, q8cL, τc, q8s⟩
  · rw [q8e]
    have h49 := (tw_b678 ok.1 ok.2.2.1).1
    obtain ⟨gL, egL⟩ : ∃ z : tw_G, z = (tw_gT g (160 + 64 * tw_DN y4 + 32) (tw_gF (tw_chC g y4 y7))) := ⟨_, rfl⟩
    rw [← egL] at q8s
    have gl3 : gL.2 3 = g.2 3 := by rw [egL]; rfl
    have gl4 : gL.2 4 = g.2 4 := by rw [egL]; rfl
    have gl5 : gL.2 5 = g.2 5 := by rw [egL]; rfl
    have gl9 : gL.2 9 = g.2 9 := by rw [egL]; rfl
    have gl22 : gL.2 22 = g.2 22 := by rw [egL]; rfl
    have kx1 := q8s.2.1.k ok.2.2.1 (by decide)
    have km1 := q8s.2.1.k ok.2.2.2.1 (by decide)
    have ko1 := q8s.2.1.k ok.2.2.2.2.1 (by decide)
    refine tw_istore [(5, .int 0), (0, .ref (d.2 98)), (1, .ref x), (2, .ref m), (3, .ref o), (4, .int (nI (5 * j)))] dL_law__889 (by decide) rfl ?_
    refine tw_aload_n 3 dL_law__891 rfl rfl ?_
    refine tw_aload_n 1 dL_law__892 rfl rfl ?_
    refine tw_iload 5 dL_law__893 rfl ?_
    refine tw_iconst (v := 1) dL_law__895 (by decide) ?_
    refine tw_iadd dL_law__896 ?_
    refine tw_nmi (fun v11 ev11 => ?_)
    have q12 : v11 = nI (5 * j + 1) := by rw [ev11]; exact tw_s1 _
    rw [q12]
    refine tw_ti (v := .int y4) (fun _ _ z => z.xs.2.2.2.2.2) dL_law__897 (vp_in_nI (by omega) (by omega)) (congrArg Value.int ey4) ?_
    refine tw_aload_n 1 dL_law__898 rfl rfl ?_
    refine tw_iload 5 dL_law__899 rfl ?_
    refine tw_iconst (v := 2) dL_law__901 (by decide) ?_
    refine tw_iadd dL_law__902 ?_
    refine tw_nmi (fun v13 ev13 => ?_)
    have q14 : v13 = nI (5 * j + 2) := by rw [ev13]; exact tw_s2 _
    rw [q14]
    refine tw_ti (v := .int y7) (fun _ _ z => z.xs.2.2.2.2.2) dL_law__903 (vp_in_nI (by omega) (by omega)) (congrArg Value.int ey7) ?_
    obtain ⟨e15, f16, th_17, td_18, ds_19, fr_20, ca_21, us_22, wo_23, cm_24, lc_25, lh_26, ld_27, rfl, k28, k29, k30, k31, k32, k33, k34, k35, k36, k37, k38, k39, k40, k41, k42, k43, k44, k45, k46, k47, k48, k49⟩ := (tw_sp.rf q8s.1).1 m 36 km1 (by decide)
    refine tw_bi (tw_callV (M := mL_law_) (pc := 904) okX10_give dL_law__904 w_1476 rfl f16 [.int y4, .int y7] [] rfl rfl ⟨by decide, by decide⟩ (Nat.le_of_ble_eq_true rfl) (c2_X10_give d gL τc h9 (tw_sp.rf q8s.1).1 m km1 y4 y7 o ko1) (((c + 900) - 20) - 500) (((n + 5000) - 120) - 2500) (by omega) (by omega)) (fun r52 h51 q50 => ?_) (fun E h1 q => q.elim)
    obtain ⟨g9, τ9, s9, oq9, q50a⟩ := q50
    have kx2 := s9.2.1.k kx1 (by decide)
    have km2 := s9.2.1.k km1 (by decide)
    have ko2 := s9.2.1.k ko1 (by decide)
    have q8cI3 : tw_ix (gL.2 3) y4 := by rw [gl3, ← ok.2.1.2.2.2.1.trans ok.2.1.1]; exact q8cI
    have q8cL3 : (tw_chM gL y4 y7 ≠ none) := by rw [egL, tw_chM_L (Nat.lt_of_lt_of_le (tw_ix_DN q8cI (Nat.le_trans h49 (by decide))) h49), ← tw_I9.ch ok.2.1 q8cI h49]; exact q8cL
    rcases q50a with ⟨z, -⟩ | ⟨-, z, -⟩ | ⟨-, -, z, -⟩ | ⟨-, -, -, hr2, ht, gk9⟩
    · exact absurd q8cI3 z
    · exact absurd q8cR z
    · exact absurd q8cL3 z
    · rw [hr2]
      have ok9 : tw_ok5 d x m o (100000 * j) g9 τ9 h51 := ⟨s9.1, (by rw [gk9, egL]; exact ok.2.1.give q8cI q8cR h49), kx2, km2, ko2, (ok.2.2.2.2.2.cg (fun i hi => by rw [gk9]; (repeat (first | rw [tw_g1_ne (by omega)] | rw [tw_ad_ne (by omega)] | rw [tw_gT_1 (by omega)])); rw [egL]; (repeat (first | rw [tw_g1_ne (by omega)] | rw [tw_ad_ne (by omega)] | rw [tw_gT_1 (by omega)]))))⟩
      have hlg : tw_lg (h51 o) = (nI (tw_sum5 (tw_gF (tw_chC g y4 y7)))).toInt64 := by rw [oq9]; exact q8n
      have sp53 := tw_sp.rf ok9.1
      refine tw_istore [(6, .int (nI (tw_sum5 (tw_gF (tw_chM gL y4 y7))))), (5, .int 0), (0, .ref (d.2 98)), (1, .ref x), (2, .ref m), (3, .ref o), (4, .int (nI (5 * j)))] dL_law__907 (by decide) rfl ?_
      refine tw_goto 1362 dL_law__909 (by decide) ?_
      refine tw_lv [2, 3, 4, 5, 6] rfl ?_
      refine tw_less (c2 := c) (n2 := n) (by omega) (by omega) ?_
      exact J _ _ _ (ok9.up (by omega))
  · rw [q8e]
    have h49 := (tw_b678 ok.1 ok.2.2.1).1
    have kx1 := q8s.2.1.k ok.2.2.1 (by decide)
    have km1 := q8s.2.1.k ok.2.2.2.1 (by decide)
    have ko1 := q8s.2.1.k ok.2.2.2.2.1 (by decide)
    refine tw_istore [(5, .int 1), (0, .ref (d.2 98)), (1, .ref x), (2, .ref m), (3, .ref o), (4, .int (nI (5 * j)))] dL_law__889 (by decide) rfl ?_
    refine tw_aload_n 3 dL_law__891 rfl rfl ?_
    refine tw_aload_n 1 dL_law__892 rfl rfl ?_
    refine tw_iload 5 dL_law__893 rfl ?_
    refine tw_iconst (v := 1) dL_law__895 (by decide) ?_
    refine tw_iadd dL_law__896 ?_
    refine tw_nmi (fun v54 ev54 => ?_)
    have q55 : v54 = nI (5 * j + 1) := by rw [ev54]; exact tw_s1 _
    rw [q55]
    refine tw_ti (v := .int y4) (fun _ _ z => z.xs.2.2.2.2.2) dL_law__897 (vp_in_nI (by omega) (by omega)) (congrArg Value.int ey4) ?_
    refine tw_aload_n 1 dL_law__898 rfl rfl ?_
    refine tw_iload 5 dL_law__899 rfl ?_
    refine tw_iconst (v := 2) dL_law__901 (by decide) ?_
    refine tw_iadd dL_law__902 ?_
    refine tw_nmi (fun v56 ev56 => ?_)
    have q57 : v56 = nI (5 * j + 2) := by rw [ev56]; exact tw_s2 _
    rw [q57]
    refine tw_ti (v := .int y7) (fun _ _ z => z.xs.2.2.2.2.2) dL_law__903 (vp_in_nI (by omega) (by omega)) (congrArg Value.int ey7) ?_
    obtain ⟨e58, f59, th_60, td_61, ds_62, fr_63, ca_64, us_65, wo_66, cm_67, lc_68, lh_69, ld_70, rfl, k71, k72, k73, k74, k75, k76, k77, k78, k79, k80, k81, k82, k83, k84, k85, k86, k87, k88, k89, k90, k91, k92⟩ := (tw_sp.rf q8s.1).1 m 36 km1 (by decide)
    refine tw_bi (tw_callV (M := mL_law_) (pc := 904) okX10_give dL_law__904 w_1476 rfl f59 [.int y4, .int y7] [] rfl rfl ⟨by decide, by decide⟩ (Nat.le_of_ble_eq_true rfl) (c2_X10_give d g τc h9 (tw_sp.rf q8s.1).1 m km1 y4 y7 o ko1) (((c + 900) - 20) - 500) (((n + 5000) - 120) - 2500) (by omega) (by omega)) (fun r95 h94 q93 => ?_) (fun E h1 q => q.elim)
    obtain ⟨g9, τ9, s9, oq9, q93a⟩ := q93
    have kx2 := s9.2.1.k kx1 (by decide)
    have km2 := s9.2.1.k km1 (by decide)
    have ko2 := s9.2.1.k ko1 (by decide)
    have q8cI3 : ¬ tw_ix (g.2 3) y4 := by rw [← ok.2.1.2.2.2.1.trans ok.2.1.1]; exact q8cI
    rcases q93a with ⟨-, ht, eg9⟩ | ⟨z, -⟩ | ⟨z, -⟩ | ⟨z, -⟩
    · rw [eg9] at s9
      have ok9 : tw_ok5 d x m o (100000 * j) g τ9 h94 := ⟨s9.1, ok.2.1, kx2, km2, ko2, ok.2.2.2.2.2⟩
      have sp96 := tw_sp.rf ok9.1
      refine tw_istore [(6, .int r95), (5, .int 1), (0, .ref (d.2 98)), (1, .ref x), (2, .ref m), (3, .ref o), (4, .int (nI (5 * j)))] dL_law__907 (by decide) rfl ?_
      refine tw_goto 1362 dL_law__909 (by decide) ?_
      refine tw_lv [2, 3, 4, 5, 6] rfl ?_
      refine tw_less (c2 := c) (n2 := n) (by omega) (by omega) ?_
      exact J _ _ _ (ok9.up (by omega))
    · exact absurd z q8cI3
    · exact absurd z q8cI3
    · exact absurd z q8cI3
  · rw [q8e]
    have h49 := (tw_b678 ok.1 ok.2.2.1).1
    have kx1 := q8s.2.1.k ok.2.2.1 (by decide)
    have km1 := q8s.2.1.k ok.2.2.2.1 (by decide)
    have ko1 := q8s.2.1.k ok.2.2.2.2.1 (by decide)
    refine tw_istore [(5, .int 2), (0, .ref (d.2 98)), (1, .ref x), (2, .ref m), (3, .ref o), (4, .int (nI (5 * j)))] dL_law__889 (by decide) rfl ?_
    refine tw_aload_n 3 dL_law__891 rfl rfl ?_
    refine tw_aload_n 1 dL_law__892 rfl rfl ?_
    refine tw_iload 5 dL_law__893 rfl ?_
    refine tw_iconst (v := 1) dL_law__895 (by decide) ?_
    refine tw_iadd dL_law__896 ?_
    refine tw_nmi (fun v97 ev97 => ?_)
    have q98 : v97 = nI (5 * j + 1) := by rw [ev97]; exact tw_s1 _
    rw [q98]
    refine tw_ti (v := .int y4) (fun _ _ z => z.xs.2.2.2.2.2) dL_law__897 (vp_in_nI (by omega) (by omega)) (congrArg Value.int ey4) ?_
    refine tw_aload_n 1 dL_law__898 rfl rfl ?_
    refine tw_iload 5 dL_law__899 rfl ?_
    refine tw_iconst (v := 2) dL_law__901 (by decide) ?_
    refine tw_iadd dL_law__902 ?_
    refine tw_nmi (fun v99 ev99 => ?_)
    have q100 : v99 = nI (5 * j + 2) := by rw [ev99]; exact tw_s2 _
    rw [q100]
    refine tw_ti (v := .int y7) (fun _ _ z => z.xs.2.2.2.2.2) dL_law__903 (vp_in_nI (by omega) (by omega)) (congrArg Value.int ey7) ?_
    obtain ⟨e101, f102, th_103, td_104, ds_105, fr_106, ca_107, us_108, wo_109, cm_110, lc_111, lh_112, ld_113, rfl, k114, k115, k116, k117, k118, k119, k120, k121, k122, k123, k124, k125, k126, k127, k128, k129, k130, k131, k132, k133, k134, k135⟩ := (tw_sp.rf q8s.1).1 m 36 km1 (by decide)
    refine tw_bi (tw_callV (M := mL_law_) (pc := 904) okX10_give dL_law__904 w_1476 rfl f102 [.int y4, .int y7] [] rfl rfl ⟨by decide, by decide⟩ (Nat.le_of_ble_eq_true rfl) (c2_X10_give d g τc h9 (tw_sp.rf q8s.1).1 m km1 y4 y7 o ko1) (((c + 900) - 20) - 500) (((n + 5000) - 120) - 2500) (by omega) (by omega)) (fun r138 h137 q136 => ?_) (fun E h1 q => q.elim)
    obtain ⟨g9, τ9, s9, oq9, q136a⟩ := q136
    have kx2 := s9.2.1.k kx1 (by decide)
    have km2 := s9.2.1.k km1 (by decide)
    have ko2 := s9.2.1.k ko1 (by decide)
    have q8cI3 : tw_ix (g.2 3) y4 := by rw [← ok.2.1.2.2.2.1.trans ok.2.1.1]; exact q8cI
    rcases q136a with ⟨z, -⟩ | ⟨-, -, ht, eg9⟩ | ⟨-, z, -⟩ | ⟨-, z, -⟩
    · exact absurd q8cI3 z
    · rw [eg9] at s9
      have ok9 : tw_ok5 d x m o (100000 * j) g τ9 h137 := ⟨s9.1, ok.2.1, kx2, km2, ko2, ok.2.2.2.2.2⟩
      have sp139 := tw_sp.rf ok9.1
      refine tw_istore [(6, .int r138), (5, .int 2), (0, .ref (d.2 98)), (1, .ref x), (2, .ref m), (3, .ref o), (4, .int (nI (5 * j)))] dL_law__907 (by decide) rfl ?_
      refine tw_goto 1362 dL_law__909 (by decide) ?_
      refine tw_lv [2, 3, 4, 5, 6] rfl ?_
      refine tw_less (c2 := c) (n2 := n) (by omega) (by omega) ?_
      exact J _ _ _ (ok9.up (by omega))
    · exact absurd z q8cR
    · exact absurd z q8cR
  · rw [q8e]
    have h49 := (tw_b678 ok.1 ok.2.2.1).1
    have kx1 := q8s.2.1.k ok.2.2.1 (by decide)
    have km1 := q8s.2.1.k ok.2.2.2.1 (by decide)
    have ko1 := q8s.2.1.k ok.2.2.2.2.1 (by decide)
    refine tw_istore [(5, .int 3), (0, .ref (d.2 98)), (1, .ref x), (2, .ref m), (3, .ref o), (4, .int (nI (5 * j)))] dL_law__889 (by decide) rfl ?_
    refine tw_aload_n 3 dL_law__891 rfl rfl ?_
    refine tw_aload_n 1 dL_law__892 rfl rfl ?_
    refine tw_iload 5 dL_law__893 rfl ?_
    refine tw_iconst (v := 1) dL_law__895 (by decide) ?_
    refine tw_iadd dL_law__896 ?_
    refine tw_nmi (fun v140 ev140 => ?_)
    have q141 : v140 = nI (5 * j + 1) := by rw [ev140]; exact tw_s1 _
    rw [q141]
    refine tw_ti (v := .int y4) (fun _ _ z => z.xs.2.2.2.2.2) dL_law__897 (vp_in_nI (by omega) (by omega)) (congrArg Value.int ey4) ?_
    refine tw_aload_n 1 dL_law__898 rfl rfl ?_
    refine tw_iload 5 dL_law__899 rfl ?_
    refine tw_iconst (v := 2) dL_law__901 (by decide) ?_
    refine tw_iadd dL_law__902 ?_
    refine tw_nmi (fun v142 ev142 => ?_)
    have q143 : v142 = nI (5 * j + 2) := by rw [ev142]; exact tw_s2 _
    rw [q143]
    refine tw_ti (v := .int y7) (fun _ _ z => z.xs.2.2.2.2.2) dL_law__903 (vp_in_nI (by omega) (by omega)) (congrArg Value.int ey7) ?_
    obtain ⟨e144, f145, th_146, td_147, ds_148, fr_149, ca_150, us_151, wo_152, cm_153, lc_154, lh_155, ld_156, rfl, k157, k158, k159, k160, k161, k162, k163, k164, k165, k166, k167, k168, k169, k170, k171, k172, k173, k174, k175, k176, k177, k178⟩ := (tw_sp.rf q8s.1).1 m 36 km1 (by decide)
    refine tw_bi (tw_callV (M := mL_law_) (pc := 904) okX10_give dL_law__904 w_1476 rfl f145 [.int y4, .int y7] [] rfl rfl ⟨by decide, by decide⟩ (Nat.le_of_ble_eq_true rfl) (c2_X10_give d g τc h9 (tw_sp.rf q8s.1).1 m km1 y4 y7 o ko1) (((c + 900) - 20) - 500) (((n + 5000) - 120) - 2500) (by omega) (by omega)) (fun r181 h180 q179 => ?_) (fun E h1 q => q.elim)
    obtain ⟨g9, τ9, s9, oq9, q179a⟩ := q179
    have kx2 := s9.2.1.k kx1 (by decide)
    have km2 := s9.2.1.k km1 (by decide)
    have ko2 := s9.2.1.k ko1 (by decide)
    have q8cI3 : tw_ix (g.2 3) y4 := by rw [← ok.2.1.2.2.2.1.trans ok.2.1.1]; exact q8cI
    have q8cL3 : ¬(tw_chM g y4 y7 ≠ none) := by rw [← tw_I9.ch ok.2.1 q8cI h49]; exact q8cL
    rcases q179a with ⟨z, -⟩ | ⟨-, z, -⟩ | ⟨-, -, -, ht, eg9⟩ | ⟨-, -, z, -⟩
    · exact absurd q8cI3 z
    · exact absurd q8cR z
    · rw [eg9] at s9
      have ok9 : tw_ok5 d x m o (100000 * j) g τ9 h180 := ⟨s9.1, ok.2.1, kx2, km2, ko2, ok.2.2.2.2.2⟩
      have sp182 := tw_sp.rf ok9.1
      refine tw_istore [(6, .int r181), (5, .int 3), (0, .ref (d.2 98)), (1, .ref x), (2, .ref m), (3, .ref o), (4, .int (nI (5 * j)))] dL_law__907 (by decide) rfl ?_
      refine tw_goto 1362 dL_law__909 (by decide) ?_
      refine tw_lv [2, 3, 4, 5, 6] rfl ?_
      refine tw_less (c2 := c) (n2 := n) (by omega) (by omega) ?_
      exact J _ _ _ (ok9.up (by omega))
    · exact absurd z q8cL3

set_option maxHeartbeats 4000000 in
set_option maxRecDepth 100000 in
theorem law_case_15 (d : tw_D) (x m o j c n : Nat) (Q : tw_O → tw_H → Prop) (hL : d.2 97 ≤ 2560) (hj : 5 * j + 5 ≤ d.2 97) (J : tw_J d x m o j Q c n) (g : tw_G) (τ : tw_K) (h : tw_H) (ok : tw_ok5 d x m o (100000 * j) g τ h) : tw_W d mL_law_ Q 912 (tw_lv5 d x m o j) [] h (c + 900) (n + 5000) := by
  show tw_W d mL_law_ Q 912 [(0, .ref (d.2 98)), (1, .ref x), (2, .ref m), (3, .ref o), (4, .int (nI (5 * j)))] [] h (c + 900) (n + 5000)
  have sp1 := tw_sp.rf ok.1
  refine tw_aload_n 1 dL_law__912 rfl rfl ?_
  refine tw_aload_n 0 dL_law__913 rfl rfl ?_
  refine tw_iload 4 dL_law__914 rfl ?_
  refine tw_iconst (v := 1) dL_law__916 (by decide) ?_
  refine tw_iadd dL_law__917 ?_
  refine tw_nmi (fun v2 ev2 => ?_)
  have q3 : v2 = nI (5 * j + 1) := by rw [ev2]; exact tw_s1 _
  rw [q3]
  obtain ⟨y4, ey4⟩ : ∃ y : Int32, Int32.ofNat (d.2 (1000 + (nI (5 * j + 1)).toNatClampNeg)) = y := ⟨_, rfl⟩
  refine tw_ti (v := .int y4) (fun _ _ z => z.xs.2.2.2.2.2) dL_law__918 (vp_in_nI (by omega) (by omega)) (congrArg Value.int ey4) ?_
  refine tw_aload_n 0 dL_law__919 rfl rfl ?_
  refine tw_iload 4 dL_law__920 rfl ?_
  refine tw_iconst (v := 2) dL_law__922 (by decide) ?_
  refine tw_iadd dL_law__923 ?_
  refine tw_nmi (fun v5 ev5 => ?_)
  have q6 : v5 = nI (5 * j + 2) := by rw [ev5]; exact tw_s2 _
  rw [q6]
  obtain ⟨y7, ey7⟩ : ∃ y : Int32, Int32.ofNat (d.2 (1000 + (nI (5 * j + 2)).toNatClampNeg)) = y := ⟨_, rfl⟩
  refine tw_ti (v := .int y7) (fun _ _ z => z.xs.2.2.2.2.2) dL_law__924 (vp_in_nI (by omega) (by omega)) (congrArg Value.int ey7) ?_
  refine tw_aload_n 3 dL_law__925 rfl rfl ?_
  refine tw_bi (tw_callSH (M := mL_law_) (pc := 926) okL_coins dL_law__926 w_780 [.ref x, .int y4, .int y7, .ref o] [] rfl rfl ⟨by decide, by decide⟩ (Nat.le_of_ble_eq_true rfl) (c_L_coins d g τ h sp1.1 x ok.2.2.1 y4 y7 o ok.2.2.2.2.1) ((c + 900) - 20) ((n + 5000) - 120) (by omega) (by omega)) (fun r10 h9 q8 => ?_) (fun E h1 q => q.elim)
  obtain ⟨g11, τ12, q8g, q8s⟩ := q8
  have ok13 := ok.go (by rw [q8g]; exact ok.2.1) (by rw [q8g]; exact ok.2.2.2.2.2) q8s
  have sp14 := tw_sp.rf ok13.1
  refine tw_istore [(5, .int r10), (0, .ref (d.2 98)), (1, .ref x), (2, .ref m), (3, .ref o), (4, .int (nI (5 * j)))] dL_law__929 (by decide) rfl ?_
  refine tw_aload_n 3 dL_law__931 rfl rfl ?_
  refine tw_aload_n 1 dL_law__932 rfl rfl ?_
  refine tw_iload 5 dL_law__933 rfl ?_
  refine tw_iconst (v := 1) dL_law__935 (by decide) ?_
  refine tw_iadd dL_law__936 ?_
  refine tw_nmi (fun v15 ev15 => ?_)
  have q16 : v15 = nI (5 * j + 1) := by rw [ev15]; exact tw_s1 _
  rw [q16]
  refine tw_ti (v := .int y4) (fun _ _ z => z.xs.2.2.2.2.2) dL_law__937 (vp_in_nI (by omega) (by omega)) (congrArg Value.int ey4) ?_
  refine tw_aload_n 1 dL_law__938 rfl rfl ?_
  refine tw_iload 5 dL_law__939 rfl ?_
  refine tw_iconst (v := 2) dL_law__941 (by decide) ?_
  refine tw_iadd dL_law__942 ?_
  refine tw_nmi (fun v17 ev17 => ?_)
  have q18 : v17 = nI (5 * j + 2) := by rw [ev17]; exact tw_s2 _
  rw [q18]
  refine tw_ti (v := .int y7) (fun _ _ z => z.xs.2.2.2.2.2) dL_law__943 (vp_in_nI (by omega) (by omega)) (congrArg Value.int ey7) ?_
  obtain ⟨e19, f20, th_21, td_22, ds_23, fr_24, ca_25, us_26, wo_27, cm_28, lc_29, lh_30, ld_31, rfl, k32, k33, k34, k35, k36, k37, k38, k39, k40, k41, k42, k43, k44, k45, k46, k47, k48, k49, k50, k51, k52, k53⟩ := sp14.1 m 36 ok13.2.2.2.1 (by decide)
  refine tw_bi (tw_callV (M := mL_law_) (pc := 944) okX10_coins dL_law__944 w_1489 rfl f20 [.int y4, .int y7] [] rfl rfl ⟨by decide, by decide⟩ (Nat.le_of_ble_eq_true rfl) (c_X10_coins d g11 τ12 h9 sp14.1 m ok13.2.2.2.1 y4 y7) (((c + 900) - 20) - 500) (((n + 5000) - 120) - 2500) (by omega) (by omega)) (fun r56 h55 q54 => ?_) (fun E h1 q => q.elim)
  have q54s := q54
  have ok57 := ok13.go ok13.2.1 ok13.2.2.2.2.2 q54s
  have sp58 := tw_sp.rf ok57.1
  refine tw_istore [(6, .int r56), (5, .int r10), (0, .ref (d.2 98)), (1, .ref x), (2, .ref m), (3, .ref o), (4, .int (nI (5 * j)))] dL_law__947 (by decide) rfl ?_
  refine tw_goto 1362 dL_law__949 (by decide) ?_
  refine tw_lv [2, 3, 4, 5, 6] rfl ?_
  refine tw_less (c2 := c) (n2 := n) (by omega) (by omega) ?_
  exact J _ _ _ (ok57.up (by omega))

set_option maxHeartbeats 4000000 in
set_option maxRecDepth 100000 in
theorem law_case_16 (d : tw_D) (x m o j c n : Nat) (Q : tw_O → tw_H → Prop) (hL : d.2 97 ≤ 2560) (hj : 5 * j + 5 ≤ d.2 97) (J : tw_J d x m o j Q c n) (g : tw_G) (τ : tw_K) (h : tw_H) (ok : tw_ok5 d x m o (100000 * j) g τ h) : tw_W d mL_law_ Q 952 (tw_lv5 d x m o j) [] h (c + 900) (n + 5000) := by
  show tw_W d mL_law_ Q 952 [(0, .ref (d.2 98)), (1, .ref x), (2, .ref m), (3, .ref o), (4, .int (nI (5 * j)))] [] h (c + 900) (n + 5000)
  have sp1 := tw_sp.rf ok.1
  refine tw_aload_n 1 dL_law__952 rfl rfl ?_
  refine tw_aload_n 0 dL_law__953 rfl rfl ?_
  refine tw_iload 4 dL_law__954 rfl ?_
  refine tw_iconst (v := 1) dL_law__956 (by decide) ?_
  refine tw_iadd dL_law__957 ?_
  refine tw_nmi (fun v2 ev2 => ?_)
  have q3 : v2 = nI (5 * j + 1) := by rw [ev2]; exact tw_s1 _
  rw [q3]
  obtain ⟨y4, ey4⟩ : ∃ y : Int32, Int32.ofNat (d.2 (1000 + (nI (5 * j + 1)).toNatClampNeg)) = y := ⟨_, rfl⟩
  refine tw_ti (v := .int y4) (fun _ _ z => z.xs.2.2.2.2.2) dL_law__958 (vp_in_nI (by omega) (by omega)) (congrArg Value.int ey4) ?_
  refine tw_aload_n 0 dL_law__959 rfl rfl ?_
  refine tw_iload 4 dL_law__960 rfl ?_
  refine tw_iconst (v := 2) dL_law__962 (by decide) ?_
  refine tw_iadd dL_law__963 ?_
  refine tw_nmi (fun v5 ev5 => ?_)
  have q6 : v5 = nI (5 * j + 2) := by rw [ev5]; exact tw_s2 _
  rw [q6]
  obtain ⟨y7, ey7⟩ : ∃ y : Int32, Int32.ofNat (d.2 (1000 + (nI (5 * j + 2)).toNatClampNeg)) = y := ⟨_, rfl⟩
  refine tw_ti (v := .int y7) (fun _ _ z => z.xs.2.2.2.2.2) dL_law__964 (vp_in_nI (by omega) (by omega)) (congrArg Value.int ey7) ?_
  refine tw_aload_n 3 dL_law__965 rfl rfl ?_
  refine tw_bi (tw_callSH (M := mL_law_) (pc := 966) okL_ofCountry dL_law__966 w_787 [.ref x, .int y4, .int y7, .ref o] [] rfl rfl ⟨by decide, by decide⟩ (Nat.le_of_ble_eq_true rfl) (c_L_ofCountry d g τ h sp1.1 x ok.2.2.1 y4 y7 o ok.2.2.2.2.1) ((c + 900) - 20) ((n + 5000) - 120) (by omega) (by omega)) (fun r10 h9 q8 => ?_) (fun E h1 q => q.elim)
  obtain ⟨g11, τ12, q8g, q8s⟩ := q8
  have ok13 := ok.go (by rw [q8g]; exact ok.2.1) (by rw [q8g]; exact ok.2.2.2.2.2) q8s
  have sp14 := tw_sp.rf ok13.1
  refine tw_istore [(5, .int r10), (0, .ref (d.2 98)), (1, .ref x), (2, .ref m), (3, .ref o), (4, .int (nI (5 * j)))] dL_law__969 (by decide) rfl ?_
  refine tw_aload_n 3 dL_law__971 rfl rfl ?_
  refine tw_aload_n 1 dL_law__972 rfl rfl ?_
  refine tw_iload 5 dL_law__973 rfl ?_
  refine tw_iconst (v := 1) dL_law__975 (by decide) ?_
  refine tw_iadd dL_law__976 ?_
  refine tw_nmi (fun v15 ev15 => ?_)
  have q16 : v15 = nI (5 * j + 1) := by rw [ev15]; exact tw_s1 _
  rw [q16]
  refine tw_ti (v := .int y4) (fun _ _ z => z.xs.2.2.2.2.2) dL_law__977 (vp_in_nI (by omega) (by omega)) (congrArg Value.int ey4) ?_
  refine tw_aload_n 1 dL_law__978 rfl rfl ?_
  refine tw_iload 5 dL_law__979 rfl ?_
  refine tw_iconst (v := 2) dL_law__981 (by decide) ?_
  refine tw_iadd dL_law__982 ?_
  refine tw_nmi (fun v17 ev17 => ?_)
  have q18 : v17 = nI (5 * j + 2) := by rw [ev17]; exact tw_s2 _
  rw [q18]
  refine tw_ti (v := .int y7) (fun _ _ z => z.xs.2.2.2.2.2) dL_law__983 (vp_in_nI (by omega) (by omega)) (congrArg Value.int ey7) ?_
  obtain ⟨e19, f20, th_21, td_22, ds_23, fr_24, ca_25, us_26, wo_27, cm_28, lc_29, lh_30, ld_31, rfl, k32, k33, k34, k35, k36, k37, k38, k39, k40, k41, k42, k43, k44, k45, k46, k47, k48, k49, k50, k51, k52, k53⟩ := sp14.1 m 36 ok13.2.2.2.1 (by decide)
  refine tw_bi (tw_callV (M := mL_law_) (pc := 984) okX10_ofCountry dL_law__984 w_1497 rfl f20 [.int y4, .int y7] [] rfl rfl ⟨by decide, by decide⟩ (Nat.le_of_ble_eq_true rfl) (c_X10_ofCountry d g11 τ12 h9 sp14.1 m ok13.2.2.2.1 y4 y7) (((c + 900) - 20) - 3) (((n + 5000) - 120) - 17) (by omega) (by omega)) (fun r56 h55 q54 => ?_) (fun E h1 q => q.elim)
  have q54s := q54
  have ok57 := ok13.go ok13.2.1 ok13.2.2.2.2.2 q54s
  have sp58 := tw_sp.rf ok57.1
  refine tw_istore [(6, .int r56), (5, .int r10), (0, .ref (d.2 98)), (1, .ref x), (2, .ref m), (3, .ref o), (4, .int (nI (5 * j)))] dL_law__987 (by decide) rfl ?_
  refine tw_goto 1362 dL_law__989 (by decide) ?_
  refine tw_lv [2, 3, 4, 5, 6] rfl ?_
  refine tw_less (c2 := c) (n2 := n) (by omega) (by omega) ?_
  exact J _ _ _ (ok57.up (by omega))

set_option maxHeartbeats 4000000 in
set_option maxRecDepth 100000 in
theorem law_case_17 (d : tw_D) (x m o j c n : Nat) (Q : tw_O → tw_H → Prop) (hL : d.2 97 ≤ 2560) (hj : 5 * j + 5 ≤ d.2 97) (J : tw_J d x m o j Q c n) (g : tw_G) (τ : tw_K) (h : tw_H) (ok : tw_ok5 d x m o (100000 * j) g τ h) : tw_W d mL_law_ Q 992 (tw_lv5 d x m o j) [] h (c + 900) (n + 5000) := by
  show tw_W d mL_law_ Q 992 [(0, .ref (d.2 98)), (1, .ref x), (2, .ref m), (3, .ref o), (4, .int (nI (5 * j)))] [] h (c + 900) (n + 5000)
  have sp1 := tw_sp.rf ok.1
  refine tw_aload_n 1 dL_law__992 rfl rfl ?_
  refine tw_aload_n 0 dL_law__993 rfl rfl ?_
  refine tw_iload 4 dL_law__994 rfl ?_
  refine tw_iconst (v := 1) dL_law__996 (by decide) ?_
  refine tw_iadd dL_law__997 ?_
  refine tw_nmi (fun v2 ev2 => ?_)
  have q3 : v2 = nI (5 * j + 1) := by rw [ev2]; exact tw_s1 _
  rw [q3]
  obtain ⟨y4, ey4⟩ : ∃ y : Int32, Int32.ofNat (d.2 (1000 + (nI (5 * j + 1)).toNatClampNeg)) = y := ⟨_, rfl⟩
  refine tw_ti (v := .int y4) (fun _ _ z => z.xs.2.2.2.2.2) dL_law__998 (vp_in_nI (by omega) (by omega)) (congrArg Value.int ey4) ?_
  refine tw_aload_n 0 dL_law__999 rfl rfl ?_
  refine tw_iload 4 dL_law__1000 rfl ?_
  refine tw_iconst (v := 2) dL_law__1002 (by decide) ?_
  refine tw_iadd dL_law__1003 ?_
  refine tw_nmi (fun v5 ev5 => ?_)
  have q6 : v5 = nI (5 * j + 2) := by rw [ev5]; exact tw_s2 _
  rw [q6]
  obtain ⟨y7, ey7⟩ : ∃ y : Int32, Int32.ofNat (d.2 (1000 + (nI (5 * j + 2)).toNatClampNeg)) = y := ⟨_, rfl⟩
  refine tw_ti (v := .int y7) (fun _ _ z => z.xs.2.2.2.2.2) dL_law__1004 (vp_in_nI (by omega) (by omega)) (congrArg Value.int ey7) ?_
  refine tw_aload_n 3 dL_law__1005 rfl rfl ?_
  refine tw_bi (tw_callSH (M := mL_law_) (pc := 1006) okL_ofHouse dL_law__1006 w_794 [.ref x, .int y4, .int y7, .ref o] [] rfl rfl ⟨by decide, by decide⟩ (Nat.le_of_ble_eq_true rfl) (c_L_ofHouse d g τ h sp1.1 x ok.2.2.1 y4 y7 o ok.2.2.2.2.1) ((c + 900) - 20) ((n + 5000) - 120) (by omega) (by omega)) (fun r10 h9 q8 => ?_) (fun E h1 q => q.elim)
  obtain ⟨g11, τ12, q8g, q8s⟩ := q8
  have ok13 := ok.go (by rw [q8g]; exact ok.2.1) (by rw [q8g]; exact ok.2.2.2.2.2) q8s
  have sp14 := tw_sp.rf ok13.1
  refine tw_istore [(5, .int r10), (0, .ref (d.2 98)), (1, .ref x), (2, .ref m), (3, .ref o), (4, .int (nI (5 * j)))] dL_law__1009 (by decide) rfl ?_
  refine tw_aload_n 3 dL_law__1011 rfl rfl ?_
  refine tw_aload_n 1 dL_law__1012 rfl rfl ?_
  refine tw_iload 5 dL_law__1013 rfl ?_
  refine tw_iconst (v := 1) dL_law__1015 (by decide) ?_
  refine tw_iadd dL_law__1016 ?_
  refine tw_nmi (fun v15 ev15 => ?_)
  have q16 : v15 = nI (5 * j + 1) := by rw [ev15]; exact tw_s1 _
  rw [q16]
  refine tw_ti (v := .int y4) (fun _ _ z => z.xs.2.2.2.2.2) dL_law__1017 (vp_in_nI (by omega) (by omega)) (congrArg Value.int ey4) ?_
  refine tw_aload_n 1 dL_law__1018 rfl rfl ?_
  refine tw_iload 5 dL_law__1019 rfl ?_
  refine tw_iconst (v := 2) dL_law__1021 (by decide) ?_
  refine tw_iadd dL_law__1022 ?_
  refine tw_nmi (fun v17 ev17 => ?_)
  have q18 : v17 = nI (5 * j + 2) := by rw [ev17]; exact tw_s2 _
  rw [q18]
  refine tw_ti (v := .int y7) (fun _ _ z => z.xs.2.2.2.2.2) dL_law__1023 (vp_in_nI (by omega) (by omega)) (congrArg Value.int ey7) ?_
  obtain ⟨e19, f20, th_21, td_22, ds_23, fr_24, ca_25, us_26, wo_27, cm_28, lc_29, lh_30, ld_31, rfl, k32, k33, k34, k35, k36, k37, k38, k39, k40, k41, k42, k43, k44, k45, k46, k47, k48, k49, k50, k51, k52, k53⟩ := sp14.1 m 36 ok13.2.2.2.1 (by decide)
  refine tw_bi (tw_callV (M := mL_law_) (pc := 1024) okX10_ofHouse dL_law__1024 w_1509 rfl f20 [.int y4, .int y7] [] rfl rfl ⟨by decide, by decide⟩ (Nat.le_of_ble_eq_true rfl) (c_X10_ofHouse d g11 τ12 h9 sp14.1 m ok13.2.2.2.1 y4 y7) (((c + 900) - 20) - 2) (((n + 5000) - 120) - 12) (by omega) (by omega)) (fun r56 h55 q54 => ?_) (fun E h1 q => q.elim)
  have q54s := q54
  have ok57 := ok13.go ok13.2.1 ok13.2.2.2.2.2 q54s
  have sp58 := tw_sp.rf ok57.1
  refine tw_istore [(6, .int r56), (5, .int r10), (0, .ref (d.2 98)), (1, .ref x), (2, .ref m), (3, .ref o), (4, .int (nI (5 * j)))] dL_law__1027 (by decide) rfl ?_
  refine tw_goto 1362 dL_law__1029 (by decide) ?_
  refine tw_lv [2, 3, 4, 5, 6] rfl ?_
  refine tw_less (c2 := c) (n2 := n) (by omega) (by omega) ?_
  exact J _ _ _ (ok57.up (by omega))

set_option maxHeartbeats 4000000 in
set_option maxRecDepth 100000 in
theorem law_case_18 (d : tw_D) (x m o j c n : Nat) (Q : tw_O → tw_H → Prop) (hL : d.2 97 ≤ 2560) (hj : 5 * j + 5 ≤ d.2 97) (J : tw_J d x m o j Q c n) (g : tw_G) (τ : tw_K) (h : tw_H) (ok : tw_ok5 d x m o (100000 * j) g τ h) : tw_W d mL_law_ Q 1032 (tw_lv5 d x m o j) [] h (c + 900) (n + 5000) := by
  show tw_W d mL_law_ Q 1032 [(0, .ref (d.2 98)), (1, .ref x), (2, .ref m), (3, .ref o), (4, .int (nI (5 * j)))] [] h (c + 900) (n + 5000)
  have sp1 := tw_sp.rf ok.1
  refine tw_aload_n 1 dL_law__1032 rfl rfl ?_
  refine tw_aload_n 0 dL_law__1033 rfl rfl ?_
  refine tw_iload 4 dL_law__1034 rfl ?_
  refine tw_iconst (v := 1) dL_law__1036 (by decide) ?_
  refine tw_iadd dL_law__1037 ?_
  refine tw_nmi (fun v2 ev2 => ?_)
  have q3 : v2 = nI (5 * j + 1) := by rw [ev2]; exact tw_s1 _
  rw [q3]
  obtain ⟨y4, ey4⟩ : ∃ y : Int32, Int32.ofNat (d.2 (1000 + (nI (5 * j + 1)).toNatClampNeg)) = y := ⟨_, rfl⟩
  refine tw_ti (v := .int y4) (fun _ _ z => z.xs.2.2.2.2.2) dL_law__1038 (vp_in_nI (by omega) (by omega)) (congrArg Value.int ey4) ?_
  refine tw_aload_n 0 dL_law__1039 rfl rfl ?_
  refine tw_iload 4 dL_law__1040 rfl ?_
  refine tw_iconst (v := 2) dL_law__1042 (by decide) ?_
  refine tw_iadd dL_law__1043 ?_
  refine tw_nmi (fun v5 ev5 => ?_)
  have q6 : v5 = nI (5 * j + 2) := by rw [ev5]; exact tw_s2 _
  rw [q6]
  obtain ⟨y7, ey7⟩ : ∃ y : Int32, Int32.ofNat (d.2 (1000 + (nI (5 * j + 2)).toNatClampNeg)) = y := ⟨_, rfl⟩
  refine tw_ti (v := .int y7) (fun _ _ z => z.xs.2.2.2.2.2) dL_law__1044 (vp_in_nI (by omega) (by omega)) (congrArg Value.int ey7) ?_
  refine tw_aload_n 3 dL_law__1045 rfl rfl ?_
  refine tw_bi (tw_callSH (M := mL_law_) (pc := 1046) okL_ofDebt dL_law__1046 w_801 [.ref x, .int y4, .int y7, .ref o] [] rfl rfl ⟨by decide, by decide⟩ (Nat.le_of_ble_eq_true rfl) (c_L_ofDebt d g τ h sp1.1 x ok.2.2.1 y4 y7 o ok.2.2.2.2.1) ((c + 900) - 20) ((n + 5000) - 120) (by omega) (by omega)) (fun r10 h9 q8 => ?_) (fun E h1 q => q.elim)
  obtain ⟨g11, τ12, q8g, q8s⟩ := q8
  have ok13 := ok.go (by rw [q8g]; exact ok.2.1) (by rw [q8g]; exact ok.2.2.2.2.2) q8s
  have sp14 := tw_sp.rf ok13.1
  refine tw_istore [(5, .int r10), (0, .ref (d.2 98)), (1, .ref x), (2, .ref m), (3, .ref o), (4, .int (nI (5 * j)))] dL_law__1049 (by decide) rfl ?_
  refine tw_aload_n 3 dL_law__1051 rfl rfl ?_
  refine tw_aload_n 1 dL_law__1052 rfl rfl ?_
  refine tw_iload 5 dL_law__1053 rfl ?_
  refine tw_iconst (v := 1) dL_law__1055 (by decide) ?_
  refine tw_iadd dL_law__1056 ?_
  refine tw_nmi (fun v15 ev15 => ?_)
  have q16 : v15 = nI (5 * j + 1) := by rw [ev15]; exact tw_s1 _
  rw [q16]
  refine tw_ti (v := .int y4) (fun _ _ z => z.xs.2.2.2.2.2) dL_law__1057 (vp_in_nI (by omega) (by omega)) (congrArg Value.int ey4) ?_
  refine tw_aload_n 1 dL_law__1058 rfl rfl ?_
  refine tw_iload 5 dL_law__1059 rfl ?_
  refine tw_iconst (v := 2) dL_law__1061 (by decide) ?_
  refine tw_iadd dL_law__1062 ?_
  refine tw_nmi (fun v17 ev17 => ?_)
  have q18 : v17 = nI (5 * j + 2) := by rw [ev17]; exact tw_s2 _
  rw [q18]
  refine tw_ti (v := .int y7) (fun _ _ z => z.xs.2.2.2.2.2) dL_law__1063 (vp_in_nI (by omega) (by omega)) (congrArg Value.int ey7) ?_
  obtain ⟨e19, f20, th_21, td_22, ds_23, fr_24, ca_25, us_26, wo_27, cm_28, lc_29, lh_30, ld_31, rfl, k32, k33, k34, k35, k36, k37, k38, k39, k40, k41, k42, k43, k44, k45, k46, k47, k48, k49, k50, k51, k52, k53⟩ := sp14.1 m 36 ok13.2.2.2.1 (by decide)
  refine tw_bi (tw_callV (M := mL_law_) (pc := 1064) okX10_ofDebt dL_law__1064 w_1517 rfl f20 [.int y4, .int y7] [] rfl rfl ⟨by decide, by decide⟩ (Nat.le_of_ble_eq_true rfl) (c_X10_ofDebt d g11 τ12 h9 sp14.1 m ok13.2.2.2.1 y4 y7) (((c + 900) - 20) - 1) (((n + 5000) - 120) - 7) (by omega) (by omega)) (fun r56 h55 q54 => ?_) (fun E h1 q => q.elim)
  have q54s := q54
  have ok57 := ok13.go ok13.2.1 ok13.2.2.2.2.2 q54s
  have sp58 := tw_sp.rf ok57.1
  refine tw_istore [(6, .int r56), (5, .int r10), (0, .ref (d.2 98)), (1, .ref x), (2, .ref m), (3, .ref o), (4, .int (nI (5 * j)))] dL_law__1067 (by decide) rfl ?_
  refine tw_goto 1362 dL_law__1069 (by decide) ?_
  refine tw_lv [2, 3, 4, 5, 6] rfl ?_
  refine tw_less (c2 := c) (n2 := n) (by omega) (by omega) ?_
  exact J _ _ _ (ok57.up (by omega))

set_option maxHeartbeats 4000000 in
set_option maxRecDepth 100000 in
theorem law_case_19 (d : tw_D) (x m o j c n : Nat) (Q : tw_O → tw_H → Prop) (hL : d.2 97 ≤ 2560) (hj : 5 * j + 5 ≤ d.2 97) (J : tw_J d x m o j Q c n) (g : tw_G) (τ : tw_K) (h : tw_H) (ok : tw_ok5 d x m o (100000 * j) g τ h) : tw_W d mL_law_ Q 1072 (tw_lv5 d x m o j) [] h (c + 900) (n + 5000) := by
  show tw_W d mL_law_ Q 1072 [(0, .ref (d.2 98)), (1, .ref x), (2, .ref m), (3, .ref o), (4, .int (nI (5 * j)))] [] h (c + 900) (n + 5000)
  have sp1 := tw_sp.rf ok.1
  refine tw_aload_n 1 dL_law__1072 rfl rfl ?_
  refine tw_aload_n 0 dL_law__1073 rfl rfl ?_
  refine tw_iload 4 dL_law__1074 rfl ?_
  refine tw_iconst (v := 1) dL_law__1076 (by decide) ?_
  refine tw_iadd dL_law__1077 ?_
  refine tw_nmi (fun v2 ev2 => ?_)
  have q3 : v2 = nI (5 * j + 1) := by rw [ev2]; exact tw_s1 _
  rw [q3]
  obtain ⟨y4, ey4⟩ : ∃ y : Int32, Int32.ofNat (d.2 (1000 + (nI (5 * j + 1)).toNatClampNeg)) = y := ⟨_, rfl⟩
  refine tw_ti (v := .int y4) (fun _ _ z => z.xs.2.2.2.2.2) dL_law__1078 (vp_in_nI (by omega) (by omega)) (congrArg Value.int ey4) ?_
  refine tw_aload_n 0 dL_law__1079 rfl rfl ?_
  refine tw_iload 4 dL_law__1080 rfl ?_
  refine tw_iconst (v := 2) dL_law__1082 (by decide) ?_
  refine tw_iadd dL_law__1083 ?_
  refine tw_nmi (fun v5 ev5 => ?_)
  have q6 : v5 = nI (5 * j + 2) := by rw [ev5]; exact tw_s2 _
  rw [q6]
  obtain ⟨y7, ey7⟩ : ∃ y : Int32, Int32.ofNat (d.2 (1000 + (nI (5 * j + 2)).toNatClampNeg)) = y := ⟨_, rfl⟩
  refine tw_ti (v := .int y7) (fun _ _ z => z.xs.2.2.2.2.2) dL_law__1084 (vp_in_nI (by omega) (by omega)) (congrArg Value.int ey7) ?_
  refine tw_aload_n 3 dL_law__1085 rfl rfl ?_
  refine tw_bi (tw_callSH (M := mL_law_) (pc := 1086) okL_world dL_law__1086 w_808 [.ref x, .int y4, .int y7, .ref o] [] rfl rfl ⟨by decide, by decide⟩ (Nat.le_of_ble_eq_true rfl) (c_L_world d g τ h sp1.1 x ok.2.2.1 y4 y7 o ok.2.2.2.2.1) ((c + 900) - 20) ((n + 5000) - 120) (by omega) (by omega)) (fun r10 h9 q8 => ?_) (fun E h1 q => q.elim)
  obtain ⟨g11, τ12, q8g, q8s⟩ := q8
  have ok13 := ok.go (by rw [q8g]; exact ok.2.1) (by rw [q8g]; exact ok.2.2.2.2.2) q8s
  have sp14 := tw_sp.rf ok13.1
  refine tw_istore [(5, .int r10), (0, .ref (d.2 98)), (1, .ref x), (2, .ref m), (3, .ref o), (4, .int (nI (5 * j)))] dL_law__1089 (by decide) rfl ?_
  refine tw_aload_n 3 dL_law__1091 rfl rfl ?_
  refine tw_aload_n 1 dL_law__1092 rfl rfl ?_
  refine tw_iload 5 dL_law__1093 rfl ?_
  refine tw_iconst (v := 1) dL_law__1095 (by decide) ?_
  refine tw_iadd dL_law__1096 ?_
  refine tw_nmi (fun v15 ev15 => ?_)
  have q16 : v15 = nI (5 * j + 1) := by rw [ev15]; exact tw_s1 _
  rw [q16]
  refine tw_ti (v := .int y4) (fun _ _ z => z.xs.2.2.2.2.2) dL_law__1097 (vp_in_nI (by omega) (by omega)) (congrArg Value.int ey4) ?_
  refine tw_aload_n 1 dL_law__1098 rfl rfl ?_
  refine tw_iload 5 dL_law__1099 rfl ?_
  refine tw_iconst (v := 2) dL_law__1101 (by decide) ?_
  refine tw_iadd dL_law__1102 ?_
  refine tw_nmi (fun v17 ev17 => ?_)
  have q18 : v17 = nI (5 * j + 2) := by rw [ev17]; exact tw_s2 _
  rw [q18]
  refine tw_ti (v := .int y7) (fun _ _ z => z.xs.2.2.2.2.2) dL_law__1103 (vp_in_nI (by omega) (by omega)) (congrArg Value.int ey7) ?_
  obtain ⟨e19, f20, th_21, td_22, ds_23, fr_24, ca_25, us_26, wo_27, cm_28, lc_29, lh_30, ld_31, rfl, k32, k33, k34, k35, k36, k37, k38, k39, k40, k41, k42, k43, k44, k45, k46, k47, k48, k49, k50, k51, k52, k53⟩ := sp14.1 m 36 ok13.2.2.2.1 (by decide)
  refine tw_bi (tw_callV (M := mL_law_) (pc := 1104) okX10_world dL_law__1104 w_1529 rfl f20 [.int y4, .int y7] [] rfl rfl ⟨by decide, by decide⟩ (Nat.le_of_ble_eq_true rfl) (c_X10_world d g11 τ12 h9 sp14.1 m ok13.2.2.2.1 y4 y7) (((c + 900) - 20) - 3) (((n + 5000) - 120) - 14) (by omega) (by omega)) (fun r56 h55 q54 => ?_) (fun E h1 q => q.elim)
  have q54s := q54
  have ok57 := ok13.go ok13.2.1 ok13.2.2.2.2.2 q54s
  have sp58 := tw_sp.rf ok57.1
  refine tw_istore [(6, .int r56), (5, .int r10), (0, .ref (d.2 98)), (1, .ref x), (2, .ref m), (3, .ref o), (4, .int (nI (5 * j)))] dL_law__1107 (by decide) rfl ?_
  refine tw_goto 1362 dL_law__1109 (by decide) ?_
  refine tw_lv [2, 3, 4, 5, 6] rfl ?_
  refine tw_less (c2 := c) (n2 := n) (by omega) (by omega) ?_
  exact J _ _ _ (ok57.up (by omega))

set_option maxHeartbeats 4000000 in
set_option maxRecDepth 100000 in
theorem law_case_20 (d : tw_D) (x m o j c n : Nat) (Q : tw_O → tw_H → Prop) (hL : d.2 97 ≤ 2560) (hj : 5 * j + 5 ≤ d.2 97) (J : tw_J d x m o j Q c n) (g : tw_G) (τ : tw_K) (h : tw_H) (ok : tw_ok5 d x m o (100000 * j) g τ h) : tw_W d mL_law_ Q 1112 (tw_lv5 d x m o j) [] h (c + 900) (n + 5000) := by
  show tw_W d mL_law_ Q 1112 [(0, .ref (d.2 98)), (1, .ref x), (2, .ref m), (3, .ref o), (4, .int (nI (5 * j)))] [] h (c + 900) (n + 5000)
  have sp1 := tw_sp.rf ok.1
  refine tw_aload_n 1 dL_law__1112 rfl rfl ?_
  refine tw_aload_n 0 dL_law__1113 rfl rfl ?_
  refine tw_iload 4 dL_law__1114 rfl ?_
  refine tw_iconst (v := 1) dL_law__1116 (by decide) ?_
  refine tw_iadd dL_law__1117 ?_
  refine tw_nmi (fun v2 ev2 => ?_)
  have q3 : v2 = nI (5 * j + 1) := by rw [ev2]; exact tw_s1 _
  rw [q3]
  obtain ⟨y4, ey4⟩ : ∃ y : Int32, Int32.ofNat (d.2 (1000 + (nI (5 * j + 1)).toNatClampNeg)) = y := ⟨_, rfl⟩
  refine tw_ti (v := .int y4) (fun _ _ z => z.xs.2.2.2.2.2) dL_law__1118 (vp_in_nI (by omega) (by omega)) (congrArg Value.int ey4) ?_
  refine tw_aload_n 3 dL_law__1119 rfl rfl ?_
  refine tw_bi (tw_callSH (M := mL_law_) (pc := 1120) okL_sign dL_law__1120 w_815 [.ref x, .int y4, .ref o] [] rfl rfl ⟨by decide, by decide⟩ (Nat.le_of_ble_eq_true rfl) (c_L_sign d g τ h sp1.1 x ok.2.2.1 y4 o ok.2.2.2.2.1) ((c + 900) - 6) ((n + 5000) - 64) (by omega) (by omega)) (fun r7 h6 q5 => ?_) (fun E h1 q => q.elim)
  obtain ⟨g8, τ9, q5g, q5s⟩ := q5
  have ok10 := ok.go (by rw [q5g]; exact ok.2.1) (by rw [q5g]; exact ok.2.2.2.2.2) q5s
  have sp11 := tw_sp.rf ok10.1
  refine tw_istore [(5, .int r7), (0, .ref (d.2 98)), (1, .ref x), (2, .ref m), (3, .ref o), (4, .int (nI (5 * j)))] dL_law__1123 (by decide) rfl ?_
  refine tw_aload_n 3 dL_law__1125 rfl rfl ?_
  refine tw_aload_n 1 dL_law__1126 rfl rfl ?_
  refine tw_iload 5 dL_law__1127 rfl ?_
  refine tw_iconst (v := 1) dL_law__1129 (by decide) ?_
  refine tw_iadd dL_law__1130 ?_
  refine tw_nmi (fun v12 ev12 => ?_)
  have q13 : v12 = nI (5 * j + 1) := by rw [ev12]; exact tw_s1 _
  rw [q13]
  refine tw_ti (v := .int y4) (fun _ _ z => z.xs.2.2.2.2.2) dL_law__1131 (vp_in_nI (by omega) (by omega)) (congrArg Value.int ey4) ?_
  obtain ⟨e14, f15, th_16, td_17, ds_18, fr_19, ca_20, us_21, wo_22, cm_23, lc_24, lh_25, ld_26, rfl, k27, k28, k29, k30, k31, k32, k33, k34, k35, k36, k37, k38, k39, k40, k41, k42, k43, k44, k45, k46, k47, k48⟩ := sp11.1 m 36 ok10.2.2.2.1 (by decide)
  refine tw_br (tw_callV (M := mL_law_) (pc := 1132) okX10_sign dL_law__1132 w_1537 rfl f15 [.int y4] [] rfl rfl ⟨by decide, by decide⟩ (Nat.le_of_ble_eq_true rfl) (c_X10_sign d g8 τ9 h6 sp11.1 m ok10.2.2.2.1 y4) (((c + 900) - 6) - 6) (((n + 5000) - 64) - 64) (by omega) (by omega)) (fun r51 h50 q49 => ?_) (fun E h1 q => q.elim)
  have q49s := q49
  have ok52 := ok10.go ok10.2.1 ok10.2.2.2.2.2 q49s
  have sp53 := tw_sp.rf ok52.1
  refine tw_astore [(6, .ref r51), (5, .int r7), (0, .ref (d.2 98)), (1, .ref x), (2, .ref m), (3, .ref o), (4, .int (nI (5 * j)))] dL_law__1135 (by decide) rfl ?_
  refine tw_goto 1362 dL_law__1137 (by decide) ?_
  refine tw_lv [2, 3, 4, 5, 6] rfl ?_
  refine tw_less (c2 := c) (n2 := n) (by omega) (by omega) ?_
  exact J _ _ _ (ok52.up (by omega))

set_option maxHeartbeats 4000000 in
set_option maxRecDepth 100000 in
theorem law_case_21 (d : tw_D) (x m o j c n : Nat) (Q : tw_O → tw_H → Prop) (hL : d.2 97 ≤ 2560) (hj : 5 * j + 5 ≤ d.2 97) (J : tw_J d x m o j Q c n) (g : tw_G) (τ : tw_K) (h : tw_H) (ok : tw_ok5 d x m o (100000 * j) g τ h) : tw_W d mL_law_ Q 1140 (tw_lv5 d x m o j) [] h (c + 900) (n + 5000) := by
  show tw_W d mL_law_ Q 1140 [(0, .ref (d.2 98)), (1, .ref x), (2, .ref m), (3, .ref o), (4, .int (nI (5 * j)))] [] h (c + 900) (n + 5000)
  have sp1 := tw_sp.rf ok.1
  refine tw_aload_n 1 dL_law__1140 rfl rfl ?_
  refine tw_aload_n 0 dL_law__1141 rfl rfl ?_
  refine tw_iload 4 dL_law__1142 rfl ?_
  refine tw_iconst (v := 1) dL_law__1144 (by decide) ?_
  refine tw_iadd dL_law__1145 ?_
  refine tw_nmi (fun v2 ev2 => ?_)
  have q3 : v2 = nI (5 * j + 1) := by rw [ev2]; exact tw_s1 _
  rw [q3]
  obtain ⟨y4, ey4⟩ : ∃ y : Int32, Int32.ofNat (d.2 (1000 + (nI (5 * j + 1)).toNatClampNeg)) = y := ⟨_, rfl⟩
  refine tw_ti (v := .int y4) (fun _ _ z => z.xs.2.2.2.2.2) dL_law__1146 (vp_in_nI (by omega) (by omega)) (congrArg Value.int ey4) ?_
  refine tw_aload_n 0 dL_law__1147 rfl rfl ?_
  refine tw_iload 4 dL_law__1148 rfl ?_
  refine tw_iconst (v := 2) dL_law__1150 (by decide) ?_
  refine tw_iadd dL_law__1151 ?_
  refine tw_nmi (fun v5 ev5 => ?_)
  have q6 : v5 = nI (5 * j + 2) := by rw [ev5]; exact tw_s2 _
  rw [q6]
  obtain ⟨y7, ey7⟩ : ∃ y : Int32, Int32.ofNat (d.2 (1000 + (nI (5 * j + 2)).toNatClampNeg)) = y := ⟨_, rfl⟩
  refine tw_ti (v := .int y7) (fun _ _ z => z.xs.2.2.2.2.2) dL_law__1152 (vp_in_nI (by omega) (by omega)) (congrArg Value.int ey7) ?_
  refine tw_aload_n 0 dL_law__1153 rfl rfl ?_
  refine tw_iload 4 dL_law__1154 rfl ?_
  refine tw_iconst (v := 3) dL_law__1156 (by decide) ?_
  refine tw_iadd dL_law__1157 ?_
  refine tw_nmi (fun v8 ev8 => ?_)
  have q9 : v8 = nI (5 * j + 3) := by rw [ev8]; exact tw_s3 _
  rw [q9]
  obtain ⟨y10, ey10⟩ : ∃ y : Int32, Int32.ofNat (d.2 (1000 + (nI (5 * j + 3)).toNatClampNeg)) = y := ⟨_, rfl⟩
  refine tw_ti (v := .int y10) (fun _ _ z => z.xs.2.2.2.2.2) dL_law__1158 (vp_in_nI (by omega) (by omega)) (congrArg Value.int ey10) ?_
  refine tw_aload_n 0 dL_law__1159 rfl rfl ?_
  refine tw_iload 4 dL_law__1160 rfl ?_
  refine tw_iconst (v := 4) dL_law__1162 (by decide) ?_
  refine tw_iadd dL_law__1163 ?_
  refine tw_nmi (fun v11 ev11 => ?_)
  have q12 : v11 = nI (5 * j + 4) := by rw [ev11]; exact tw_s4 _
  rw [q12]
  obtain ⟨y13, ey13⟩ : ∃ y : Int32, Int32.ofNat (d.2 (1000 + (nI (5 * j + 4)).toNatClampNeg)) = y := ⟨_, rfl⟩
  refine tw_ti (v := .int y13) (fun _ _ z => z.xs.2.2.2.2.2) dL_law__1164 (vp_in_nI (by omega) (by omega)) (congrArg Value.int ey13) ?_
  refine tw_aload_n 3 dL_law__1165 rfl rfl ?_
  refine tw_bi (tw_callSH (M := mL_law_) (pc := 1166) okL_trip dL_law__1166 w_1085 [.ref x, .int y4, .int y7, .int y10, .int y13, .ref o] [] rfl rfl ⟨by decide, by decide⟩ (Nat.le_of_ble_eq_true rfl) (c_L_trip d g τ h sp1.1 x ok.2.2.1 y4 y7 y10 y13 o ok.2.2.2.2.1) ((c + 900) - 20) ((n + 5000) - 120) (by omega) (by omega)) (fun r16 h15 q14 => ?_) (fun E h1 q => q.elim)
  obtain ⟨g17, τ18, q14g, q14s⟩ := q14
  have ok19 := ok.go (by rw [q14g]; exact ok.2.1) (by rw [q14g]; exact ok.2.2.2.2.2) q14s
  have sp20 := tw_sp.rf ok19.1
  refine tw_istore [(5, .int r16), (0, .ref (d.2 98)), (1, .ref x), (2, .ref m), (3, .ref o), (4, .int (nI (5 * j)))] dL_law__1169 (by decide) rfl ?_
  refine tw_aload_n 3 dL_law__1171 rfl rfl ?_
  refine tw_aload_n 1 dL_law__1172 rfl rfl ?_
  refine tw_iload 5 dL_law__1173 rfl ?_
  refine tw_iconst (v := 1) dL_law__1175 (by decide) ?_
  refine tw_iadd dL_law__1176 ?_
  refine tw_nmi (fun v21 ev21 => ?_)
  have q22 : v21 = nI (5 * j + 1) := by rw [ev21]; exact tw_s1 _
  rw [q22]
  refine tw_ti (v := .int y4) (fun _ _ z => z.xs.2.2.2.2.2) dL_law__1177 (vp_in_nI (by omega) (by omega)) (congrArg Value.int ey4) ?_
  refine tw_aload_n 1 dL_law__1178 rfl rfl ?_
  refine tw_iload 5 dL_law__1179 rfl ?_
  refine tw_iconst (v := 2) dL_law__1181 (by decide) ?_
  refine tw_iadd dL_law__1182 ?_
  refine tw_nmi (fun v23 ev23 => ?_)
  have q24 : v23 = nI (5 * j + 2) := by rw [ev23]; exact tw_s2 _
  rw [q24]
  refine tw_ti (v := .int y7) (fun _ _ z => z.xs.2.2.2.2.2) dL_law__1183 (vp_in_nI (by omega) (by omega)) (congrArg Value.int ey7) ?_
  refine tw_aload_n 1 dL_law__1184 rfl rfl ?_
  refine tw_iload 5 dL_law__1185 rfl ?_
  refine tw_iconst (v := 3) dL_law__1187 (by decide) ?_
  refine tw_iadd dL_law__1188 ?_
  refine tw_nmi (fun v25 ev25 => ?_)
  have q26 : v25 = nI (5 * j + 3) := by rw [ev25]; exact tw_s3 _
  rw [q26]
  refine tw_ti (v := .int y10) (fun _ _ z => z.xs.2.2.2.2.2) dL_law__1189 (vp_in_nI (by omega) (by omega)) (congrArg Value.int ey10) ?_
  refine tw_aload_n 1 dL_law__1190 rfl rfl ?_
  refine tw_iload 5 dL_law__1191 rfl ?_
  refine tw_iconst (v := 4) dL_law__1193 (by decide) ?_
  refine tw_iadd dL_law__1194 ?_
  refine tw_nmi (fun v27 ev27 => ?_)
  have q28 : v27 = nI (5 * j + 4) := by rw [ev27]; exact tw_s4 _
  rw [q28]
  refine tw_ti (v := .int y13) (fun _ _ z => z.xs.2.2.2.2.2) dL_law__1195 (vp_in_nI (by omega) (by omega)) (congrArg Value.int ey13) ?_
  obtain ⟨e29, f30, th_31, td_32, ds_33, fr_34, ca_35, us_36, wo_37, cm_38, lc_39, lh_40, ld_41, rfl, k42, k43, k44, k45, k46, k47, k48, k49, k50, k51, k52, k53, k54, k55, k56, k57, k58, k59, k60, k61, k62, k63⟩ := sp20.1 m 36 ok19.2.2.2.1 (by decide)
  refine tw_bi (tw_callV (M := mL_law_) (pc := 1196) okX10_trip dL_law__1196 w_1549 rfl f30 [.int y4, .int y7, .int y10, .int y13] [] rfl rfl ⟨by decide, by decide⟩ (Nat.le_of_ble_eq_true rfl) (c_X10_trip d g17 τ18 h15 sp20.1 m ok19.2.2.2.1 y4 y7 y10 y13) ((c + 900) - 20) ((n + 5000) - 120) (by omega) (by omega)) (fun r66 h65 q64 => ?_) (fun E h1 q => q.elim)
  have q64s := q64
  have ok67 := ok19.go ok19.2.1 ok19.2.2.2.2.2 q64s
  have sp68 := tw_sp.rf ok67.1
  refine tw_istore [(6, .int r66), (5, .int r16), (0, .ref (d.2 98)), (1, .ref x), (2, .ref m), (3, .ref o), (4, .int (nI (5 * j)))] dL_law__1199 (by decide) rfl ?_
  refine tw_goto 1362 dL_law__1201 (by decide) ?_
  refine tw_lv [2, 3, 4, 5, 6] rfl ?_
  refine tw_less (c2 := c) (n2 := n) (by omega) (by omega) ?_
  exact J _ _ _ (ok67.up (by omega))

set_option maxHeartbeats 4000000 in
set_option maxRecDepth 100000 in
theorem law_case_22 (d : tw_D) (x m o j c n : Nat) (Q : tw_O → tw_H → Prop) (hL : d.2 97 ≤ 2560) (hj : 5 * j + 5 ≤ d.2 97) (J : tw_J d x m o j Q c n) (g : tw_G) (τ : tw_K) (h : tw_H) (ok : tw_ok5 d x m o (100000 * j) g τ h) : tw_W d mL_law_ Q 1204 (tw_lv5 d x m o j) [] h (c + 900) (n + 5000) := by
  show tw_W d mL_law_ Q 1204 [(0, .ref (d.2 98)), (1, .ref x), (2, .ref m), (3, .ref o), (4, .int (nI (5 * j)))] [] h (c + 900) (n + 5000)
  have sp1 := tw_sp.rf ok.1
  refine tw_aload_n 1 dL_law__1204 rfl rfl ?_
  refine tw_aload_n 0 dL_law__1205 rfl rfl ?_
  refine tw_iload 4 dL_law__1206 rfl ?_
  refine tw_iconst (v := 1) dL_law__1208 (by decide) ?_
  refine tw_iadd dL_law__1209 ?_
  refine tw_nmi (fun v2 ev2 => ?_)
  have q3 : v2 = nI (5 * j + 1) := by rw [ev2]; exact tw_s1 _
  rw [q3]
  obtain ⟨y4, ey4⟩ : ∃ y : Int32, Int32.ofNat (d.2 (1000 + (nI (5 * j + 1)).toNatClampNeg)) = y := ⟨_, rfl⟩
  refine tw_ti (v := .int y4) (fun _ _ z => z.xs.2.2.2.2.2) dL_law__1210 (vp_in_nI (by omega) (by omega)) (congrArg Value.int ey4) ?_
  refine tw_aload_n 0 dL_law__1211 rfl rfl ?_
  refine tw_iload 4 dL_law__1212 rfl ?_
  refine tw_iconst (v := 2) dL_law__1214 (by decide) ?_
  refine tw_iadd dL_law__1215 ?_
  refine tw_nmi (fun v5 ev5 => ?_)
  have q6 : v5 = nI (5 * j + 2) := by rw [ev5]; exact tw_s2 _
  rw [q6]
  obtain ⟨y7, ey7⟩ : ∃ y : Int32, Int32.ofNat (d.2 (1000 + (nI (5 * j + 2)).toNatClampNeg)) = y := ⟨_, rfl⟩
  refine tw_ti (v := .int y7) (fun _ _ z => z.xs.2.2.2.2.2) dL_law__1216 (vp_in_nI (by omega) (by omega)) (congrArg Value.int ey7) ?_
  refine tw_aload_n 0 dL_law__1217 rfl rfl ?_
  refine tw_iload 4 dL_law__1218 rfl ?_
  refine tw_iconst (v := 3) dL_law__1220 (by decide) ?_
  refine tw_iadd dL_law__1221 ?_
  refine tw_nmi (fun v8 ev8 => ?_)
  have q9 : v8 = nI (5 * j + 3) := by rw [ev8]; exact tw_s3 _
  rw [q9]
  obtain ⟨y10, ey10⟩ : ∃ y : Int32, Int32.ofNat (d.2 (1000 + (nI (5 * j + 3)).toNatClampNeg)) = y := ⟨_, rfl⟩
  refine tw_ti (v := .int y10) (fun _ _ z => z.xs.2.2.2.2.2) dL_law__1222 (vp_in_nI (by omega) (by omega)) (congrArg Value.int ey10) ?_
  refine tw_aload_n 3 dL_law__1223 rfl rfl ?_
  refine tw_bi (tw_callSH (M := mL_law_) (pc := 1224) okL_bestTrip dL_law__1224 w_1092 [.ref x, .int y4, .int y7, .int y10, .ref o] [] rfl rfl ⟨by decide, by decide⟩ (Nat.le_of_ble_eq_true rfl) (c_L_bestTrip d g τ h sp1.1 x ok.2.2.1 y4 y7 y10 o ok.2.2.2.2.1) ((c + 900) - 20) ((n + 5000) - 120) (by omega) (by omega)) (fun r13 h12 q11 => ?_) (fun E h1 q => q.elim)
  obtain ⟨g14, τ15, q11g, q11s⟩ := q11
  have ok16 := ok.go (by rw [q11g]; exact ok.2.1) (by rw [q11g]; exact ok.2.2.2.2.2) q11s
  have sp17 := tw_sp.rf ok16.1
  refine tw_istore [(5, .int r13), (0, .ref (d.2 98)), (1, .ref x), (2, .ref m), (3, .ref o), (4, .int (nI (5 * j)))] dL_law__1227 (by decide) rfl ?_
  refine tw_aload_n 3 dL_law__1229 rfl rfl ?_
  refine tw_aload_n 1 dL_law__1230 rfl rfl ?_
  refine tw_iload 5 dL_law__1231 rfl ?_
  refine tw_iconst (v := 1) dL_law__1233 (by decide) ?_
  refine tw_iadd dL_law__1234 ?_
  refine tw_nmi (fun v18 ev18 => ?_)
  have q19 : v18 = nI (5 * j + 1) := by rw [ev18]; exact tw_s1 _
  rw [q19]
  refine tw_ti (v := .int y4) (fun _ _ z => z.xs.2.2.2.2.2) dL_law__1235 (vp_in_nI (by omega) (by omega)) (congrArg Value.int ey4) ?_
  refine tw_aload_n 1 dL_law__1236 rfl rfl ?_
  refine tw_iload 5 dL_law__1237 rfl ?_
  refine tw_iconst (v := 2) dL_law__1239 (by decide) ?_
  refine tw_iadd dL_law__1240 ?_
  refine tw_nmi (fun v20 ev20 => ?_)
  have q21 : v20 = nI (5 * j + 2) := by rw [ev20]; exact tw_s2 _
  rw [q21]
  refine tw_ti (v := .int y7) (fun _ _ z => z.xs.2.2.2.2.2) dL_law__1241 (vp_in_nI (by omega) (by omega)) (congrArg Value.int ey7) ?_
  refine tw_aload_n 1 dL_law__1242 rfl rfl ?_
  refine tw_iload 5 dL_law__1243 rfl ?_
  refine tw_iconst (v := 3) dL_law__1245 (by decide) ?_
  refine tw_iadd dL_law__1246 ?_
  refine tw_nmi (fun v22 ev22 => ?_)
  have q23 : v22 = nI (5 * j + 3) := by rw [ev22]; exact tw_s3 _
  rw [q23]
  refine tw_ti (v := .int y10) (fun _ _ z => z.xs.2.2.2.2.2) dL_law__1247 (vp_in_nI (by omega) (by omega)) (congrArg Value.int ey10) ?_
  obtain ⟨e24, f25, th_26, td_27, ds_28, fr_29, ca_30, us_31, wo_32, cm_33, lc_34, lh_35, ld_36, rfl, k37, k38, k39, k40, k41, k42, k43, k44, k45, k46, k47, k48, k49, k50, k51, k52, k53, k54, k55, k56, k57, k58⟩ := sp17.1 m 36 ok16.2.2.2.1 (by decide)
  refine tw_bi (tw_callV (M := mL_law_) (pc := 1248) okX10_bestTrip dL_law__1248 w_1557 rfl f25 [.int y4, .int y7, .int y10] [] rfl rfl ⟨by decide, by decide⟩ (Nat.le_of_ble_eq_true rfl) (c_X10_bestTrip d g14 τ15 h12 sp17.1 m ok16.2.2.2.1 y4 y7 y10) ((c + 900) - 20) ((n + 5000) - 120) (by omega) (by omega)) (fun r61 h60 q59 => ?_) (fun E h1 q => q.elim)
  have q59s := q59
  have ok62 := ok16.go ok16.2.1 ok16.2.2.2.2.2 q59s
  have sp63 := tw_sp.rf ok62.1
  refine tw_istore [(6, .int r61), (5, .int r13), (0, .ref (d.2 98)), (1, .ref x), (2, .ref m), (3, .ref o), (4, .int (nI (5 * j)))] dL_law__1251 (by decide) rfl ?_
  refine tw_goto 1362 dL_law__1253 (by decide) ?_
  refine tw_lv [2, 3, 4, 5, 6] rfl ?_
  refine tw_less (c2 := c) (n2 := n) (by omega) (by omega) ?_
  exact J _ _ _ (ok62.up (by omega))

set_option maxHeartbeats 4000000 in
set_option maxRecDepth 100000 in
theorem law_case_23 (d : tw_D) (x m o j c n : Nat) (Q : tw_O → tw_H → Prop) (hL : d.2 97 ≤ 2560) (hj : 5 * j + 5 ≤ d.2 97) (J : tw_J d x m o j Q c n) (g : tw_G) (τ : tw_K) (h : tw_H) (ok : tw_ok5 d x m o (100000 * j) g τ h) : tw_W d mL_law_ Q 1256 (tw_lv5 d x m o j) [] h (c + 900) (n + 5000) := by
  show tw_W d mL_law_ Q 1256 [(0, .ref (d.2 98)), (1, .ref x), (2, .ref m), (3, .ref o), (4, .int (nI (5 * j)))] [] h (c + 900) (n + 5000)
  have sp1 := tw_sp.rf ok.1
  refine tw_aload_n 1 dL_law__1256 rfl rfl ?_
  refine tw_aload_n 0 dL_law__1257 rfl rfl ?_
  refine tw_iload 4 dL_law__1258 rfl ?_
  refine tw_iconst (v := 1) dL_law__1260 (by decide) ?_
  refine tw_iadd dL_law__1261 ?_
  refine tw_nmi (fun v2 ev2 => ?_)
  have q3 : v2 = nI (5 * j + 1) := by rw [ev2]; exact tw_s1 _
  rw [q3]
  obtain ⟨y4, ey4⟩ : ∃ y : Int32, Int32.ofNat (d.2 (1000 + (nI (5 * j + 1)).toNatClampNeg)) = y := ⟨_, rfl⟩
  refine tw_ti (v := .int y4) (fun _ _ z => z.xs.2.2.2.2.2) dL_law__1262 (vp_in_nI (by omega) (by omega)) (congrArg Value.int ey4) ?_
  refine tw_aload_n 3 dL_law__1263 rfl rfl ?_
  refine tw_bi (tw_callSH (M := mL_law_) (pc := 1264) okL_rest dL_law__1264 w_1099 [.ref x, .int y4, .ref o] [] rfl rfl ⟨by decide, by decide⟩ (Nat.le_of_ble_eq_true rfl) (c_L_rest d g τ h sp1.1 x ok.2.2.1 y4 o ok.2.2.2.2.1) ((c + 900) - 20) ((n + 5000) - 120) (by omega) (by omega)) (fun r7 h6 q5 => ?_) (fun E h1 q => q.elim)
  obtain ⟨g8, τ9, q5g, q5s⟩ := q5
  have ok10 := ok.go (by rw [q5g]; exact ok.2.1) (by rw [q5g]; exact ok.2.2.2.2.2) q5s
  have sp11 := tw_sp.rf ok10.1
  refine tw_istore [(5, .int r7), (0, .ref (d.2 98)), (1, .ref x), (2, .ref m), (3, .ref o), (4, .int (nI (5 * j)))] dL_law__1267 (by decide) rfl ?_
  refine tw_aload_n 3 dL_law__1269 rfl rfl ?_
  refine tw_aload_n 1 dL_law__1270 rfl rfl ?_
  refine tw_iload 5 dL_law__1271 rfl ?_
  refine tw_iconst (v := 1) dL_law__1273 (by decide) ?_
  refine tw_iadd dL_law__1274 ?_
  refine tw_nmi (fun v12 ev12 => ?_)
  have q13 : v12 = nI (5 * j + 1) := by rw [ev12]; exact tw_s1 _
  rw [q13]
  refine tw_ti (v := .int y4) (fun _ _ z => z.xs.2.2.2.2.2) dL_law__1275 (vp_in_nI (by omega) (by omega)) (congrArg Value.int ey4) ?_
  obtain ⟨e14, f15, th_16, td_17, ds_18, fr_19, ca_20, us_21, wo_22, cm_23, lc_24, lh_25, ld_26, rfl, k27, k28, k29, k30, k31, k32, k33, k34, k35, k36, k37, k38, k39, k40, k41, k42, k43, k44, k45, k46, k47, k48⟩ := sp11.1 m 36 ok10.2.2.2.1 (by decide)
  refine tw_bi (tw_callV (M := mL_law_) (pc := 1276) okX10_rest dL_law__1276 w_1565 rfl f15 [.int y4] [] rfl rfl ⟨by decide, by decide⟩ (Nat.le_of_ble_eq_true rfl) (c_X10_rest d g8 τ9 h6 sp11.1 m ok10.2.2.2.1 y4) ((c + 900) - 20) ((n + 5000) - 120) (by omega) (by omega)) (fun r51 h50 q49 => ?_) (fun E h1 q => q.elim)
  have q49s := q49.1
  have ok52 := ok10.go ok10.2.1 ok10.2.2.2.2.2 q49s
  have sp53 := tw_sp.rf ok52.1
  refine tw_istore [(6, .int r51), (5, .int r7), (0, .ref (d.2 98)), (1, .ref x), (2, .ref m), (3, .ref o), (4, .int (nI (5 * j)))] dL_law__1279 (by decide) rfl ?_
  refine tw_goto 1362 dL_law__1281 (by decide) ?_
  refine tw_lv [2, 3, 4, 5, 6] rfl ?_
  refine tw_less (c2 := c) (n2 := n) (by omega) (by omega) ?_
  exact J _ _ _ (ok52.up (by omega))

set_option maxHeartbeats 4000000 in
set_option maxRecDepth 100000 in
theorem law_case_24 (d : tw_D) (x m o j c n : Nat) (Q : tw_O → tw_H → Prop) (hL : d.2 97 ≤ 2560) (hj : 5 * j + 5 ≤ d.2 97) (J : tw_J d x m o j Q c n) (g : tw_G) (τ : tw_K) (h : tw_H) (ok : tw_ok5 d x m o (100000 * j) g τ h) : tw_W d mL_law_ Q 1284 (tw_lv5 d x m o j) [] h (c + 900) (n + 5000) := by
  show tw_W d mL_law_ Q 1284 [(0, .ref (d.2 98)), (1, .ref x), (2, .ref m), (3, .ref o), (4, .int (nI (5 * j)))] [] h (c + 900) (n + 5000)
  have sp1 := tw_sp.rf ok.1
  refine tw_aload_n 1 dL_law__1284 rfl rfl ?_
  refine tw_aload_n 0 dL_law__1285 rfl rfl ?_
  refine tw_iload 4 dL_law__1286 rfl ?_
  refine tw_iconst (v := 1) dL_law__1288 (by decide) ?_
  refine tw_iadd dL_law__1289 ?_
  refine tw_nmi (fun v2 ev2 => ?_)
  have q3 : v2 = nI (5 * j + 1) := by rw [ev2]; exact tw_s1 _
  rw [q3]
  obtain ⟨y4, ey4⟩ : ∃ y : Int32, Int32.ofNat (d.2 (1000 + (nI (5 * j + 1)).toNatClampNeg)) = y := ⟨_, rfl⟩
  refine tw_ti (v := .int y4) (fun _ _ z => z.xs.2.2.2.2.2) dL_law__1290 (vp_in_nI (by omega) (by omega)) (congrArg Value.int ey4) ?_
  refine tw_aload_n 0 dL_law__1291 rfl rfl ?_
  refine tw_iload 4 dL_law__1292 rfl ?_
  refine tw_iconst (v := 2) dL_law__1294 (by decide) ?_
  refine tw_iadd dL_law__1295 ?_
  refine tw_nmi (fun v5 ev5 => ?_)
  have q6 : v5 = nI (5 * j + 2) := by rw [ev5]; exact tw_s2 _
  rw [q6]
  obtain ⟨y7, ey7⟩ : ∃ y : Int32, Int32.ofNat (d.2 (1000 + (nI (5 * j + 2)).toNatClampNeg)) = y := ⟨_, rfl⟩
  refine tw_ti (v := .int y7) (fun _ _ z => z.xs.2.2.2.2.2) dL_law__1296 (vp_in_nI (by omega) (by omega)) (congrArg Value.int ey7) ?_
  refine tw_aload_n 0 dL_law__1297 rfl rfl ?_
  refine tw_iload 4 dL_law__1298 rfl ?_
  refine tw_iconst (v := 3) dL_law__1300 (by decide) ?_
  refine tw_iadd dL_law__1301 ?_
  refine tw_nmi (fun v8 ev8 => ?_)
  have q9 : v8 = nI (5 * j + 3) := by rw [ev8]; exact tw_s3 _
  rw [q9]
  obtain ⟨y10, ey10⟩ : ∃ y : Int32, Int32.ofNat (d.2 (1000 + (nI (5 * j + 3)).toNatClampNeg)) = y := ⟨_, rfl⟩
  refine tw_ti (v := .int y10) (fun _ _ z => z.xs.2.2.2.2.2) dL_law__1302 (vp_in_nI (by omega) (by omega)) (congrArg Value.int ey10) ?_
  refine tw_aload_n 3 dL_law__1303 rfl rfl ?_
  refine tw_bi (tw_callSH (M := mL_law_) (pc := 1304) okL_last dL_law__1304 w_1106 [.ref x, .int y4, .int y7, .int y10, .ref o] [] rfl rfl ⟨by decide, by decide⟩ (Nat.le_of_ble_eq_true rfl) (c_L_last d g τ h sp1.1 x ok.2.2.1 y4 y7 y10 o ok.2.2.2.2.1) ((c + 900) - 20) ((n + 5000) - 120) (by omega) (by omega)) (fun r13 h12 q11 => ?_) (fun E h1 q => q.elim)
  obtain ⟨g14, τ15, q11g, q11s⟩ := q11
  have ok16 := ok.go (by rw [q11g]; exact ok.2.1) (by rw [q11g]; exact ok.2.2.2.2.2) q11s
  have sp17 := tw_sp.rf ok16.1
  refine tw_istore [(5, .int r13), (0, .ref (d.2 98)), (1, .ref x), (2, .ref m), (3, .ref o), (4, .int (nI (5 * j)))] dL_law__1307 (by decide) rfl ?_
  refine tw_aload_n 3 dL_law__1309 rfl rfl ?_
  refine tw_aload_n 1 dL_law__1310 rfl rfl ?_
  refine tw_iload 5 dL_law__1311 rfl ?_
  refine tw_iconst (v := 1) dL_law__1313 (by decide) ?_
  refine tw_iadd dL_law__1314 ?_
  refine tw_nmi (fun v18 ev18 => ?_)
  have q19 : v18 = nI (5 * j + 1) := by rw [ev18]; exact tw_s1 _
  rw [q19]
  refine tw_ti (v := .int y4) (fun _ _ z => z.xs.2.2.2.2.2) dL_law__1315 (vp_in_nI (by omega) (by omega)) (congrArg Value.int ey4) ?_
  refine tw_aload_n 1 dL_law__1316 rfl rfl ?_
  refine tw_iload 5 dL_law__1317 rfl ?_
  refine tw_iconst (v := 2) dL_law__1319 (by decide) ?_
  refine tw_iadd dL_law__1320 ?_
  refine tw_nmi (fun v20 ev20 => ?_)
  have q21 : v20 = nI (5 * j + 2) := by rw [ev20]; exact tw_s2 _
  rw [q21]
  refine tw_ti (v := .int y7) (fun _ _ z => z.xs.2.2.2.2.2) dL_law__1321 (vp_in_nI (by omega) (by omega)) (congrArg Value.int ey7) ?_
  refine tw_aload_n 1 dL_law__1322 rfl rfl ?_
  refine tw_iload 5 dL_law__1323 rfl ?_
  refine tw_iconst (v := 3) dL_law__1325 (by decide) ?_
  refine tw_iadd dL_law__1326 ?_
  refine tw_nmi (fun v22 ev22 => ?_)
  have q23 : v22 = nI (5 * j + 3) := by rw [ev22]; exact tw_s3 _
  rw [q23]
  refine tw_ti (v := .int y10) (fun _ _ z => z.xs.2.2.2.2.2) dL_law__1327 (vp_in_nI (by omega) (by omega)) (congrArg Value.int ey10) ?_
  obtain ⟨e24, f25, th_26, td_27, ds_28, fr_29, ca_30, us_31, wo_32, cm_33, lc_34, lh_35, ld_36, rfl, k37, k38, k39, k40, k41, k42, k43, k44, k45, k46, k47, k48, k49, k50, k51, k52, k53, k54, k55, k56, k57, k58⟩ := sp17.1 m 36 ok16.2.2.2.1 (by decide)
  refine tw_bi (tw_callV (M := mL_law_) (pc := 1328) okX10_last dL_law__1328 w_1573 rfl f25 [.int y4, .int y7, .int y10] [] rfl rfl ⟨by decide, by decide⟩ (Nat.le_of_ble_eq_true rfl) (c_X10_last d g14 τ15 h12 sp17.1 m ok16.2.2.2.1 y4 y7 y10) ((c + 900) - 20) ((n + 5000) - 120) (by omega) (by omega)) (fun r61 h60 q59 => ?_) (fun E h1 q => q.elim)
  have q59s := q59
  have ok62 := ok16.go ok16.2.1 ok16.2.2.2.2.2 q59s
  have sp63 := tw_sp.rf ok62.1
  refine tw_istore [(6, .int r61), (5, .int r13), (0, .ref (d.2 98)), (1, .ref x), (2, .ref m), (3, .ref o), (4, .int (nI (5 * j)))] dL_law__1331 (by decide) rfl ?_
  refine tw_goto 1362 dL_law__1333 (by decide) ?_
  refine tw_lv [2, 3, 4, 5, 6] rfl ?_
  refine tw_less (c2 := c) (n2 := n) (by omega) (by omega) ?_
  exact J _ _ _ (ok62.up (by omega))

set_option maxHeartbeats 4000000 in
set_option maxRecDepth 100000 in
theorem law_case_25 (d : tw_D) (x m o j c n : Nat) (Q : tw_O → tw_H → Prop) (hL : d.2 97 ≤ 2560) (hj : 5 * j + 5 ≤ d.2 97) (J : tw_J d x m o j Q c n) (g : tw_G) (τ : tw_K) (h : tw_H) (ok : tw_ok5 d x m o (100000 * j) g τ h) : tw_W d mL_law_ Q 1336 (tw_lv5 d x m o j) [] h (c + 900) (n + 5000) := by
  show tw_W d mL_law_ Q 1336 [(0, .ref (d.2 98)), (1, .ref x), (2, .ref m), (3, .ref o), (4, .int (nI (5 * j)))] [] h (c + 900) (n + 5000)
  have sp1 := tw_sp.rf ok.1
  refine tw_aload_n 1 dL_law__1336 rfl rfl ?_
  obtain ⟨e2, f3, td_4, ca_5, ha_6, da_7, c1_8, c2_9, c3_10, c4_11, rfl, k12, k13, k14, k15, k16, k17, k18, k19, k20, k21, k22, k23, k24, k25, k26, k27, k28⟩ := sp1.1 x 11 ok.2.2.1 (by decide)
  refine tw_bi (tw_callV (M := mL_law_) (pc := 1337) okX5_isSound dL_law__1337 w_177 rfl f3 [] [] rfl rfl ⟨by decide, by decide⟩ (Nat.le_of_ble_eq_true rfl) (c4_X5_isSound d g τ h sp1.1 x ok.2.2.1 (ok.2.1.so (by omega))) (c + 900) (n + 5000) (by omega) (by omega)) (fun r31 h30 q29 => ?_) (fun E h1 q => q.elim)
  obtain ⟨q29e, q29v⟩ := q29
  rw [q29e, q29v]
  refine tw_aload_n 2 dL_law__1340 rfl rfl ?_
  obtain ⟨e32, f33, th_34, td_35, ds_36, fr_37, ca_38, us_39, wo_40, cm_41, lc_42, lh_43, ld_44, rfl, k45, k46, k47, k48, k49, k50, k51, k52, k53, k54, k55, k56, k57, k58, k59, k60, k61, k62, k63, k64, k65, k66⟩ := sp1.1 m 36 ok.2.2.2.1 (by decide)
  refine tw_bi (tw_callV (M := mL_law_) (pc := 1341) okX10_isSound dL_law__1341 w_1581 rfl f33 [] [.int 1] rfl rfl ⟨by decide, by decide⟩ (Nat.le_of_ble_eq_true rfl) (c4_X10_isSound d g τ h sp1.1 m ok.2.2.2.1 o ok.2.2.2.2.1 (ok.2.1.am5 (by omega)) ok.2.1.sm) ((c + 900) - 62) ((n + 5000) - 284) (by omega) (by omega)) (fun r69 h68 q67 => ?_) (fun E h1 q => q.elim)
  obtain ⟨q67s, q67o, q67v⟩ := q67
  rw [q67v]
  have ok70 := ok.go ok.2.1 ok.2.2.2.2.2 q67s
  have sp71 := tw_sp.rf ok70.1
  refine tw_icmp_eq 1362 dL_law__1344 (by decide) (fun _ => ?_) (fun c72 => absurd (rfl) c72)
  refine tw_lv [0, 1, 2, 3, 4] rfl ?_
  refine tw_less (c2 := c) (n2 := n) (by omega) (by omega) ?_
  exact J _ _ _ (ok70.up (by omega))

set_option maxHeartbeats 4000000 in
set_option maxRecDepth 100000 in
theorem law_case_26 (d : tw_D) (x m o j c n : Nat) (Q : tw_O → tw_H → Prop) (hL : d.2 97 ≤ 2560) (hj : 5 * j + 5 ≤ d.2 97) (J : tw_J d x m o j Q c n) (g : tw_G) (τ : tw_K) (h : tw_H) (ok : tw_ok5 d x m o (100000 * j) g τ h) : tw_W d mL_law_ Q 1349 (tw_lv5 d x m o j) [] h (c + 900) (n + 5000) := by
  show tw_W d mL_law_ Q 1349 [(0, .ref (d.2 98)), (1, .ref x), (2, .ref m), (3, .ref o), (4, .int (nI (5 * j)))] [] h (c + 900) (n + 5000)
  have sp1 := tw_sp.rf ok.1
  refine tw_aload_n 1 dL_law__1349 rfl rfl ?_
  obtain ⟨e2, f3, td_4, ca_5, ha_6, da_7, c1_8, c2_9, c3_10, c4_11, rfl, k12, k13, k14, k15, k16, k17, k18, k19, k20, k21, k22, k23, k24, k25, k26, k27, k28⟩ := sp1.1 x 11 ok.2.2.1 (by decide)
  refine tw_bl (tw_callV (M := mL_law_) (pc := 1350) okX5_digest dL_law__1350 w_235 rfl f3 [] [] rfl rfl ⟨by decide, by decide⟩ (Nat.le_of_ble_eq_true rfl) (c_X5_digest d g τ h sp1.1 x ok.2.2.1) (c + 900) (n + 5000) (by omega) (by omega)) (fun r31 h30 q29 => ?_) (fun E h1 q => q.elim)
  rw [q29]
  refine tw_pop2l dL_law__1353 ?_
  refine tw_aload_n 2 dL_law__1354 rfl rfl ?_
  obtain ⟨e32, f33, th_34, td_35, ds_36, fr_37, ca_38, us_39, wo_40, cm_41, lc_42, lh_43, ld_44, rfl, k45, k46, k47, k48, k49, k50, k51, k52, k53, k54, k55, k56, k57, k58, k59, k60, k61, k62, k63, k64, k65, k66⟩ := sp1.1 m 36 ok.2.2.2.1 (by decide)
  refine tw_bl (tw_callV (M := mL_law_) (pc := 1355) okX10_digest dL_law__1355 w_1589 rfl f33 [] [] rfl rfl ⟨by decide, by decide⟩ (Nat.le_of_ble_eq_true rfl) (c_X10_digest d g τ h sp1.1 m ok.2.2.2.1) ((c + 900) - 866) ((n + 5000) - 4596) (by omega) (by omega)) (fun r69 h68 q67 => ?_) (fun E h1 q => q.elim)
  have q67s := q67
  have ok70 := ok.go ok.2.1 ok.2.2.2.2.2 q67s
  have sp71 := tw_sp.rf ok70.1
  refine tw_pop2l dL_law__1358 ?_
  refine tw_goto 1362 dL_law__1359 (by decide) ?_
  refine tw_lv [0, 1, 2, 3, 4] rfl ?_
  refine tw_less (c2 := c) (n2 := n) (by omega) (by omega) ?_
  exact J _ _ _ (ok70.up (by omega))

set_option maxHeartbeats 4000000 in
set_option maxRecDepth 100000 in
theorem law_loop (d : tw_D) (x m o : Nat) (hL : d.2 97 ≤ 2560) : ∀ (r j : Nat) (g : tw_G) (τ : tw_K) (h : tw_H), tw_ok5 d x m o (100000 * j) g τ h → 512 ≤ j + r → j ≤ 512 → tw_W d mL_law_ (tw_qi (fun r _ => r = 1) tw_nx) 27 (tw_lv5 d x m o j) [] h (900 * r) (5000 * r) := by
  intro r
  induction r with
  | zero =>
    intro j g τ h ok h1 h2
    show tw_W d mL_law_ _ 27 [(0, .ref (d.2 98)), (1, .ref x), (2, .ref m), (3, .ref o), (4, .int (nI (5 * j)))] [] h (900 * 0) (5000 * 0)
    have sp1 := tw_sp.rf ok.1
    refine tw_iload 4 dL_law__27 rfl ?_
    refine tw_aload_n 0 dL_law__29 rfl rfl ?_
    refine tw_tlen (N := d.2 97) (fun _ _ z => z.xs.2.2.2.2.2) dL_law__30 ?_
    refine tw_iconst (v := 5) dL_law__31 (by decide) ?_
    refine tw_isub dL_law__32 ?_
    refine tw_nmi (fun v2 ev2 => ?_)
    refine tw_icmp_gt 1368 dL_law__33 (by decide) (fun _ => ?_) (fun c3 => absurd (by rw [ev2]; exact (tw_l5 hL h2).mpr (by omega)) c3)
    refine tw_iconst (v := 1) dL_law__1368 (by decide) ?_
    exact tw_zret dL_law__1369 rfl rfl (Or.inl ⟨_, rfl, rfl⟩)
  | succ r ih =>
    intro j g τ h ok h1 h2
    show tw_W d mL_law_ _ 27 [(0, .ref (d.2 98)), (1, .ref x), (2, .ref m), (3, .ref o), (4, .int (nI (5 * j)))] [] h (900 * (r + 1)) (5000 * (r + 1))
    have sp1 := tw_sp.rf ok.1
    refine tw_iload 4 dL_law__27 rfl ?_
    refine tw_aload_n 0 dL_law__29 rfl rfl ?_
    refine tw_tlen (N := d.2 97) (fun _ _ z => z.xs.2.2.2.2.2) dL_law__30 ?_
    refine tw_iconst (v := 5) dL_law__31 (by decide) ?_
    refine tw_isub dL_law__32 ?_
    refine tw_nmi (fun v2 ev2 => ?_)
    refine tw_icmp_gt 1368 dL_law__33 (by decide) (fun c3 => ?_) (fun c3 => ?_)
    · refine tw_iconst (v := 1) dL_law__1368 (by decide) ?_
      exact tw_zret dL_law__1369 rfl rfl (Or.inl ⟨_, rfl, rfl⟩)
    · have hj : 5 * j + 5 ≤ d.2 97 := by rcases Nat.lt_or_ge (d.2 97) (5 * j + 5) with z | z; exact absurd ((tw_l5 hL h2).mpr z) (by have z9 := c3; rw [ev2] at z9; exact z9); exact z
      have J : tw_J d x m o j (tw_qi (fun r _ => r = 1) tw_nx) (900 * r) (5000 * r) := by
        intro g τ h ok
        show tw_W d mL_law_ _ 1362 [(0, .ref (d.2 98)), (1, .ref x), (2, .ref m), (3, .ref o), (4, .int (nI (5 * j)))] [] h _ _
        obtain ⟨v4, ev4⟩ : ∃ y : Int32, y = (nI (5 * j)) + 5 := ⟨_, rfl⟩
        refine tw_iinc [(4, .int v4), (0, .ref (d.2 98)), (1, .ref x), (2, .ref m), (3, .ref o)] 4 dL_law__1362 rfl (by rw [ev4]; rfl) (by decide) rfl ?_
        refine tw_goto 27 dL_law__1365 (by decide) ?_
        have q5 : v4 = nI (5 * (j + 1)) := by rw [ev4]; exact tw_s5 j
        rw [q5]
        refine tw_lv [1, 2, 3, 4, 0] rfl ?_
        exact ih (j + 1) g τ h ok (by omega) (by omega)
      refine tw_aload_n 0 dL_law__36 rfl rfl ?_
      refine tw_iload 4 dL_law__37 rfl ?_
      obtain ⟨y6, ey6⟩ : ∃ y : Int32, Int32.ofNat (d.2 (1000 + (nI (5 * j)).toNatClampNeg)) = y := ⟨_, rfl⟩
      refine tw_ti (v := .int y6) (fun _ _ z => z.xs.2.2.2.2.2) dL_law__39 (vp_in_nI (by omega) (by omega)) (congrArg Value.int ey6) ?_
      refine tw_bipush (v := 31) dL_law__40 (by decide) ?_
      refine tw_iand dL_law__42 ?_
      refine tw_nmi (fun v7 ev7 => ?_)
      by_cases cs0 : (v7).toInt < 0 ∨ 26 < (v7).toInt
      · refine tw_tabOut 1362 dL_law__43 cs0 (by decide) ?_
        refine tw_less (c2 := 900 * r) (n2 := 5000 * r) (by omega) (by omega) ?_
        exact J _ _ _ (ok.up (by omega))
      · have csl : ¬ (v7).toInt < 0 := fun q => cs0 (Or.inl q)
        have csh : ¬ 26 < (v7).toInt := fun q => cs0 (Or.inr q)
        rcases (show (v7).toInt = 0 ∨ (v7).toInt = 1 ∨ (v7).toInt = 2 ∨ (v7).toInt = 3 ∨ (v7).toInt = 4 ∨ (v7).toInt = 5 ∨ (v7).toInt = 6 ∨ (v7).toInt = 7 ∨ (v7).toInt = 8 ∨ (v7).toInt = 9 ∨ (v7).toInt = 10 ∨ (v7).toInt = 11 ∨ (v7).toInt = 12 ∨ (v7).toInt = 13 ∨ (v7).toInt = 14 ∨ (v7).toInt = 15 ∨ (v7).toInt = 16 ∨ (v7).toInt = 17 ∨ (v7).toInt = 18 ∨ (v7).toInt = 19 ∨ (v7).toInt = 20 ∨ (v7).toInt = 21 ∨ (v7).toInt = 22 ∨ (v7).toInt = 23 ∨ (v7).toInt = 24 ∨ (v7).toInt = 25 ∨ (v7).toInt = 26 by omega) with cs1 | cs1 | cs1 | cs1 | cs1 | cs1 | cs1 | cs1 | cs1 | cs1 | cs1 | cs1 | cs1 | cs1 | cs1 | cs1 | cs1 | cs1 | cs1 | cs1 | cs1 | cs1 | cs1 | cs1 | cs1 | cs1 | cs1
        · refine tw_tabIn (off := 121) 164 dL_law__43 csl csh (by rw [cs1]; rfl) (by decide) ?_
          rw [show 900 * (r + 1) = 900 * r + 900 by omega, show 5000 * (r + 1) = 5000 * r + 5000 by omega]
          exact law_case_0 d x m o j _ _ _ hL hj J g τ h ok
        · refine tw_tabIn (off := 185) 228 dL_law__43 csl csh (by rw [cs1]; rfl) (by decide) ?_
          rw [show 900 * (r + 1) = 900 * r + 900 by omega, show 5000 * (r + 1) = 5000 * r + 5000 by omega]
          exact law_case_1 d x m o j _ _ _ hL hj J g τ h ok
        · refine tw_tabIn (off := 237) 280 dL_law__43 csl csh (by rw [cs1]; rfl) (by decide) ?_
          rw [show 900 * (r + 1) = 900 * r + 900 by omega, show 5000 * (r + 1) = 5000 * r + 5000 by omega]
          exact law_case_2 d x m o j _ _ _ hL hj J g τ h ok
        · refine tw_tabIn (off := 305) 348 dL_law__43 csl csh (by rw [cs1]; rfl) (by decide) ?_
          rw [show 900 * (r + 1) = 900 * r + 900 by omega, show 5000 * (r + 1) = 5000 * r + 5000 by omega]
          exact law_case_3 d x m o j _ _ _ hL hj J g τ h ok
        · refine tw_tabIn (off := 333) 376 dL_law__43 csl csh (by rw [cs1]; rfl) (by decide) ?_
          rw [show 900 * (r + 1) = 900 * r + 900 by omega, show 5000 * (r + 1) = 5000 * r + 5000 by omega]
          exact law_case_4 d x m o j _ _ _ hL hj J g τ h ok
        · refine tw_tabIn (off := 397) 440 dL_law__43 csl csh (by rw [cs1]; rfl) (by decide) ?_
          rw [show 900 * (r + 1) = 900 * r + 900 by omega, show 5000 * (r + 1) = 5000 * r + 5000 by omega]
          exact law_case_5 d x m o j _ _ _ hL hj J g τ h ok
        · refine tw_tabIn (off := 449) 492 dL_law__43 csl csh (by rw [cs1]; rfl) (by decide) ?_
          rw [show 900 * (r + 1) = 900 * r + 900 by omega, show 5000 * (r + 1) = 5000 * r + 5000 by omega]
          exact law_case_6 d x m o j _ _ _ hL hj J g τ h ok
        · refine tw_tabIn (off := 501) 544 dL_law__43 csl csh (by rw [cs1]; rfl) (by decide) ?_
          rw [show 900 * (r + 1) = 900 * r + 900 by omega, show 5000 * (r + 1) = 5000 * r + 5000 by omega]
          exact law_case_7 d x m o j _ _ _ hL hj J g τ h ok
        · refine tw_tabIn (off := 553) 596 dL_law__43 csl csh (by rw [cs1]; rfl) (by decide) ?_
          rw [show 900 * (r + 1) = 900 * r + 900 by omega, show 5000 * (r + 1) = 5000 * r + 5000 by omega]
          exact law_case_8 d x m o j _ _ _ hL hj J g τ h ok
        · refine tw_tabIn (off := 605) 648 dL_law__43 csl csh (by rw [cs1]; rfl) (by decide) ?_
          rw [show 900 * (r + 1) = 900 * r + 900 by omega, show 5000 * (r + 1) = 5000 * r + 5000 by omega]
          exact law_case_9 d x m o j _ _ _ hL hj J g τ h ok
        · refine tw_tabIn (off := 645) 688 dL_law__43 csl csh (by rw [cs1]; rfl) (by decide) ?_
          rw [show 900 * (r + 1) = 900 * r + 900 by omega, show 5000 * (r + 1) = 5000 * r + 5000 by omega]
          exact law_case_10 d x m o j _ _ _ hL hj J g τ h ok
        · refine tw_tabIn (off := 673) 716 dL_law__43 csl csh (by rw [cs1]; rfl) (by decide) ?_
          rw [show 900 * (r + 1) = 900 * r + 900 by omega, show 5000 * (r + 1) = 5000 * r + 5000 by omega]
          exact law_case_11 d x m o j _ _ _ hL hj J g τ h ok
        · refine tw_tabIn (off := 737) 780 dL_law__43 csl csh (by rw [cs1]; rfl) (by decide) ?_
          rw [show 900 * (r + 1) = 900 * r + 900 by omega, show 5000 * (r + 1) = 5000 * r + 5000 by omega]
          exact law_case_12 d x m o j _ _ _ hL hj J g τ h ok
        · refine tw_tabIn (off := 777) 820 dL_law__43 csl csh (by rw [cs1]; rfl) (by decide) ?_
          rw [show 900 * (r + 1) = 900 * r + 900 by omega, show 5000 * (r + 1) = 5000 * r + 5000 by omega]
          exact law_case_13 d x m o j _ _ _ hL hj J g τ h ok
        · refine tw_tabIn (off := 829) 872 dL_law__43 csl csh (by rw [cs1]; rfl) (by decide) ?_
          rw [show 900 * (r + 1) = 900 * r + 900 by omega, show 5000 * (r + 1) = 5000 * r + 5000 by omega]
          exact law_case_14 d x m o j _ _ _ hL hj J g τ h ok
        · refine tw_tabIn (off := 869) 912 dL_law__43 csl csh (by rw [cs1]; rfl) (by decide) ?_
          rw [show 900 * (r + 1) = 900 * r + 900 by omega, show 5000 * (r + 1) = 5000 * r + 5000 by omega]
          exact law_case_15 d x m o j _ _ _ hL hj J g τ h ok
        · refine tw_tabIn (off := 909) 952 dL_law__43 csl csh (by rw [cs1]; rfl) (by decide) ?_
          rw [show 900 * (r + 1) = 900 * r + 900 by omega, show 5000 * (r + 1) = 5000 * r + 5000 by omega]
          exact law_case_16 d x m o j _ _ _ hL hj J g τ h ok
        · refine tw_tabIn (off := 949) 992 dL_law__43 csl csh (by rw [cs1]; rfl) (by decide) ?_
          rw [show 900 * (r + 1) = 900 * r + 900 by omega, show 5000 * (r + 1) = 5000 * r + 5000 by omega]
          exact law_case_17 d x m o j _ _ _ hL hj J g τ h ok
        · refine tw_tabIn (off := 989) 1032 dL_law__43 csl csh (by rw [cs1]; rfl) (by decide) ?_
          rw [show 900 * (r + 1) = 900 * r + 900 by omega, show 5000 * (r + 1) = 5000 * r + 5000 by omega]
          exact law_case_18 d x m o j _ _ _ hL hj J g τ h ok
        · refine tw_tabIn (off := 1029) 1072 dL_law__43 csl csh (by rw [cs1]; rfl) (by decide) ?_
          rw [show 900 * (r + 1) = 900 * r + 900 by omega, show 5000 * (r + 1) = 5000 * r + 5000 by omega]
          exact law_case_19 d x m o j _ _ _ hL hj J g τ h ok
        · refine tw_tabIn (off := 1069) 1112 dL_law__43 csl csh (by rw [cs1]; rfl) (by decide) ?_
          rw [show 900 * (r + 1) = 900 * r + 900 by omega, show 5000 * (r + 1) = 5000 * r + 5000 by omega]
          exact law_case_20 d x m o j _ _ _ hL hj J g τ h ok
        · refine tw_tabIn (off := 1097) 1140 dL_law__43 csl csh (by rw [cs1]; rfl) (by decide) ?_
          rw [show 900 * (r + 1) = 900 * r + 900 by omega, show 5000 * (r + 1) = 5000 * r + 5000 by omega]
          exact law_case_21 d x m o j _ _ _ hL hj J g τ h ok
        · refine tw_tabIn (off := 1161) 1204 dL_law__43 csl csh (by rw [cs1]; rfl) (by decide) ?_
          rw [show 900 * (r + 1) = 900 * r + 900 by omega, show 5000 * (r + 1) = 5000 * r + 5000 by omega]
          exact law_case_22 d x m o j _ _ _ hL hj J g τ h ok
        · refine tw_tabIn (off := 1213) 1256 dL_law__43 csl csh (by rw [cs1]; rfl) (by decide) ?_
          rw [show 900 * (r + 1) = 900 * r + 900 by omega, show 5000 * (r + 1) = 5000 * r + 5000 by omega]
          exact law_case_23 d x m o j _ _ _ hL hj J g τ h ok
        · refine tw_tabIn (off := 1241) 1284 dL_law__43 csl csh (by rw [cs1]; rfl) (by decide) ?_
          rw [show 900 * (r + 1) = 900 * r + 900 by omega, show 5000 * (r + 1) = 5000 * r + 5000 by omega]
          exact law_case_24 d x m o j _ _ _ hL hj J g τ h ok
        · refine tw_tabIn (off := 1293) 1336 dL_law__43 csl csh (by rw [cs1]; rfl) (by decide) ?_
          rw [show 900 * (r + 1) = 900 * r + 900 by omega, show 5000 * (r + 1) = 5000 * r + 5000 by omega]
          exact law_case_25 d x m o j _ _ _ hL hj J g τ h ok
        · refine tw_tabIn (off := 1306) 1349 dL_law__43 csl csh (by rw [cs1]; rfl) (by decide) ?_
          rw [show 900 * (r + 1) = 900 * r + 900 by omega, show 5000 * (r + 1) = 5000 * r + 5000 by omega]
          exact law_case_26 d x m o j _ _ _ hL hj J g τ h ok

/-- the class's kinds alone -/
def tw_cl (τ : tw_K) : tw_K := fun a => if τ a < 13 then τ a else 0
theorem tw_cl_k {τ : tw_K} {a k : Nat} (h : τ a = k) (hk : k < 13) : tw_cl τ a = k := by
  unfold tw_cl
  rw [h, if_pos hk]
theorem tw_cl_lt (τ : tw_K) (a : Nat) : tw_cl τ a < 13 := by
  unfold tw_cl
  split
  · assumption
  · decide
theorem tw_sh_cl {d : tw_D} {g : tw_G} {τ : tw_K} {x k : Nat} {e : va_E} (hk : k < 13) (h : tw_sh d g τ x k e) : tw_sh d g (tw_cl τ) x k e := by
  have L : ∀ {a k : Nat}, τ a = k → k < 13 → tw_cl τ a = k := fun q z => tw_cl_k q z
  rcases (show k = 0 ∨ k = 1 ∨ k = 2 ∨ k = 3 ∨ k = 4 ∨ k = 5 ∨ k = 6 ∨ k = 7 ∨ k = 8 ∨ k = 9 ∨ k = 10 ∨ k = 11 ∨ k = 12 by omega) with rfl | rfl | rfl | rfl | rfl | rfl | rfl | rfl | rfl | rfl | rfl | rfl | rfl
  · exact h.elim
  · exact h
  · obtain ⟨n, r, c, go, so, v, rd, rf, t, h1, h2, h3, h4, h5, h6⟩ := h
    exact ⟨n, r, c, go, so, v, rd, rf, t, h1, L h2 (by decide), L h3 (by decide), L h4 (by decide), L h5 (by decide), h6⟩
  · obtain ⟨n, ar, p, pl, go, h1, h2, h3, h4, h5⟩ := h
    exact ⟨n, ar, p, pl, go, h1, L h2 (by decide), fun q hq => L (h3 q hq) (by decide), fun q hq => L (h4 q hq) (by decide), h5⟩
  · obtain ⟨v, dy, pd, a, b, h1, h2, h3, h4⟩ := h
    exact ⟨v, dy, pd, a, b, h1, L h2 (by decide), L h3 (by decide), h4⟩
  · obtain ⟨m, h1, h2, h3⟩ := h
    exact ⟨m, h1, L h2 (by decide), h3⟩
  · exact h
  · exact h
  · obtain ⟨f, h1, h2, h3⟩ := h
    exact ⟨f, h1, fun j q hq => L (h2 j q hq) (by decide), h3⟩
  · obtain ⟨f, h1, h2, h3⟩ := h
    exact ⟨f, h1, fun j q hq => L (h2 j q hq) (by decide), h3⟩
  · obtain ⟨f, h1, h2, h3⟩ := h
    exact ⟨f, h1, fun j q hq => L (h2 j q hq) (by decide), h3⟩
  · obtain ⟨td, ca, ha, da, c1, c2, c3, c4, h1, k1, k2, k3, k4, k5, k6, k7, k8⟩ := h
    exact ⟨td, ca, ha, da, c1, c2, c3, c4, h1, L k1 (by decide), L k2 (by decide), L k3 (by decide), L k4 (by decide), L k5 (by decide), L k6 (by decide), L k7 (by decide), k8⟩
  · exact h
theorem tw_wt.cl {d : tw_D} {g : tw_G} {τ : tw_K} {h : tw_H} (hw : tw_wt d g τ h) : tw_wt d g (tw_cl τ) h := by
  intro a k hk h0
  have h13 : k < 13 := by rw [← hk]; exact tw_cl_lt τ a
  have e : τ a = k := by
    unfold tw_cl at hk
    split at hk
    · exact hk
    · exact absurd hk.symm h0
  obtain ⟨x, a1, a2⟩ := hw a k e h0
  exact ⟨x, a1, tw_sh_cl h13 a2⟩
theorem tw_cl_no (τ : tw_K) : tw_no (tw_cl τ) := fun a => Or.inl (Nat.lt_trans (tw_cl_lt τ a) (by decide))
theorem tw_cl_0 {τ : tw_K} {a : Nat} (h : τ a = 0) : tw_cl τ a = 0 := tw_cl_k h (by decide)
set_option maxHeartbeats 4000000 in
set_option maxRecDepth 100000 in
theorem law_start (d : tw_D) (hL : d.2 97 ≤ 2560) : tw_W d mL_law_ (tw_qi (fun r _ => r = 1) tw_nx) 0 [(0, .ref (d.2 98))] [] (fun _ => none) 460900 2560200 := by
  refine tw_new (ci := 9) rfl in_9 tyX5 tyX5_ok dL_law__0 w_111 w_112 w_77 (fs := [.int 0, .int 0, .null, .int 0, .null, .int 0, .null, .int 0, .null, .null, .null, .null]) (fun j hj => by rcases (show j = 0 ∨ j = 1 ∨ j = 2 ∨ j = 3 ∨ j = 4 ∨ j = 5 ∨ j = 6 ∨ j = 7 ∨ j = 8 ∨ j = 9 ∨ j = 10 ∨ j = 11 by omega) with rfl | rfl | rfl | rfl | rfl | rfl | rfl | rfl | rfl | rfl | rfl | rfl <;> rfl) 460899 2560188 (Nat.le_of_ble_eq_true rfl) (Nat.le_of_ble_eq_true rfl) (fun x hx hA_x => ?_)
  obtain ⟨h1, eh1⟩ : ∃ z : tw_H, z = tw_up (fun _ => none) x (.inr (9, [.int 0, .int 0, .null, .int 0, .null, .int 0, .null, .int 0, .null, .null, .null, .null])) := ⟨_, rfl⟩
  rw [← eh1]
  have f1 : h1 x = some (.inr (9, [.int 0, .int 0, .null, .int 0, .null, .int 0, .null, .int 0, .null, .null, .null, .null])) := by rw [eh1]; exact tw_up_s
  have hw : tw_wt d ((fun _ => 0, fun _ => 0) : tw_G) (fun _ => 0) h1 := fun a k hk h0 => absurd hk.symm h0
  refine tw_dup dL_law__3 rfl ?_
  refine tw_bv (tw_callI (M := mL_law_) (pc := 4) okX5_init dL_law__4 w_113 rfl [] [.ref x] rfl rfl ⟨by decide, by decide⟩ (Nat.le_of_ble_eq_true rfl) (c2_X5_init d ((fun _ => 0, fun _ => 0) : tw_G) (fun _ => 0) h1 hw (fun _ => rfl) x rfl f1) 460888 2560136 (Nat.le_of_ble_eq_true rfl) (Nat.le_of_ble_eq_true rfl)) (fun h2 q1 => ?_) (fun E h1 q => q.elim)
  obtain ⟨g, τ1, ⟨eg0, eg2, eg24, eg9, e5, ez⟩, i1⟩ := q1
  refine tw_astore_n [(1, .ref x), (0, .ref (d.2 98))] dL_law__7 rfl (by decide) rfl ?_
  refine tw_new (ci := 14) rfl in_14 tyX10 tyX10_ok dL_law__8 w_1113 w_1114 w_79 (fs := [.int 0, .int 0, .int 0, .null, .null, .null, .null, .null, .null, .null, .null, .null]) (fun j hj => by rcases (show j = 0 ∨ j = 1 ∨ j = 2 ∨ j = 3 ∨ j = 4 ∨ j = 5 ∨ j = 6 ∨ j = 7 ∨ j = 8 ∨ j = 9 ∨ j = 10 ∨ j = 11 by omega) with rfl | rfl | rfl | rfl | rfl | rfl | rfl | rfl | rfl | rfl | rfl | rfl <;> rfl) 460887 2560124 (Nat.le_of_ble_eq_true rfl) (Nat.le_of_ble_eq_true rfl) (fun m hm hA_m => ?_)
  obtain ⟨h3, eh3⟩ : ∃ z : tw_H, z = tw_up h2 m (.inr (14, [.int 0, .int 0, .int 0, .null, .null, .null, .null, .null, .null, .null, .null, .null])) := ⟨_, rfl⟩
  rw [← eh3]
  have f3 : h3 m = some (.inr (14, [.int 0, .int 0, .int 0, .null, .null, .null, .null, .null, .null, .null, .null, .null])) := by rw [eh3]; exact tw_up_s
  have z3 : tw_cl τ1 m = 0 := tw_cl_0 (i1.1.none hm)
  have hw3 : tw_wt d g (tw_cl τ1) h3 := by rw [eh3]; exact i1.1.cl.loc z3
  refine tw_dup dL_law__11 rfl ?_
  refine tw_bv (tw_callI (M := mL_law_) (pc := 12) okX10_init dL_law__12 w_1115 rfl [] [.ref m] rfl rfl ⟨by decide, by decide⟩ (Nat.le_of_ble_eq_true rfl) (c2_X10_init d g (tw_cl τ1) h3 hw3 (tw_cl_no τ1) m z3 f3 eg24 eg9 e5) 460869 2560052 (Nat.le_of_ble_eq_true rfl) (Nat.le_of_ble_eq_true rfl)) (fun h4 q3 => ?_) (fun E h1 q => q.elim)
  obtain ⟨g1, τ2, ⟨a0, a1, a2, a6, a3, a21, a22, a24, a9, a99, a5, az, ay⟩, i3⟩ := q3
  have kx : τ2 x = 11 := i3.2.1.k (tw_cl_k i1.2.2.1 (by decide)) (by decide)
  have km : τ2 m = 36 := i3.2.2.1
  have hg : tw_I9 (100000 * 0) g1 := by have y0 : g1.2 0 = 0 := (a2 0 (by decide)).trans (eg2 0 (by decide)); have y1 : g1.2 1 = 0 := (a2 1 (by decide)).trans (eg2 1 (by decide)); have y2 : g1.2 2 = 0 := (a2 2 (by decide)).trans (eg2 2 (by decide)); have y3 : g1.2 3 = 0 := a3 3 (by decide) (by decide); have y4 : g1.2 4 = 0 := a3 4 (by decide) (by decide); have y5 : g1.2 5 = 0 := a3 5 (by decide) (by decide); have y6 : g1.2 6 = 0 := (a6 6 (by decide) (by decide)).trans (eg2 6 (by decide)); have y7 : g1.2 7 = 0 := (a6 7 (by decide) (by decide)).trans (eg2 7 (by decide)); have y8 : g1.2 8 = 0 := (a6 8 (by decide) (by decide)).trans (eg2 8 (by decide)); have y21 : g1.2 21 = 0 := a21.trans (eg2 21 (by decide)); have y22 : g1.2 22 = 0 := a22; have y24 := a24.trans eg24; have ZZ : ∀ i, 128 ≤ i → (i < 416 ∨ 480 ≤ i) → g1.1 i = 0 := fun i h1 h2 => (by rcases Nat.lt_or_ge i 1312 with z | z; exact az i h1 h2 (Or.inl z); rcases Nat.lt_or_ge i 1344 with z2 | z2; exact (ay i z z2).trans (ez i (by omega)); exact az i h1 h2 (Or.inr z2)); have I50 := tw_I5.start ZZ a99 y3 y4 y5 y7 y8 y22 (a5.1.trans e5.1) a5.2.1 (a5.2.2.1.trans e5.2.2.1) a5.2.2.2; exact ⟨by omega, by omega, by omega, by omega, by omega, by omega, by omega, by omega, by omega, ⟨fun j hj => ⟨fun z => absurd z (by omega), fun _ k hk => a99 j k hj hk⟩, ⟨fun j hj => absurd hj (by omega), fun a b ha hb => by rw [(a99 a b ha hb).2, (a99 b a hb ha).2]; exact ⟨⟨by decide, by decide⟩, rfl⟩⟩, fun j hj => absurd hj (by omega), I50⟩⟩
  refine tw_astore_n [(2, .ref m), (1, .ref x), (0, .ref (d.2 98))] dL_law__15 rfl (by decide) rfl ?_
  refine tw_new (ci := 10) rfl in_10 tyX6 tyX6_ok dL_law__16 w_374 w_375 w_83 (fs := [.long 0, .null]) (fun j hj => by rcases (show j = 0 ∨ j = 1 by omega) with rfl | rfl <;> rfl) 460868 2560050 (Nat.le_of_ble_eq_true rfl) (Nat.le_of_ble_eq_true rfl) (fun o ho hA_o => ?_)
  obtain ⟨h5, eh5⟩ : ∃ z : tw_H, z = tw_up h4 o (.inr (10, [.long 0, .null])) := ⟨_, rfl⟩
  rw [← eh5]
  have f5 : h5 o = some (.inr (10, [.long 0, .null])) := by rw [eh5]; exact tw_up_s
  have z5 : τ2 o = 0 := i3.1.none ho
  have sp5 : tw_sp d τ2 h4 g1 τ2 h5 := by rw [eh5]; exact (tw_sp.rf i3.1).mk ho
  refine tw_dup dL_law__19 rfl ?_
  refine tw_bv (tw_callIN (M := mL_law_) (pc := 20) okX6_init dL_law__20 w_376 rfl [] [.ref o] rfl rfl ⟨by decide, by decide⟩ (Nat.le_of_ble_eq_true rfl) (c_X6_init d h5 o) 460867 2560048 (Nat.le_of_ble_eq_true rfl) (Nat.le_of_ble_eq_true rfl)) (fun h6 q5 => ?_) (fun E h1 q => q.elim)
  rw [q5]
  refine tw_astore_n [(3, .ref o), (2, .ref m), (1, .ref x), (0, .ref (d.2 98))] dL_law__23 rfl (by decide) rfl ?_
  have t5 := sp5.ty (k := 12) ho z5 f5 ⟨0, none, rfl⟩
  have ok : tw_ok5 d x m o (100000 * 0) g1 (tw_ku τ2 o 12) h5 := ⟨t5.1, hg, (tw_ku_le z5).k kx (by decide), (tw_ku_le z5).k km (by decide), tw_ku_s, by unfold tw_MK; rw [a0, eg0, a1]; decide⟩
  refine tw_iconst (v := 0) dL_law__24 (by decide) ?_
  refine tw_istore [(4, .int 0), (3, .ref o), (2, .ref m), (1, .ref x), (0, .ref (d.2 98))] dL_law__25 (by decide) rfl ?_
  refine tw_lv [4, 3, 2, 1, 0] rfl ?_
  refine tw_less (c2 := 900 * 512) (n2 := 5000 * 512) (Nat.le_of_ble_eq_true rfl) (Nat.le_of_ble_eq_true rfl) ?_
  exact law_loop d x m o hL 512 0 g1 _ h5 ok (by decide) (by decide)

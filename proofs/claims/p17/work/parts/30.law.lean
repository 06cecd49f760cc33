/-! the class's methods over the typed heap. Laid by wip/p5/mkclass.py. -/
/-- rates, cuts, gates, roads of class and reference are the same -/
def tw_EQ (g : tw_G) : Prop := ∀ j, j < 4 → (j < g.2 3 → g.1 (160 + 64 * j) = g.1 (480 + 64 * j) ∧ g.1 (160 + 64 * j + 1) = g.1 (480 + 64 * j + 1) ∧ g.1 (160 + 64 * j + 2) = g.1 (480 + 64 * j + 8) ∧ g.1 (160 + 64 * j + 3) = g.1 (480 + 64 * j + 9) ∧ ∀ k, k < 4 → g.1 (160 + 64 * j + 8 + k) = g.1 (416 + 8 * j + k) ∧ g.1 (160 + 64 * j + 16 + k) = g.1 (448 + 8 * j + k)) ∧ (g.2 3 ≤ j → ∀ k, k < 4 → g.1 (416 + 8 * j + k) = 3 ∧ g.1 (448 + 8 * j + k) = 10)
/-- rates, cuts, freights are within their ranges, and a road is the same both ways -/
def tw_EV (g : tw_G) : Prop := (∀ j, j < g.2 3 → (100 ≤ g.1 (480 + 64 * j) ∧ g.1 (480 + 64 * j) ≤ 200) ∧ 0 ≤ g.1 (480 + 64 * j + 1) ∧ g.1 (480 + 64 * j + 1) ≤ 50) ∧ ∀ a b, a < 4 → b < 4 → (0 ≤ g.1 (448 + 8 * a + b) ∧ g.1 (448 + 8 * a + b) ≤ 100) ∧ g.1 (448 + 8 * a + b) = g.1 (448 + 8 * b + a)
def tw_ET (g : tw_G) : Prop := ∀ j, j < g.2 3 → ∀ k, k < 5 → g.1 (160 + 64 * j + 32 + k) = g.1 (480 + 64 * j + 24 + k) ∧ 0 ≤ g.1 (480 + 64 * j + 24 + k) ∧ g.1 (480 + 64 * j + 24 + k) ≤ 9
/-- class and reference have as many things -/
def tw_I9 (g : tw_G) : Prop := g.2 0 = g.2 3 ∧ g.2 1 = g.2 4 ∧ g.2 2 = g.2 5 ∧ g.2 6 = g.2 0 ∧ g.2 7 = g.2 1 ∧ g.2 8 = g.2 2 ∧ g.2 21 = g.2 22 ∧ g.2 24 = 160 + 64 * g.2 0 ∧ g.2 9 = 480 + 64 * g.2 3 ∧ tw_EQ g ∧ tw_EV g ∧ tw_ET g
theorem tw_EV.of {g g1 : tw_G} (e : tw_EV g) (h1 : ∀ i, 448 ≤ i → i < 480 → g1.1 i = g.1 i) (h2 : ∀ j, j < g.2 3 → g1.1 (480 + 64 * j) = g.1 (480 + 64 * j) ∧ g1.1 (480 + 64 * j + 1) = g.1 (480 + 64 * j + 1)) (h3 : g1.2 3 = g.2 3) : tw_EV g1 := by
  refine ⟨fun j hj => ?_, fun a b ha hb => ?_⟩
  · rw [h3] at hj
    rw [(h2 j hj).1, (h2 j hj).2]
    exact e.1 j hj
  · rw [h1 _ (by omega) (by omega), h1 (448 + 8 * b + a) (by omega) (by omega)]
    exact e.2 a b ha hb
theorem tw_EV.of2 {g g1 : tw_G} (e : tw_EV g) (h1 : ∀ i, 128 ≤ i → g1.1 i = g.1 i) (h3 : g1.2 3 = g.2 3) : tw_EV g1 := e.of (fun i _ _ => h1 i (by omega)) (fun j _ => ⟨h1 _ (by omega), h1 _ (by omega)⟩) h3
theorem tw_I9.ev {g : tw_G} (i : tw_I9 g) : tw_EV g := i.2.2.2.2.2.2.2.2.2.2.1
theorem tw_I9.et {g : tw_G} (i : tw_I9 g) : tw_ET g := i.2.2.2.2.2.2.2.2.2.2.2
theorem tw_ET.of {g g1 : tw_G} (e : tw_ET g) (h1 : ∀ j, j < g.2 3 → ∀ k, k < 5 → g1.1 (160 + 64 * j + 32 + k) = g.1 (160 + 64 * j + 32 + k) ∧ g1.1 (480 + 64 * j + 24 + k) = g.1 (480 + 64 * j + 24 + k)) (h3 : g1.2 3 = g.2 3) : tw_ET g1 := by
  intro j hj k hk
  rw [h3] at hj
  rw [(h1 j hj k hk).1, (h1 j hj k hk).2]
  exact e j hj k hk
theorem tw_ET.of2 {g g1 : tw_G} (e : tw_ET g) (h1 : ∀ i, 128 ≤ i → g1.1 i = g.1 i) (h3 : g1.2 3 = g.2 3) : tw_ET g1 := e.of (fun j _ k _ => ⟨h1 _ (by omega), h1 _ (by omega)⟩) h3
theorem tw_EQ.of {g g1 : tw_G} (e : tw_EQ g) (h1 : ∀ i, 128 ≤ i → g1.1 i = g.1 i) (h3 : g1.2 3 = g.2 3) : tw_EQ g1 := by
  intro j hj
  have e := e j hj
  rw [← h3] at e
  refine ⟨fun hl => ?_, fun hl k hk => ?_⟩
  · obtain ⟨a, b, c, d, f⟩ := e.1 hl
    rw [← h1 _ (by omega), ← h1 (480 + 64 * j) (by omega)] at a
    rw [← h1 _ (by omega), ← h1 (480 + 64 * j + 1) (by omega)] at b
    rw [← h1 _ (by omega), ← h1 (480 + 64 * j + 8) (by omega)] at c
    rw [← h1 _ (by omega), ← h1 (480 + 64 * j + 9) (by omega)] at d
    refine ⟨a, b, c, d, fun k hk => ?_⟩
    obtain ⟨f1, f2⟩ := f k hk
    rw [← h1 _ (by omega), ← h1 (416 + 8 * j + k) (by omega)] at f1
    rw [← h1 _ (by omega), ← h1 (448 + 8 * j + k) (by omega)] at f2
    exact ⟨f1, f2⟩
  · obtain ⟨f1, f2⟩ := e.2 hl k hk
    rw [← h1 _ (by omega)] at f1
    rw [← h1 _ (by omega)] at f2
    exact ⟨f1, f2⟩
theorem tw_I9.eq {g : tw_G} (i : tw_I9 g) : tw_EQ g := i.2.2.2.2.2.2.2.2.2.1
theorem tw_I9.mk {g : tw_G} {i : Nat} {m : Int32} (I : tw_I9 g) (hi : i < 128) : tw_I9 (tw_g1 g i m) :=
  ⟨I.1, I.2.1, I.2.2.1, I.2.2.2.1, I.2.2.2.2.1, I.2.2.2.2.2.1, I.2.2.2.2.2.2.1, I.2.2.2.2.2.2.2.1, I.2.2.2.2.2.2.2.2.1, I.eq.of (fun k hk => tw_g1_ne (by omega)) rfl, I.ev.of2 (fun k hk => tw_g1_ne (by omega)) rfl, I.et.of2 (fun k hk => tw_g1_ne (by omega)) rfl⟩
theorem tw_I9.pass {g : tw_G} {D : Nat} (i : tw_I9 g) : tw_I9 (tw_g2 (tw_g2 g 21 (g.2 21 + D)) 22 (g.2 22 + D)) := by
  have e := i.eq
  have v := i.ev
  have w9 := i.et
  obtain ⟨i1, i2, i3, i4, i5, i6, i7, i8, i9, -⟩ := i
  exact ⟨i1, i2, i3, i4, i5, i6, congrArg (fun k => k + D) i7, i8, i9, e.of (fun _ _ => rfl) rfl, v.of2 (fun _ _ => rfl) rfl, w9.of2 (fun _ _ => rfl) rfl⟩
theorem tw_I9.house {g g9 : tw_G} (i : tw_I9 g) (a : tw_gk 4 (tw_gI g 7 1) g9) : tw_I9 g9 := by
  have e := i.eq
  have v := i.ev
  have w9 := i.et
  obtain ⟨i1, i2, i3, i4, i5, i6, i7, i8, i9, -⟩ := i
  have k0 : g9.2 0 = g.2 0 := a.2.2.1 0 (by decide) (by decide)
  have k1 : g9.2 1 = g.2 1 + 1 := a.2.2.1 1 (by decide) (by decide)
  have k2 : g9.2 2 = g.2 2 := a.2.2.1 2 (by decide) (by decide)
  have k3 : g9.2 3 = g.2 3 := a.2.2.1 3 (by decide) (by decide)
  have k4 : g9.2 4 = g.2 4 + 1 := a.2.1
  have k5 : g9.2 5 = g.2 5 := a.2.2.1 5 (by decide) (by decide)
  have k6 : g9.2 6 = g.2 6 := a.2.2.1 6 (by decide) (by decide)
  have k7 : g9.2 7 = g.2 7 + 1 := a.2.2.1 7 (by decide) (by decide)
  have k8 : g9.2 8 = g.2 8 := a.2.2.1 8 (by decide) (by decide)
  have k9 : g9.2 9 = g.2 9 := a.2.2.1 9 (by decide) (by decide)
  have k21 : g9.2 21 = g.2 21 := a.2.2.1 21 (by decide) (by decide)
  have k22 : g9.2 22 = g.2 22 := a.2.2.1 22 (by decide) (by decide)
  have k24 : g9.2 24 = g.2 24 := a.2.2.1 24 (by decide) (by decide)
  exact ⟨by omega, by omega, by omega, by omega, by omega, by omega, by omega, by omega, by omega, e.of (fun j hj => a.2.2.2 j hj) k3, v.of2 (fun j hj => a.2.2.2 j hj) k3, w9.of2 (fun j hj => a.2.2.2 j hj) k3⟩
theorem tw_I9.owe {g g9 : tw_G} (i : tw_I9 g) (a : tw_gk 5 (tw_gI g 8 2) g9) : tw_I9 g9 := by
  have e := i.eq
  have v := i.ev
  have w9 := i.et
  obtain ⟨i1, i2, i3, i4, i5, i6, i7, i8, i9, -⟩ := i
  have k0 : g9.2 0 = g.2 0 := a.2.2.1 0 (by decide) (by decide)
  have k1 : g9.2 1 = g.2 1 := a.2.2.1 1 (by decide) (by decide)
  have k2 : g9.2 2 = g.2 2 + 1 := a.2.2.1 2 (by decide) (by decide)
  have k3 : g9.2 3 = g.2 3 := a.2.2.1 3 (by decide) (by decide)
  have k4 : g9.2 4 = g.2 4 := a.2.2.1 4 (by decide) (by decide)
  have k5 : g9.2 5 = g.2 5 + 1 := a.2.1
  have k6 : g9.2 6 = g.2 6 := a.2.2.1 6 (by decide) (by decide)
  have k7 : g9.2 7 = g.2 7 := a.2.2.1 7 (by decide) (by decide)
  have k8 : g9.2 8 = g.2 8 + 1 := a.2.2.1 8 (by decide) (by decide)
  have k9 : g9.2 9 = g.2 9 := a.2.2.1 9 (by decide) (by decide)
  have k21 : g9.2 21 = g.2 21 := a.2.2.1 21 (by decide) (by decide)
  have k22 : g9.2 22 = g.2 22 := a.2.2.1 22 (by decide) (by decide)
  have k24 : g9.2 24 = g.2 24 := a.2.2.1 24 (by decide) (by decide)
  exact ⟨by omega, by omega, by omega, by omega, by omega, by omega, by omega, by omega, by omega, e.of (fun j hj => a.2.2.2 j hj) k3, v.of2 (fun j hj => a.2.2.2 j hj) k3, w9.of2 (fun j hj => a.2.2.2 j hj) k3⟩
theorem tw_gCI_2 {g : tw_G} {n y d f t m i : Nat} {r c : Int32} (h0 : i ≠ 0) (h6 : i ≠ 6) (h24 : i ≠ 24) (hi : i < 160) : (tw_gI (tw_gC g (160 + 64 * n) y d f t m r c) 6 0).2 i = g.2 i := by
  show (if i = 0 then _ else if i = 6 then _ else _) = _
  rw [if_neg h0, if_neg h6]
  exact tw_gC_2 h24 (by omega) (by omega)
theorem tw_I9.country {g gL g9 : tw_G} {y d f t m : Nat} {r ct : Int32} (I : tw_I9 g) (hR : (100 ≤ r ∧ r ≤ 200) ∧ 0 ≤ ct ∧ ct ≤ 50) (hL : g.2 0 < 4) (a : ∃ y9 o9 t9, tw_gk 3 (tw_gN gL (480 + 64 * gL.2 3) y9 o9 t9 r ct) g9) (eL : gL = tw_gI (tw_gC g (160 + 64 * g.2 0) y d f t m r ct) 6 0) : tw_I9 g9 := by
  obtain ⟨y9, o9, t9, a0, a1, a2, a3⟩ := a
  have e := I.eq
  have v := I.ev
  have w9 := I.et
  obtain ⟨i1, i2, i3, i4, i5, i6, i7, i8, i9, -⟩ := I
  have L : ∀ i, i ≠ 0 → i ≠ 6 → i ≠ 24 → i < 160 → gL.2 i = g.2 i := by rw [eL]; exact fun i h0 h6 h24 hi => tw_gCI_2 h0 h6 h24 hi
  have l3 := L 3 (by decide) (by decide) (by decide) (by decide)
  have c0 : (tw_gC g (160 + 64 * g.2 0) y d f t m r ct).2 0 = g.2 0 := tw_gC_2 (by decide) (by omega) (by omega)
  have c6 : (tw_gC g (160 + 64 * g.2 0) y d f t m r ct).2 6 = g.2 6 := tw_gC_2 (by decide) (by omega) (by omega)
  have l0 : gL.2 0 = g.2 0 + 1 := by rw [eL]; show (tw_gC g (160 + 64 * g.2 0) y d f t m r ct).2 0 + 1 = _; rw [c0]
  have l6 : gL.2 6 = g.2 6 + 1 := by rw [eL]; show (tw_gC g (160 + 64 * g.2 0) y d f t m r ct).2 6 + 1 = _; rw [c6]
  have l24 : gL.2 24 = 160 + 64 * g.2 0 + 64 := by rw [eL]; rfl
  rw [l3] at a1 a2 a3
  have N : ∀ i, i ≠ 9 → i < 480 → (tw_gN gL (480 + 64 * g.2 3) y9 o9 t9 r ct).2 i = gL.2 i := fun i h h2 => tw_gN_2 h (by omega) (by omega)
  have n3 : g9.2 3 = g.2 3 + 1 := by rw [a1, N 3 (by decide) (by decide), l3]
  have n9 : g9.2 9 = 480 + 64 * g.2 3 + 64 := by rw [a2 9 (by decide) (by decide)]; rfl
  have P : ∀ i, i ≠ 3 → i ≠ 9 → (i < 10 ∨ i = 21 ∨ i = 22 ∨ i = 24) → g9.2 i = gL.2 i := fun i h3 h9 h => by rw [a2 i (by omega) h3, N i h9 (by omega)]
  have p0 := P 0 (by decide) (by decide) (by decide)
  have p1 := P 1 (by decide) (by decide) (by decide)
  have p2 := P 2 (by decide) (by decide) (by decide)
  have p4 := P 4 (by decide) (by decide) (by decide)
  have p5 := P 5 (by decide) (by decide) (by decide)
  have p6 := P 6 (by decide) (by decide) (by decide)
  have p7 := P 7 (by decide) (by decide) (by decide)
  have p8 := P 8 (by decide) (by decide) (by decide)
  have p21 := P 21 (by decide) (by decide) (by decide)
  have p22 := P 22 (by decide) (by decide) (by decide)
  have p24 := P 24 (by decide) (by decide) (by decide)
  rw [L 1 (by decide) (by decide) (by decide) (by decide)] at p1
  rw [L 2 (by decide) (by decide) (by decide) (by decide)] at p2
  rw [L 4 (by decide) (by decide) (by decide) (by decide)] at p4
  rw [L 5 (by decide) (by decide) (by decide) (by decide)] at p5
  rw [L 7 (by decide) (by decide) (by decide) (by decide)] at p7
  rw [L 8 (by decide) (by decide) (by decide) (by decide)] at p8
  rw [L 21 (by decide) (by decide) (by decide) (by decide)] at p21
  rw [L 22 (by decide) (by decide) (by decide) (by decide)] at p22
  have C : ∀ i, 128 ≤ i → (i < 160 + 64 * g.2 0 ∨ 160 + 64 * g.2 0 + 40 ≤ i) → (i < 480 + 64 * g.2 3 ∨ 480 + 64 * g.2 3 + 32 ≤ i) → g9.1 i = g.1 i := fun i h1 h2 h3 => by
    rw [a3 i h1, tw_gN_1 (by omega), eL]
    show (tw_gC g (160 + 64 * g.2 0) y d f t m r ct).1 i = _
    exact tw_gC_1 (by omega)
  have V := tw_gC_v (g := g) (b := 160 + 64 * g.2 0) (x := y) (rd := d) (rf := f) (t := t) (m := m) (r := r) (c := ct)
  have W := tw_gN_v (g := gL) (b := 480 + 64 * g.2 3) (x := y9) (o := o9) (t := t9) (r := r) (c := ct)
  have D : ∀ i, 128 ≤ i → (i < 480 + 64 * g.2 3 ∨ 480 + 64 * g.2 3 + 32 ≤ i) → g9.1 i = (tw_gC g (160 + 64 * g.2 0) y d f t m r ct).1 i := fun i h1 h3 => by
    rw [a3 i h1, tw_gN_1 (by omega), eL]
    rfl
  refine ⟨by omega, by omega, by omega, by omega, by omega, by omega, by omega, by omega, by omega, ⟨fun j hj => ⟨fun hl => ?_, fun hl k hk => ?_⟩, ?_, ?_⟩⟩
  · have ej := e j hj
    by_cases q : j = g.2 0
    · have q3 : j = g.2 3 := by omega
      rw [← q] at D V
      rw [← q3] at D W
      have E := ej.2 (by omega)
      refine ⟨?_, ?_, ?_, ?_, fun k hk => ⟨?_, ?_⟩⟩
      · rw [D _ (by omega) (by omega), a3 _ (by omega), ← q3, V.1, W.1]
      · rw [D _ (by omega) (by omega), a3 _ (by omega), ← q3, V.2.1, W.2.1]
      · rw [D _ (by omega) (by omega), a3 _ (by omega), ← q3, V.2.2.1]; exact (W.2.2 0 (by decide)).symm
      · rw [D _ (by omega) (by omega), a3 _ (by omega), ← q3, V.2.2.2.1]; exact (W.2.2 1 (by decide)).symm
      · rw [D _ (by omega) (by omega), C _ (by omega) (by omega) (by omega), V.2.2.2.2.1 k hk, (E k hk).1]
      · rw [D _ (by omega) (by omega), C _ (by omega) (by omega) (by omega), V.2.2.2.2.2 k hk, (E k hk).2]
    · obtain ⟨b1, b2, b3, b4, b5⟩ := ej.1 (by omega)
      refine ⟨?_, ?_, ?_, ?_, fun k hk => ⟨?_, ?_⟩⟩
      · rw [C _ (by omega) (by omega) (by omega), C (480 + 64 * j) (by omega) (by omega) (by omega)]; exact b1
      · rw [C _ (by omega) (by omega) (by omega), C (480 + 64 * j + 1) (by omega) (by omega) (by omega)]; exact b2
      · rw [C _ (by omega) (by omega) (by omega), C (480 + 64 * j + 8) (by omega) (by omega) (by omega)]; exact b3
      · rw [C _ (by omega) (by omega) (by omega), C (480 + 64 * j + 9) (by omega) (by omega) (by omega)]; exact b4
      · rw [C _ (by omega) (by omega) (by omega), C (416 + 8 * j + k) (by omega) (by omega) (by omega)]; exact (b5 k hk).1
      · rw [C _ (by omega) (by omega) (by omega), C (448 + 8 * j + k) (by omega) (by omega) (by omega)]; exact (b5 k hk).2
  · have E := (e j hj).2 (by omega) k hk
    rw [C _ (by omega) (by omega) (by omega), C _ (by omega) (by omega) (by omega)]
    exact E
  · refine ⟨fun j hj => ?_, fun a b ha hb => ?_⟩
    · by_cases q : j = g.2 3
      · rw [a3 _ (by omega), a3 _ (by omega), q, W.1, W.2.1]; exact hR
      · rw [C _ (by omega) (by omega) (by omega), C _ (by omega) (by omega) (by omega)]; exact v.1 j (by omega)
    · rw [C _ (by omega) (by omega) (by omega), C (448 + 8 * b + a) (by omega) (by omega) (by omega)]; exact v.2 a b ha hb
  · intro j hj k hk
    by_cases q : j = g.2 3
    · have z1 : g9.1 (160 + 64 * j + 32 + k) = 0 := by
        rw [D _ (by omega) (by omega), show 160 + 64 * j + 32 + k = 160 + 64 * g.2 0 + 32 + k by omega]
        exact tw_gC_v5 k hk
      have z2 : g9.1 (480 + 64 * j + 24 + k) = 0 := by
        rw [a3 _ (by omega), show 480 + 64 * j + 24 + k = 480 + 64 * g.2 3 + 24 + k by omega]
        exact tw_gN_v5 k hk
      rw [z1, z2]
      exact ⟨rfl, by decide, by decide⟩
    · rw [C _ (by omega) (by omega) (by omega), C (480 + 64 * j + 24 + k) (by omega) (by omega) (by omega)]
      exact w9 j (by omega) k hk
theorem tw_V_law {g : tw_G} {n rt ct : Int32} (I : tw_I9 g) (i : tw_ix (g.2 6) n) (h4 : g.2 6 ≤ 4) : g.1 (160 + 64 * tw_DN n) = (tw_g1 (tw_g1 g (160 + 64 * tw_DN n) rt) (160 + 64 * tw_DN n + 1) ct).1 (480 + 64 * tw_DN n) := by
  have e := I.eq
  obtain ⟨i1, i2, i3, i4, -⟩ := I
  obtain ⟨j, hj, rfl⟩ := i
  rw [show tw_DN (nI j) = j from nI_clamp (by omega)]
  have E := (e j (by omega)).1 (by omega)
  repeat rw [tw_g1_ne (by omega)]
  exact E.1
set_option maxHeartbeats 4000000 in
theorem tw_I9.law {g : tw_G} {n rt ct : Int32} (I : tw_I9 g) (i : tw_ix (g.2 6) n) (hR : tw_RL rt ct) (h4 : g.2 6 ≤ 4) : tw_I9 (tw_g1 (tw_g1 (tw_g1 (tw_g1 g (160 + 64 * tw_DN n) rt) (160 + 64 * tw_DN n + 1) ct) (480 + 64 * tw_DN n) rt) (480 + 64 * tw_DN n + 1) ct) := by
  have e := I.eq
  have I0 := I
  obtain ⟨i1, i2, i3, i4, -⟩ := I
  obtain ⟨j, hj, rfl⟩ := i
  rw [show tw_DN (nI j) = j from nI_clamp (by omega)]
  refine ⟨I0.1, I0.2.1, I0.2.2.1, I0.2.2.2.1, I0.2.2.2.2.1, I0.2.2.2.2.2.1, I0.2.2.2.2.2.2.1, I0.2.2.2.2.2.2.2.1, I0.2.2.2.2.2.2.2.2.1, ⟨fun j2 hj2 => ⟨fun hl => ?_, fun hl k2 hk2 => ?_⟩, ?_, I0.et.of (fun j3 hj3 k3 hk3 => ⟨by repeat rw [tw_g1_ne (by omega)], by repeat rw [tw_g1_ne (by omega)]⟩) rfl⟩⟩
  · obtain ⟨b1, b2, b3, b4, b5⟩ := (e j2 hj2).1 hl
    simp only [tw_g1]
    refine ⟨?_, ?_, ?_, ?_, fun k2 hk2 => ⟨?_, ?_⟩⟩
    · repeat' split
      all_goals first | rfl | exact b1 | omega
    · repeat' split
      all_goals first | rfl | exact b2 | omega
    · repeat' split
      all_goals first | rfl | exact b3 | omega
    · repeat' split
      all_goals first | rfl | exact b4 | omega
    · have b5 := (b5 k2 hk2).1
      repeat' split
      all_goals first | rfl | exact b5 | omega
    · have b5 := (b5 k2 hk2).2
      repeat' split
      all_goals first | rfl | exact b5 | omega
  · have b := (e j2 hj2).2 hl k2 hk2
    have hl : g.2 3 ≤ j2 := hl
    repeat rw [tw_g1_ne (by omega)]
    exact b
  · have v := I0.ev
    refine ⟨fun j3 hj3 => ?_, fun a3 b3 ha3 hb3 => ?_⟩
    · have v1 := v.1 j3 hj3
      have hj3 : j3 < g.2 3 := hj3
      simp only [tw_g1]
      repeat' split
      all_goals first | exact hR | exact v1 | (exfalso; omega)
    · have v2 := v.2 a3 b3 ha3 hb3
      repeat rw [tw_g1_ne (by omega)]
      exact v2
theorem tw_V_gate {g : tw_G} {n m b : Int32} (I : tw_I9 g) (i : tw_ix (g.2 6) n) (hm : tw_RM m) (h4 : g.2 6 ≤ 4) : g.1 (160 + 64 * tw_DN n + 2 + tw_DN m) = (tw_g1 g (160 + 64 * tw_DN n + 2 + tw_DN m) b).1 (480 + 64 * tw_DN n + 8 + tw_DN m) := by
  have e := I.eq
  obtain ⟨i1, i2, i3, i4, -⟩ := I
  obtain ⟨j, hj, rfl⟩ := i
  rw [show tw_DN (nI j) = j from nI_clamp (by omega)]
  obtain ⟨k, hk, rfl⟩ := hm.k
  rw [show tw_DN (nI k) = k from nI_clamp (by omega)]
  have E := (e j (by omega)).1 (by omega)
  repeat rw [tw_g1_ne (by omega)]
  rcases (show k = 0 ∨ k = 1 by omega) with rfl | rfl
  · exact E.2.2.1
  · exact E.2.2.2.1
set_option maxHeartbeats 4000000 in
theorem tw_I9.gate {g : tw_G} {n m b : Int32} (I : tw_I9 g) (i : tw_ix (g.2 6) n) (hm : tw_RM m) (h4 : g.2 6 ≤ 4) : tw_I9 (tw_g1 (tw_g1 g (160 + 64 * tw_DN n + 2 + tw_DN m) b) (480 + 64 * tw_DN n + 8 + tw_DN m) b) := by
  have e := I.eq
  have I0 := I
  obtain ⟨i1, i2, i3, i4, -⟩ := I
  obtain ⟨j, hj, rfl⟩ := i
  rw [show tw_DN (nI j) = j from nI_clamp (by omega)]
  obtain ⟨k, hk, rfl⟩ := hm.k
  rw [show tw_DN (nI k) = k from nI_clamp (by omega)]
  refine ⟨I0.1, I0.2.1, I0.2.2.1, I0.2.2.2.1, I0.2.2.2.2.1, I0.2.2.2.2.2.1, I0.2.2.2.2.2.2.1, I0.2.2.2.2.2.2.2.1, I0.2.2.2.2.2.2.2.2.1, ⟨fun j2 hj2 => ⟨fun hl => ?_, fun hl k2 hk2 => ?_⟩, ?_, I0.et.of (fun j3 hj3 k3 hk3 => ⟨by repeat rw [tw_g1_ne (by omega)], by repeat rw [tw_g1_ne (by omega)]⟩) rfl⟩⟩
  · obtain ⟨b1, b2, b3, b4, b5⟩ := (e j2 hj2).1 hl
    simp only [tw_g1]
    refine ⟨?_, ?_, ?_, ?_, fun k2 hk2 => ⟨?_, ?_⟩⟩
    · repeat' split
      all_goals first | rfl | exact b1 | omega
    · repeat' split
      all_goals first | rfl | exact b2 | omega
    · repeat' split
      all_goals first | rfl | exact b3 | omega
    · repeat' split
      all_goals first | rfl | exact b4 | omega
    · have b5 := (b5 k2 hk2).1
      repeat' split
      all_goals first | rfl | exact b5 | omega
    · have b5 := (b5 k2 hk2).2
      repeat' split
      all_goals first | rfl | exact b5 | omega
  · have b := (e j2 hj2).2 hl k2 hk2
    have hl : g.2 3 ≤ j2 := hl
    repeat rw [tw_g1_ne (by omega)]
    exact b
  · exact I0.ev.of (fun i h1 h2 => by repeat rw [tw_g1_ne (by omega)]) (fun j3 hj3 => ⟨by repeat rw [tw_g1_ne (by omega)], by repeat rw [tw_g1_ne (by omega)]⟩) rfl
theorem tw_V_road {g : tw_G} {a b dy fr : Int32} (I : tw_I9 g) (i : (tw_ix (g.2 6) a ∧ tw_ix (g.2 6) b)) (h4 : g.2 6 ≤ 4) : g.1 (160 + 64 * tw_DN a + 8 + tw_DN b) = (tw_g1 (tw_g1 (tw_g1 (tw_g1 g (160 + 64 * tw_DN a + 8 + tw_DN b) dy) (160 + 64 * tw_DN a + 16 + tw_DN b) fr) (160 + 64 * tw_DN b + 8 + tw_DN a) dy) (160 + 64 * tw_DN b + 16 + tw_DN a) fr).1 (416 + 8 * tw_DN a + tw_DN b) := by
  have e := I.eq
  obtain ⟨i1, i2, i3, i4, -⟩ := I
  obtain ⟨⟨j, hj, rfl⟩, ⟨w, hw, rfl⟩⟩ := i
  rw [show tw_DN (nI j) = j from nI_clamp (by omega), show tw_DN (nI w) = w from nI_clamp (by omega)]
  have E := (e j (by omega)).1 (by omega)
  repeat rw [tw_g1_ne (by omega)]
  exact (E.2.2.2.2 w (by omega)).1
theorem tw_g1_ap {g : tw_G} {i j : Nat} {v : Int32} : (tw_g1 g i v).1 j = if j = i then v else g.1 j := rfl
theorem tw_road_c1 {g : tw_G} {a b p q : Nat} {dy fr : Int32} (ha : a < 4) (hb : b < 4) (hp : p < 4) (hq : q < 4) : (tw_g1 (tw_g1 (tw_g1 (tw_g1 (tw_g1 (tw_g1 (tw_g1 (tw_g1 g (160 + 64 * a + 8 + b) dy) (160 + 64 * a + 16 + b) fr) (160 + 64 * b + 8 + a) dy) (160 + 64 * b + 16 + a) fr) (416 + 8 * a + b) dy) (416 + 8 * b + a) dy) (448 + 8 * a + b) fr) (448 + 8 * b + a) fr).1 (160 + 64 * p + 8 + q) = if p = a ∧ q = b ∨ p = b ∧ q = a then dy else g.1 (160 + 64 * p + 8 + q) := by
  rw [tw_g1_ap, tw_g1_ap, tw_g1_ap, tw_g1_ap, tw_g1_ap, tw_g1_ap, tw_g1_ap, tw_g1_ap]
  repeat' split
  all_goals first | rfl | (exfalso; omega)
theorem tw_road_c2 {g : tw_G} {a b p q : Nat} {dy fr : Int32} (ha : a < 4) (hb : b < 4) (hp : p < 4) (hq : q < 4) : (tw_g1 (tw_g1 (tw_g1 (tw_g1 (tw_g1 (tw_g1 (tw_g1 (tw_g1 g (160 + 64 * a + 8 + b) dy) (160 + 64 * a + 16 + b) fr) (160 + 64 * b + 8 + a) dy) (160 + 64 * b + 16 + a) fr) (416 + 8 * a + b) dy) (416 + 8 * b + a) dy) (448 + 8 * a + b) fr) (448 + 8 * b + a) fr).1 (160 + 64 * p + 16 + q) = if p = a ∧ q = b ∨ p = b ∧ q = a then fr else g.1 (160 + 64 * p + 16 + q) := by
  rw [tw_g1_ap, tw_g1_ap, tw_g1_ap, tw_g1_ap, tw_g1_ap, tw_g1_ap, tw_g1_ap, tw_g1_ap]
  repeat' split
  all_goals first | rfl | (exfalso; omega)
theorem tw_road_m1 {g : tw_G} {a b p q : Nat} {dy fr : Int32} (ha : a < 4) (hb : b < 4) (hp : p < 4) (hq : q < 4) : (tw_g1 (tw_g1 (tw_g1 (tw_g1 (tw_g1 (tw_g1 (tw_g1 (tw_g1 g (160 + 64 * a + 8 + b) dy) (160 + 64 * a + 16 + b) fr) (160 + 64 * b + 8 + a) dy) (160 + 64 * b + 16 + a) fr) (416 + 8 * a + b) dy) (416 + 8 * b + a) dy) (448 + 8 * a + b) fr) (448 + 8 * b + a) fr).1 (416 + 8 * p + q) = if p = a ∧ q = b ∨ p = b ∧ q = a then dy else g.1 (416 + 8 * p + q) := by
  rw [tw_g1_ap, tw_g1_ap, tw_g1_ap, tw_g1_ap, tw_g1_ap, tw_g1_ap, tw_g1_ap, tw_g1_ap]
  repeat' split
  all_goals first | rfl | (exfalso; omega)
theorem tw_road_m2 {g : tw_G} {a b p q : Nat} {dy fr : Int32} (ha : a < 4) (hb : b < 4) (hp : p < 4) (hq : q < 4) : (tw_g1 (tw_g1 (tw_g1 (tw_g1 (tw_g1 (tw_g1 (tw_g1 (tw_g1 g (160 + 64 * a + 8 + b) dy) (160 + 64 * a + 16 + b) fr) (160 + 64 * b + 8 + a) dy) (160 + 64 * b + 16 + a) fr) (416 + 8 * a + b) dy) (416 + 8 * b + a) dy) (448 + 8 * a + b) fr) (448 + 8 * b + a) fr).1 (448 + 8 * p + q) = if p = a ∧ q = b ∨ p = b ∧ q = a then fr else g.1 (448 + 8 * p + q) := by
  rw [tw_g1_ap, tw_g1_ap, tw_g1_ap, tw_g1_ap, tw_g1_ap, tw_g1_ap, tw_g1_ap, tw_g1_ap]
  repeat' split
  all_goals first | rfl | (exfalso; omega)
theorem tw_road_n {g : tw_G} {a b i : Nat} {dy fr : Int32} (ha : a < 4) (hb : b < 4) (h : i < 416 ∧ (∀ p, p < 4 → i < 160 + 64 * p + 8 ∨ 160 + 64 * p + 20 ≤ i) ∨ 480 ≤ i) : (tw_g1 (tw_g1 (tw_g1 (tw_g1 (tw_g1 (tw_g1 (tw_g1 (tw_g1 g (160 + 64 * a + 8 + b) dy) (160 + 64 * a + 16 + b) fr) (160 + 64 * b + 8 + a) dy) (160 + 64 * b + 16 + a) fr) (416 + 8 * a + b) dy) (416 + 8 * b + a) dy) (448 + 8 * a + b) fr) (448 + 8 * b + a) fr).1 i = g.1 i := by
  have h1 := fun z : i < 416 ∧ (∀ p, p < 4 → i < 160 + 64 * p + 8 ∨ 160 + 64 * p + 20 ≤ i) => z.2 a ha
  have h2 := fun z : i < 416 ∧ (∀ p, p < 4 → i < 160 + 64 * p + 8 ∨ 160 + 64 * p + 20 ≤ i) => z.2 b hb
  rcases h with h | h
  · have h1 := h1 h
    have h2 := h2 h
    have h3 := h.1
    clear h
    repeat rw [tw_g1_ne (by omega)]
  · repeat rw [tw_g1_ne (by omega)]
theorem tw_I9.road {g : tw_G} {a b dy fr : Int32} (I : tw_I9 g) (i : (tw_ix (g.2 6) a ∧ tw_ix (g.2 6) b)) (hR : tw_RD a b dy fr) (h4 : g.2 6 ≤ 4) : tw_I9 (tw_g1 (tw_g1 (tw_g1 (tw_g1 (tw_g1 (tw_g1 (tw_g1 (tw_g1 g (160 + 64 * tw_DN a + 8 + tw_DN b) dy) (160 + 64 * tw_DN a + 16 + tw_DN b) fr) (160 + 64 * tw_DN b + 8 + tw_DN a) dy) (160 + 64 * tw_DN b + 16 + tw_DN a) fr) (416 + 8 * tw_DN a + tw_DN b) dy) (416 + 8 * tw_DN b + tw_DN a) dy) (448 + 8 * tw_DN a + tw_DN b) fr) (448 + 8 * tw_DN b + tw_DN a) fr) := by
  have e := I.eq
  have I0 := I
  obtain ⟨i1, i2, i3, i4, -⟩ := I
  obtain ⟨⟨j, hj, rfl⟩, ⟨w, hw, rfl⟩⟩ := i
  rw [show tw_DN (nI j) = j from nI_clamp (by omega), show tw_DN (nI w) = w from nI_clamp (by omega)]
  have ha : j < 4 := by omega
  have hb : w < 4 := by omega
  obtain ⟨G, eG⟩ : ∃ z : tw_G, z = tw_g1 (tw_g1 (tw_g1 (tw_g1 (tw_g1 (tw_g1 (tw_g1 (tw_g1 g (160 + 64 * j + 8 + w) dy) (160 + 64 * j + 16 + w) fr) (160 + 64 * w + 8 + j) dy) (160 + 64 * w + 16 + j) fr) (416 + 8 * j + w) dy) (416 + 8 * w + j) dy) (448 + 8 * j + w) fr) (448 + 8 * w + j) fr := ⟨_, rfl⟩
  rw [← eG]
  have c1 : ∀ p q, p < 4 → q < 4 → G.1 (160 + 64 * p + 8 + q) = if p = j ∧ q = w ∨ p = w ∧ q = j then dy else g.1 (160 + 64 * p + 8 + q) := by rw [eG]; exact fun p q hp hq => tw_road_c1 ha hb hp hq
  have c2 : ∀ p q, p < 4 → q < 4 → G.1 (160 + 64 * p + 16 + q) = if p = j ∧ q = w ∨ p = w ∧ q = j then fr else g.1 (160 + 64 * p + 16 + q) := by rw [eG]; exact fun p q hp hq => tw_road_c2 ha hb hp hq
  have m1 : ∀ p q, p < 4 → q < 4 → G.1 (416 + 8 * p + q) = if p = j ∧ q = w ∨ p = w ∧ q = j then dy else g.1 (416 + 8 * p + q) := by rw [eG]; exact fun p q hp hq => tw_road_m1 ha hb hp hq
  have m2 : ∀ p q, p < 4 → q < 4 → G.1 (448 + 8 * p + q) = if p = j ∧ q = w ∨ p = w ∧ q = j then fr else g.1 (448 + 8 * p + q) := by rw [eG]; exact fun p q hp hq => tw_road_m2 ha hb hp hq
  have n : ∀ i, (i < 416 ∧ (∀ p, p < 4 → i < 160 + 64 * p + 8 ∨ 160 + 64 * p + 20 ≤ i) ∨ 480 ≤ i) → G.1 i = g.1 i := by rw [eG]; exact fun i h => tw_road_n ha hb h
  have g2 : G.2 = g.2 := by rw [eG]; rfl
  clear eG
  have E : tw_EQ G := by
    intro j2 hj2
    rw [g2]
    refine ⟨fun hl => ?_, fun hl k2 hk2 => ?_⟩
    · obtain ⟨b1, b2, b3, b4, b5⟩ := (e j2 hj2).1 hl
      refine ⟨?_, ?_, ?_, ?_, fun k2 hk2 => ⟨?_, ?_⟩⟩
      · rw [n _ (Or.inl ⟨by omega, fun p hp => by omega⟩), n _ (Or.inr (by omega))]; exact b1
      · rw [n _ (Or.inl ⟨by omega, fun p hp => by omega⟩), n _ (Or.inr (by omega))]; exact b2
      · rw [n _ (Or.inl ⟨by omega, fun p hp => by omega⟩), n _ (Or.inr (by omega))]; exact b3
      · rw [n _ (Or.inl ⟨by omega, fun p hp => by omega⟩), n _ (Or.inr (by omega))]; exact b4
      · rw [c1 j2 k2 hj2 hk2, m1 j2 k2 hj2 hk2, (b5 k2 hk2).1]
      · rw [c2 j2 k2 hj2 hk2, m2 j2 k2 hj2 hk2, (b5 k2 hk2).2]
    · obtain ⟨b1, b2⟩ := (e j2 hj2).2 hl k2 hk2
      rw [m1 j2 k2 hj2 hk2, m2 j2 k2 hj2 hk2, if_neg (by omega), if_neg (by omega)]
      exact ⟨b1, b2⟩
  have V : tw_EV G := by
    have v := I0.ev
    refine ⟨fun j3 hj3 => ?_, fun a3 b3 ha3 hb3 => ?_⟩
    · rw [g2] at hj3
      rw [n _ (Or.inr (by omega)), n _ (Or.inr (by omega))]
      exact v.1 j3 hj3
    · rw [m2 a3 b3 ha3 hb3, m2 b3 a3 hb3 ha3]
      have v2 := v.2 a3 b3 ha3 hb3
      by_cases q : a3 = j ∧ b3 = w ∨ a3 = w ∧ b3 = j
      · rw [if_pos q, if_pos (by omega)]; exact ⟨hR.2.2, rfl⟩
      · rw [if_neg q, if_neg (by omega)]; exact v2
  unfold tw_I9
  rw [g2]
  exact ⟨I0.1, I0.2.1, I0.2.2.1, I0.2.2.2.1, I0.2.2.2.2.1, I0.2.2.2.2.2.1, I0.2.2.2.2.2.2.1, I0.2.2.2.2.2.2.2.1, I0.2.2.2.2.2.2.2.2.1, E, V, I0.et.of (fun j3 hj3 k3 hk3 => ⟨n _ (Or.inl ⟨by omega, fun p hp => by omega⟩), n _ (Or.inr (by omega))⟩) (by rw [g2])⟩
theorem tw_DNr {a b : Nat} {x : Int32} (h1 : nI a ≤ x) (h2 : x ≤ nI b) (ha : a < 2 ^ 31) (hb : b < 2 ^ 31) : a ≤ tw_DN x ∧ tw_DN x ≤ b ∧ x = nI (tw_DN x) := by
  obtain ⟨n, l1, l2, rfl⟩ := tw_I_rng h1 h2 hb ha
  rw [show tw_DN (nI n) = n from nI_clamp (by omega)]
  exact ⟨l1, l2, rfl⟩
theorem tw_I9.em {g : tw_G} (I : tw_I9 g) (h3 : g.2 3 ≤ 4) : tw_EM g := by
  have v := I.ev
  intro j hj
  have r := tw_DNr (a := 100) (b := 200) (v.1 j hj).1.1 (v.1 j hj).1.2 (by decide) (by decide)
  have c := tw_DNr (a := 0) (b := 50) (v.1 j hj).2.1 (v.1 j hj).2.2 (by decide) (by decide)
  refine ⟨r, c.2, fun k hk => ?_⟩
  exact (tw_DNr (a := 0) (b := 100) (v.2 j k (by omega) hk).1.1 (v.2 j k (by omega) hk).1.2 (by decide) (by decide)).2
theorem tw_I9.ec {g : tw_G} (I : tw_I9 g) (h4 : g.2 6 ≤ 4) : tw_EC g := by
  have e := I.eq
  have h63 : g.2 6 = g.2 3 := I.2.2.2.1.trans I.1
  have m := I.em (by omega)
  intro j hj
  have m := m j (by omega)
  obtain ⟨e1, e2, -, -, e5⟩ := (e j (by omega)).1 (by omega)
  rw [e1, e2]
  exact ⟨m.1, m.2.1, fun k hk => by rw [(e5 k hk).2]; exact m.2.2 k hk⟩
theorem tw_I9.tt {g : tw_G} {a b k n : Nat} (I : tw_I9 g) (h4 : g.2 6 ≤ 4) (ha : a < g.2 6) (hb : b < g.2 6) : tw_tC g a b k n = tw_tM g a b k n := by
  have e := I.eq
  have h63 : g.2 6 = g.2 3 := I.2.2.2.1.trans I.1
  obtain ⟨a1, a2, -, -, a5⟩ := (e a (by omega)).1 (by omega)
  obtain ⟨b1, b2, -, -, -⟩ := (e b (by omega)).1 (by omega)
  unfold tw_tC tw_tM
  rw [a1, a2, b1, b2, (a5 b (by omega)).2, (I.ev.2 b a (by omega) (by omega)).2]
theorem tw_V_trip {g : tw_G} {a b m gr : Int32} (I : tw_I9 g) (i : tw_ix (g.2 6) a ∧ tw_ix (g.2 6) b) (h4 : g.2 6 ≤ 4) : nI (tw_tC g (tw_DN a) (tw_DN b) (tw_DN m) (tw_DN gr)) = nI (tw_tM g (tw_DN a) (tw_DN b) (tw_DN m) (tw_DN gr)) := by
  obtain ⟨⟨j, hj, rfl⟩, ⟨w, hw, rfl⟩⟩ := i
  rw [show tw_DN (nI j) = j from nI_clamp (by omega), show tw_DN (nI w) = w from nI_clamp (by omega), I.tt h4 hj hw]
theorem tw_I9.bb {g : tw_G} {a k n j : Nat} (I : tw_I9 g) (h4 : g.2 6 ≤ 4) (ha : a < g.2 6) (hj : j ≤ g.2 6) : tw_bC g a k n j = tw_bM g a k n j := tw_bs_congr j (fun i hi => I.tt h4 ha (by omega))
theorem tw_V_bestTrip {g : tw_G} {n m gr : Int32} (I : tw_I9 g) (i : tw_ix (g.2 6) n) (h4 : g.2 6 ≤ 4) : tw_bno (tw_bC g (tw_DN n) (tw_DN m) (tw_DN gr) (g.2 6)).1 = tw_bno (tw_bM g (tw_DN n) (tw_DN m) (tw_DN gr) (g.2 3)).1 := by
  obtain ⟨j, hj, rfl⟩ := i
  have h63 : g.2 6 = g.2 3 := I.2.2.2.1.trans I.1
  rw [show tw_DN (nI j) = j from nI_clamp (by omega), I.bb h4 hj (Nat.le_refl _), h63]
theorem tw_V_rest {g : tw_G} {gr : Int32} (I : tw_I9 g) (h4 : g.2 6 ≤ 4) : tw_rbi (tw_rC g (tw_DN gr) (g.2 6)) = tw_rbi (tw_rM g (tw_DN gr) (g.2 3)) := by
  have h63 : g.2 6 = g.2 3 := I.2.2.2.1.trans I.1
  unfold tw_rC tw_rM
  rw [← h63]
  exact congrArg tw_rbi (tw_rb_congr _ (fun i hi k _ => by rw [I.bb h4 hi (Nat.le_refl _)]))
theorem tw_ix_DN {m : Nat} {n : Int32} (i : tw_ix m n) (h : m ≤ 10) : tw_DN n < m := by
  obtain ⟨j, hj, rfl⟩ := i
  rw [show tw_DN (nI j) = j from nI_clamp (by omega)]
  exact hj
theorem tw_I9.tc {g : tw_G} (I : tw_I9 g) (h4 : g.2 6 ≤ 4) : tw_TC g := fun j hj k hk => by
  have h63 : g.2 6 = g.2 3 := I.2.2.2.1.trans I.1
  have e := I.et j (by omega) k hk
  rw [e.1]
  exact e.2
theorem tw_I9.ch {g : tw_G} {n am : Int32} (I : tw_I9 g) (i : tw_ix (g.2 6) n) (h4 : g.2 6 ≤ 4) : tw_chC g n am = tw_chM g n am := by
  have h63 : g.2 6 = g.2 3 := I.2.2.2.1.trans I.1
  have l := tw_ix_DN i (by omega)
  unfold tw_chC tw_chM
  rw [tw_tl_congr (g := g) (g' := g) (a := 160 + 64 * tw_DN n + 32) (b := 480 + 64 * tw_DN n + 24) (fun k hk => (I.et _ (by omega) k hk).1)]
theorem tw_gT_1 {g : tw_G} {b i : Nat} {F : tw_F} (h : i < b ∨ b + 5 ≤ i) : (tw_gT g b F).1 i = g.1 i := if_neg (by omega)
theorem tw_chM_L {g : tw_G} {a : Nat} {F : tw_F} {n am : Int32} (ha : a < 4) : tw_chM (tw_gT g (160 + 64 * a + 32) F) n am = tw_chM g n am := by
  unfold tw_chM
  rw [tw_tl_congr (g := tw_gT g (160 + 64 * a + 32) F) (g' := g) (a := 480 + 64 * tw_DN n + 24) (b := 480 + 64 * tw_DN n + 24) (fun k hk => tw_gT_1 (by omega))]
theorem tw_V_coins {g : tw_G} {n am : Int32} (I : tw_I9 g) (i : tw_ix (g.2 6) n) (h4 : g.2 6 ≤ 4) : tw_cd (tw_chC g n am) = tw_cd (tw_chM g n am) := by rw [I.ch i h4]
theorem tw_V_give {g : tw_G} {n am : Int32} (I : tw_I9 g) (i : tw_ix (g.2 6) n) (h4 : g.2 6 ≤ 4) : nI (tw_sum5 (tw_gF (tw_chC g n am))) = nI (tw_sum5 (tw_gF (tw_chM (tw_gT g (160 + 64 * tw_DN n + 32) (tw_gF (tw_chC g n am))) n am))) := by
  rw [tw_chM_L (Nat.lt_of_lt_of_le (tw_ix_DN i (by omega)) h4), I.ch i h4]
theorem tw_V_till {g : tw_G} {n kd my : Int32} (I : tw_I9 g) (i : (tw_ix (g.2 6) n ∧ tw_ix 5 kd)) (h4 : g.2 6 ≤ 4) : g.1 (160 + 64 * tw_DN n + 32 + tw_DN kd) = (tw_g1 g (160 + 64 * tw_DN n + 32 + tw_DN kd) my).1 (480 + 64 * tw_DN n + 24 + tw_DN kd) := by
  have h63 : g.2 6 = g.2 3 := I.2.2.2.1.trans I.1
  have l := tw_ix_DN i.1 (by omega)
  have k := tw_ix_DN i.2 (by omega)
  rw [tw_g1_ne (by omega)]
  exact (I.et _ (by omega) _ k).1
theorem tw_I9.till {g : tw_G} {n kd my : Int32} (I : tw_I9 g) (i : (tw_ix (g.2 6) n ∧ tw_ix 5 kd)) (hR : tw_R9 my) (h4 : g.2 6 ≤ 4) : tw_I9 (tw_g1 (tw_g1 g (160 + 64 * tw_DN n + 32 + tw_DN kd) my) (480 + 64 * tw_DN n + 24 + tw_DN kd) my) := by
  have h63 : g.2 6 = g.2 3 := I.2.2.2.1.trans I.1
  have l := tw_ix_DN i.1 (by omega)
  have k := tw_ix_DN i.2 (by omega)
  obtain ⟨a, ea⟩ : ∃ z, z = tw_DN n := ⟨_, rfl⟩
  obtain ⟨b, eb⟩ : ∃ z, z = tw_DN kd := ⟨_, rfl⟩
  rw [← ea] at l ⊢
  rw [← eb] at k ⊢
  refine ⟨I.1, I.2.1, I.2.2.1, I.2.2.2.1, I.2.2.2.2.1, I.2.2.2.2.2.1, I.2.2.2.2.2.2.1, I.2.2.2.2.2.2.2.1, I.2.2.2.2.2.2.2.2.1, fun j2 hj2 => ⟨fun hl => ?_, fun hl k2 hk2 => ?_⟩, I.ev.of (fun i9 h1 h2 => by repeat rw [tw_g1_ne (by omega)]) (fun j3 hj3 => ⟨by repeat rw [tw_g1_ne (by omega)], by repeat rw [tw_g1_ne (by omega)]⟩) rfl, fun j3 hj3 k3 hk3 => ?_⟩
  · obtain ⟨b1, b2, b3, b4, b5⟩ := (I.eq j2 hj2).1 hl
    have hl : j2 < g.2 3 := hl
    refine ⟨?_, ?_, ?_, ?_, fun k2 hk2 => ⟨?_, ?_⟩⟩
    · repeat rw [tw_g1_ne (by omega)]
      exact b1
    · repeat rw [tw_g1_ne (by omega)]
      exact b2
    · repeat rw [tw_g1_ne (by omega)]
      exact b3
    · repeat rw [tw_g1_ne (by omega)]
      exact b4
    · repeat rw [tw_g1_ne (by omega)]
      exact (b5 k2 hk2).1
    · repeat rw [tw_g1_ne (by omega)]
      exact (b5 k2 hk2).2
  · have b := (I.eq j2 hj2).2 hl k2 hk2
    have hl : g.2 3 ≤ j2 := hl
    repeat rw [tw_g1_ne (by omega)]
    exact b
  · have hj3 : j3 < g.2 3 := hj3
    have e := I.et j3 hj3 k3 hk3
    by_cases q : j3 = a ∧ k3 = b
    · obtain ⟨rfl, rfl⟩ := q
      rw [tw_g1_ne (i := 480 + 64 * j3 + 24 + k3) (by omega), tw_g1_eq, tw_g1_eq]
      exact ⟨rfl, hR⟩
    · repeat rw [tw_g1_ne (by omega)]
      exact e
theorem tw_I9.give {g : tw_G} {n am : Int32} (I : tw_I9 g) (i : tw_ix (g.2 6) n) (hR : tw_RA am) (h4 : g.2 6 ≤ 4) : tw_I9 (tw_gT (tw_gT g (160 + 64 * tw_DN n + 32) (tw_gF (tw_chC g n am))) (480 + 64 * tw_DN n + 24) (tw_gF (tw_chM (tw_gT g (160 + 64 * tw_DN n + 32) (tw_gF (tw_chC g n am))) n am))) := by
  have h63 : g.2 6 = g.2 3 := I.2.2.2.1.trans I.1
  have l := tw_ix_DN i (by omega)
  rw [tw_chM_L (by omega), ← I.ch i h4]
  have gl : ∀ k, tw_gF (tw_chC g n am) k ≤ tw_tl g (160 + 64 * tw_DN n + 32) k := by
    cases z : tw_chC g n am with
    | none => exact fun k => Nat.zero_le _
    | some F => exact (tw_ch_0 _ _ _ z).2
  obtain ⟨F, eF⟩ : ∃ z, z = tw_gF (tw_chC g n am) := ⟨_, rfl⟩
  rw [← eF] at gl ⊢
  obtain ⟨a, ea⟩ : ∃ z, z = tw_DN n := ⟨_, rfl⟩
  rw [← ea] at l gl ⊢
  have N : ∀ i9, (i9 < 160 + 64 * a + 32 ∨ 160 + 64 * a + 37 ≤ i9) → (i9 < 480 + 64 * a + 24 ∨ 480 + 64 * a + 29 ≤ i9) → (tw_gT (tw_gT g (160 + 64 * a + 32) F) (480 + 64 * a + 24) F).1 i9 = g.1 i9 := fun i9 h1 h2 => (tw_gT_1 (by omega)).trans (tw_gT_1 (by omega))
  obtain ⟨G, eG⟩ : ∃ z : tw_G, z = tw_gT (tw_gT g (160 + 64 * a + 32) F) (480 + 64 * a + 24) F := ⟨_, rfl⟩
  have T1 : ∀ k, k < 5 → G.1 (160 + 64 * a + 32 + k) = g.1 (160 + 64 * a + 32 + k) - nI (F k) := fun k hk => by
    rw [eG, tw_gT_1 (by omega)]
    show (if _ then _ else _) = _
    rw [if_pos (by omega), show 160 + 64 * a + 32 + k - (160 + 64 * a + 32) = k by omega]
  have T2 : ∀ k, k < 5 → G.1 (480 + 64 * a + 24 + k) = g.1 (480 + 64 * a + 24 + k) - nI (F k) := fun k hk => by
    rw [eG]
    show (if _ then (tw_gT g (160 + 64 * a + 32) F).1 _ - _ else _) = _
    rw [if_pos (by omega), tw_gT_1 (by omega), show 480 + 64 * a + 24 + k - (480 + 64 * a + 24) = k by omega]
  have G2 : G.2 = g.2 := by rw [eG]; rfl
  rw [← eG] at N ⊢
  clear eG
  unfold tw_I9
  rw [G2]
  refine ⟨I.1, I.2.1, I.2.2.1, I.2.2.2.1, I.2.2.2.2.1, I.2.2.2.2.2.1, I.2.2.2.2.2.2.1, I.2.2.2.2.2.2.2.1, I.2.2.2.2.2.2.2.2.1, fun j2 hj2 => ⟨fun hl => ?_, fun hl k2 hk2 => ?_⟩, I.ev.of (fun i9 h1 h2 => N _ (by omega) (by omega)) (fun j3 hj3 => ⟨N _ (by omega) (by omega), N _ (by omega) (by omega)⟩) (by rw [G2]), fun j3 hj3 k3 hk3 => ?_⟩
  · rw [G2] at hl
    obtain ⟨b1, b2, b3, b4, b5⟩ := (I.eq j2 hj2).1 hl
    refine ⟨?_, ?_, ?_, ?_, fun k2 hk2 => ⟨?_, ?_⟩⟩
    · rw [N _ (by omega) (by omega), N (480 + 64 * j2) (by omega) (by omega)]; exact b1
    · rw [N _ (by omega) (by omega), N (480 + 64 * j2 + 1) (by omega) (by omega)]; exact b2
    · rw [N _ (by omega) (by omega), N (480 + 64 * j2 + 8) (by omega) (by omega)]; exact b3
    · rw [N _ (by omega) (by omega), N (480 + 64 * j2 + 9) (by omega) (by omega)]; exact b4
    · rw [N _ (by omega) (by omega), N (416 + 8 * j2 + k2) (by omega) (by omega)]; exact (b5 k2 hk2).1
    · rw [N _ (by omega) (by omega), N (448 + 8 * j2 + k2) (by omega) (by omega)]; exact (b5 k2 hk2).2
  · rw [G2] at hl
    have b := (I.eq j2 hj2).2 hl k2 hk2
    rw [N _ (by omega) (by omega), N (448 + 8 * j2 + k2) (by omega) (by omega)]
    exact b
  · rw [G2] at hj3
    have e := I.et j3 hj3 k3 hk3
    by_cases q : j3 = a
    · subst q
      rw [T1 k3 hk3, T2 k3 hk3, e.1]
      have u : ∀ k, k < 5 → 0 ≤ g.1 (160 + 64 * j3 + 32 + k) ∧ g.1 (160 + 64 * j3 + 32 + k) ≤ 9 := fun k hk => by
        have e9 := I.et j3 hj3 k hk
        rw [e9.1]
        exact e9.2
      have z := tw_tsub u k3 hk3 gl
      rw [e.1] at z
      exact ⟨rfl, z⟩
    · rw [N _ (by omega) (by omega), N (480 + 64 * j3 + 24 + k3) (by omega) (by omega)]
      exact e
abbrev mL_law_ : tw_M := (yL_law_, cL_law_, 7, (some .boolean), 2048, 84000)
/-- what the loop keeps -/
def tw_ok5 (d : tw_D) (x m o : Nat) (g : tw_G) (τ : tw_K) (h : tw_H) : Prop := tw_wt d g τ h ∧ tw_I9 g ∧ τ x = 11 ∧ τ m = 36 ∧ τ o = 12
abbrev tw_lv5 (d : tw_D) (x m o j : Nat) : List (Nat × Value) := [(0, .ref (d.2 98)), (1, .ref x), (2, .ref m), (3, .ref o), (4, .int (nI (5 * j)))]
/-- on with the loop -/
def tw_J (d : tw_D) (x m o j : Nat) (Q : tw_O → tw_H → Prop) (c n : Nat) : Prop := ∀ (g : tw_G) (τ : tw_K) (h : tw_H), tw_ok5 d x m o g τ h → tw_W d mL_law_ Q 1391 (tw_lv5 d x m o j) [] h c n
theorem tw_ok5.go {d : tw_D} {x m o : Nat} {g g1 : tw_G} {τ τ1 : tw_K} {h h1 : tw_H} (ok : tw_ok5 d x m o g τ h) (e : tw_I9 g1) (s : tw_sp d τ h g1 τ1 h1) : tw_ok5 d x m o g1 τ1 h1 :=
  ⟨s.1, e, s.2.1.k ok.2.2.1 (by decide), s.2.1.k ok.2.2.2.1 (by decide), s.2.1.k ok.2.2.2.2 (by decide)⟩
theorem tw_pop2l {d : tw_D} {M : tw_M} {Q : tw_O → tw_H → Prop} {pc : Nat} {lv : List (Nat × Value)} {st : List Value} {h : tw_H} {c n : Nat} {x : Int64} (hd : decode M.2.1 pc = .ok (.pop2, 1)) (k : tw_W d M Q (pc + 1) lv st h c n) : tw_W d M Q pc lv (.long x :: st) h c n := by
  intro p l e R s m args below meth cd H locs ls cells slots X hl hh hS hc hn
  exact lv_pop2_2 X.1 X.2.1 hd rfl (k p l e R s m args below meth cd H locs ls cells slots X hl hh hS hc hn)
theorem tw_s1 (a : Nat) : nI a + 1 = nI (a + 1) := nI_1 a
theorem tw_s2 (a : Nat) : nI a + 2 = nI (a + 2) := tw_niadd (b := 2)
theorem tw_s3 (a : Nat) : nI a + 3 = nI (a + 3) := tw_niadd (b := 3)
theorem tw_s4 (a : Nat) : nI a + 4 = nI (a + 4) := tw_niadd (b := 4)
theorem tw_s5 (j : Nat) : nI (5 * j) + 5 = nI (5 * (j + 1)) := by rw [Nat.mul_add]; exact tw_niadd (b := 5)
theorem tw_l5 {L j : Nat} (hL : L ≤ 2560) (hj : j ≤ 512) : nI L - 5 < nI (5 * j) ↔ L < 5 * j + 5 := by
  rw [Int32.lt_iff_toInt_lt, Int32.toInt_sub, nI_toInt (by omega), nI_toInt (by omega), show (5 : Int32).toInt = 5 by decide]
  have b : ((L : Int) - 5).bmod (2 ^ 32) = (L : Int) - 5 := by apply Int.bmod_eq_of_le_mul_two <;> omega
  rw [b]
  omega
theorem tw_cmpe {a b : Int64} (e : a = b) : lg_cmp a b = 0 := by subst e; simp [lg_cmp]
set_option maxHeartbeats 4000000 in
set_option maxRecDepth 100000 in
theorem c_X6_init (d : tw_D) (h : tw_H) (x : Nat) : tw_Ct d mX6_init 0 0 [.ref x] h (tw_qv (fun h1 => h1 = h) tw_nx) := by
  refine tw_of (by decide +kernel) (Nat.le_of_ble_eq_true rfl) ?_
  show tw_W d mX6_init _ 0 [(0, .ref x)] [] h 0 0
  refine tw_aload_n 0 dX6_init_0 rfl rfl ?_
  refine tw_objInit dX6_init_1 w_379 w_117 w_118 ⟨by decide, Nat.le_of_ble_eq_true rfl⟩ ?_
  exact tw_vret dX6_init_4 rfl (Or.inl ⟨rfl, rfl⟩)

set_option maxHeartbeats 4000000 in
set_option maxRecDepth 100000 in
theorem law_case_0 (d : tw_D) (x m o j c n : Nat) (Q : tw_O → tw_H → Prop) (hL : d.2 97 ≤ 2560) (hj : 5 * j + 5 ≤ d.2 97) (J : tw_J d x m o j Q c n) (g : tw_G) (τ : tw_K) (h : tw_H) (ok : tw_ok5 d x m o g τ h) : tw_W d mL_law_ Q 164 (tw_lv5 d x m o j) [] h (c + 900) (n + 5000) := by
  show tw_W d mL_law_ Q 164 [(0, .ref (d.2 98)), (1, .ref x), (2, .ref m), (3, .ref o), (4, .int (nI (5 * j)))] [] h (c + 900) (n + 5000)
  have sp1 := tw_sp.rf ok.1
  refine tw_aload_n 1 dL_law__164 rfl rfl ?_
  refine tw_aload_n 0 dL_law__165 rfl rfl ?_
  refine tw_iload 4 dL_law__166 rfl ?_
  refine tw_iconst (v := 1) dL_law__168 (by decide) ?_
  refine tw_iadd dL_law__169 ?_
  refine tw_nmi (fun v2 ev2 => ?_)
  have q3 : v2 = nI (5 * j + 1) := by rw [ev2]; exact tw_s1 _
  rw [q3]
  obtain ⟨y4, ey4⟩ : ∃ y : Int32, Int32.ofNat (d.2 (1000 + (nI (5 * j + 1)).toNatClampNeg)) = y := ⟨_, rfl⟩
  refine tw_ti (v := .int y4) (fun _ _ z => z.xs.2.2.2.2.2) dL_law__170 (vp_in_nI (by omega) (by omega)) (congrArg Value.int ey4) ?_
  refine tw_aload_n 0 dL_law__171 rfl rfl ?_
  refine tw_iload 4 dL_law__172 rfl ?_
  refine tw_iconst (v := 2) dL_law__174 (by decide) ?_
  refine tw_iadd dL_law__175 ?_
  refine tw_nmi (fun v5 ev5 => ?_)
  have q6 : v5 = nI (5 * j + 2) := by rw [ev5]; exact tw_s2 _
  rw [q6]
  obtain ⟨y7, ey7⟩ : ∃ y : Int32, Int32.ofNat (d.2 (1000 + (nI (5 * j + 2)).toNatClampNeg)) = y := ⟨_, rfl⟩
  refine tw_ti (v := .int y7) (fun _ _ z => z.xs.2.2.2.2.2) dL_law__176 (vp_in_nI (by omega) (by omega)) (congrArg Value.int ey7) ?_
  refine tw_aload_n 0 dL_law__177 rfl rfl ?_
  refine tw_iload 4 dL_law__178 rfl ?_
  refine tw_iconst (v := 3) dL_law__180 (by decide) ?_
  refine tw_iadd dL_law__181 ?_
  refine tw_nmi (fun v8 ev8 => ?_)
  have q9 : v8 = nI (5 * j + 3) := by rw [ev8]; exact tw_s3 _
  rw [q9]
  obtain ⟨y10, ey10⟩ : ∃ y : Int32, Int32.ofNat (d.2 (1000 + (nI (5 * j + 3)).toNatClampNeg)) = y := ⟨_, rfl⟩
  refine tw_ti (v := .int y10) (fun _ _ z => z.xs.2.2.2.2.2) dL_law__182 (vp_in_nI (by omega) (by omega)) (congrArg Value.int ey10) ?_
  refine tw_aload_n 0 dL_law__183 rfl rfl ?_
  refine tw_iload 4 dL_law__184 rfl ?_
  refine tw_iconst (v := 4) dL_law__186 (by decide) ?_
  refine tw_iadd dL_law__187 ?_
  refine tw_nmi (fun v11 ev11 => ?_)
  have q12 : v11 = nI (5 * j + 4) := by rw [ev11]; exact tw_s4 _
  rw [q12]
  obtain ⟨y13, ey13⟩ : ∃ y : Int32, Int32.ofNat (d.2 (1000 + (nI (5 * j + 4)).toNatClampNeg)) = y := ⟨_, rfl⟩
  refine tw_ti (v := .int y13) (fun _ _ z => z.xs.2.2.2.2.2) dL_law__188 (vp_in_nI (by omega) (by omega)) (congrArg Value.int ey13) ?_
  refine tw_aload_n 3 dL_law__189 rfl rfl ?_
  refine tw_bi (tw_callSH (M := mL_law_) (pc := 190) okL_country dL_law__190 w_387 [.ref x, .int y4, .int y7, .int y10, .int y13, .ref o] [] rfl rfl ⟨by decide, by decide⟩ (Nat.le_of_ble_eq_true rfl) (c_L_country d g τ h sp1.1 x ok.2.2.1 y4 y7 y10 y13 o ok.2.2.2.2 ok.2.1.2.2.2.1 ok.2.1.2.2.2.2.2.2.2.1) ((c + 900) - 20) ((n + 5000) - 120) (by omega) (by omega)) (fun r16 h15 q14 => ?_) (fun E h1 q => q.elim)
  rcases q14 with ⟨q14e, q14cR, q14cL, q14n, y9, d9, f9, t9, m9, τc, q14s⟩ | ⟨q14e, q14cR, τc, q14s⟩ | ⟨q14e, q14cR, q14cL, τc, q14s⟩
  · rw [q14e]
    have h49 := (tw_b678 ok.1 ok.2.2.1).1
    obtain ⟨gL, egL⟩ : ∃ z : tw_G, z = (tw_gI (tw_gC g (160 + 64 * g.2 0) y9 d9 f9 t9 m9 y4 y7) 6 0) := ⟨_, rfl⟩
    rw [← egL] at q14s
    have gl3 : gL.2 3 = g.2 3 := by rw [egL]; exact tw_gCI_2 (by decide) (by decide) (by decide) (by decide)
    have gl4 : gL.2 4 = g.2 4 := by rw [egL]; exact tw_gCI_2 (by decide) (by decide) (by decide) (by decide)
    have gl5 : gL.2 5 = g.2 5 := by rw [egL]; exact tw_gCI_2 (by decide) (by decide) (by decide) (by decide)
    have gl9 : gL.2 9 = g.2 9 := by rw [egL]; exact tw_gCI_2 (by decide) (by decide) (by decide) (by decide)
    have gl22 : gL.2 22 = g.2 22 := by rw [egL]; exact tw_gCI_2 (by decide) (by decide) (by decide) (by decide)
    have kx1 := q14s.2.1.k ok.2.2.1 (by decide)
    have km1 := q14s.2.1.k ok.2.2.2.1 (by decide)
    have ko1 := q14s.2.1.k ok.2.2.2.2 (by decide)
    refine tw_istore [(5, .int 0), (0, .ref (d.2 98)), (1, .ref x), (2, .ref m), (3, .ref o), (4, .int (nI (5 * j)))] dL_law__193 (by decide) rfl ?_
    refine tw_aload_n 3 dL_law__195 rfl rfl ?_
    refine tw_aload_n 1 dL_law__196 rfl rfl ?_
    refine tw_iload 5 dL_law__197 rfl ?_
    refine tw_iconst (v := 1) dL_law__199 (by decide) ?_
    refine tw_iadd dL_law__200 ?_
    refine tw_nmi (fun v17 ev17 => ?_)
    have q18 : v17 = nI (5 * j + 1) := by rw [ev17]; exact tw_s1 _
    rw [q18]
    refine tw_ti (v := .int y4) (fun _ _ z => z.xs.2.2.2.2.2) dL_law__201 (vp_in_nI (by omega) (by omega)) (congrArg Value.int ey4) ?_
    refine tw_aload_n 1 dL_law__202 rfl rfl ?_
    refine tw_iload 5 dL_law__203 rfl ?_
    refine tw_iconst (v := 2) dL_law__205 (by decide) ?_
    refine tw_iadd dL_law__206 ?_
    refine tw_nmi (fun v19 ev19 => ?_)
    have q20 : v19 = nI (5 * j + 2) := by rw [ev19]; exact tw_s2 _
    rw [q20]
    refine tw_ti (v := .int y7) (fun _ _ z => z.xs.2.2.2.2.2) dL_law__207 (vp_in_nI (by omega) (by omega)) (congrArg Value.int ey7) ?_
    refine tw_aload_n 1 dL_law__208 rfl rfl ?_
    refine tw_iload 5 dL_law__209 rfl ?_
    refine tw_iconst (v := 3) dL_law__211 (by decide) ?_
    refine tw_iadd dL_law__212 ?_
    refine tw_nmi (fun v21 ev21 => ?_)
    have q22 : v21 = nI (5 * j + 3) := by rw [ev21]; exact tw_s3 _
    rw [q22]
    refine tw_ti (v := .int y10) (fun _ _ z => z.xs.2.2.2.2.2) dL_law__213 (vp_in_nI (by omega) (by omega)) (congrArg Value.int ey10) ?_
    refine tw_aload_n 1 dL_law__214 rfl rfl ?_
    refine tw_iload 5 dL_law__215 rfl ?_
    refine tw_iconst (v := 4) dL_law__217 (by decide) ?_
    refine tw_iadd dL_law__218 ?_
    refine tw_nmi (fun v23 ev23 => ?_)
    have q24 : v23 = nI (5 * j + 4) := by rw [ev23]; exact tw_s4 _
    rw [q24]
    refine tw_ti (v := .int y13) (fun _ _ z => z.xs.2.2.2.2.2) dL_law__219 (vp_in_nI (by omega) (by omega)) (congrArg Value.int ey13) ?_
    obtain ⟨e25, f26, th_27, td_28, ds_29, fr_30, ca_31, us_32, wo_33, cm_34, lc_35, lh_36, ld_37, rfl, k38, k39, k40, k41, k42, k43, k44, k45, k46, k47, k48, k49, k50, k51, k52, k53, k54, k55⟩ := (tw_sp.rf q14s.1).1 m 36 km1 (by decide)
    refine tw_bi (tw_callV (M := mL_law_) (pc := 220) okX10_country dL_law__220 w_1192 rfl f26 [.int y4, .int y7, .int y10, .int y13] [] rfl rfl ⟨by decide, by decide⟩ (Nat.le_of_ble_eq_true rfl) (c2_X10_country d gL τc h15 (tw_sp.rf q14s.1).1 m km1 y4 y7 y10 y13 o ko1 (by rw [gl9, gl3]; exact ok.2.1.2.2.2.2.2.2.2.2.1)) (((c + 900) - 20) - 10) (((n + 5000) - 120) - 60) (by omega) (by omega)) (fun r58 h57 q56 => ?_) (fun E h1 q => q.elim)
    obtain ⟨g9, τ9, s9, oq9, q56a⟩ := q56
    have kx2 := s9.2.1.k kx1 (by decide)
    have km2 := s9.2.1.k km1 (by decide)
    have ko2 := s9.2.1.k ko1 (by decide)
    have q14cL3 : gL.2 3 < 4 := by rw [gl3, ← ok.2.1.1]; exact q14cL
    rcases q56a with ⟨z, -⟩ | ⟨-, z, -⟩ | ⟨-, -, hr2, ht, gk9⟩
    · exact absurd q14cR z
    · exact absurd q14cL3 z
    · rw [hr2]
      have ok9 : tw_ok5 d x m o g9 τ9 h57 := ⟨s9.1, ok.2.1.country ⟨q14cR.1, q14cR.2.1⟩ q14cL gk9 egL, kx2, km2, ko2⟩
      have hlg : tw_lg (h57 o) = (nI (g.2 0)).toInt64 := by rw [oq9]; exact q14n
      have sp59 := tw_sp.rf ok9.1
      refine tw_istore [(6, .int (nI (gL.2 3))), (5, .int 0), (0, .ref (d.2 98)), (1, .ref x), (2, .ref m), (3, .ref o), (4, .int (nI (5 * j)))] dL_law__223 (by decide) rfl ?_
      refine tw_goto 1391 dL_law__225 (by decide) ?_
      refine tw_lv [2, 3, 4, 5, 6] rfl ?_
      refine tw_less (c2 := c) (n2 := n) (by omega) (by omega) ?_
      exact J _ _ _ ok9
  · rw [q14e]
    have h49 := (tw_b678 ok.1 ok.2.2.1).1
    have kx1 := q14s.2.1.k ok.2.2.1 (by decide)
    have km1 := q14s.2.1.k ok.2.2.2.1 (by decide)
    have ko1 := q14s.2.1.k ok.2.2.2.2 (by decide)
    refine tw_istore [(5, .int 1), (0, .ref (d.2 98)), (1, .ref x), (2, .ref m), (3, .ref o), (4, .int (nI (5 * j)))] dL_law__193 (by decide) rfl ?_
    refine tw_aload_n 3 dL_law__195 rfl rfl ?_
    refine tw_aload_n 1 dL_law__196 rfl rfl ?_
    refine tw_iload 5 dL_law__197 rfl ?_
    refine tw_iconst (v := 1) dL_law__199 (by decide) ?_
    refine tw_iadd dL_law__200 ?_
    refine tw_nmi (fun v60 ev60 => ?_)
    have q61 : v60 = nI (5 * j + 1) := by rw [ev60]; exact tw_s1 _
    rw [q61]
    refine tw_ti (v := .int y4) (fun _ _ z => z.xs.2.2.2.2.2) dL_law__201 (vp_in_nI (by omega) (by omega)) (congrArg Value.int ey4) ?_
    refine tw_aload_n 1 dL_law__202 rfl rfl ?_
    refine tw_iload 5 dL_law__203 rfl ?_
    refine tw_iconst (v := 2) dL_law__205 (by decide) ?_
    refine tw_iadd dL_law__206 ?_
    refine tw_nmi (fun v62 ev62 => ?_)
    have q63 : v62 = nI (5 * j + 2) := by rw [ev62]; exact tw_s2 _
    rw [q63]
    refine tw_ti (v := .int y7) (fun _ _ z => z.xs.2.2.2.2.2) dL_law__207 (vp_in_nI (by omega) (by omega)) (congrArg Value.int ey7) ?_
    refine tw_aload_n 1 dL_law__208 rfl rfl ?_
    refine tw_iload 5 dL_law__209 rfl ?_
    refine tw_iconst (v := 3) dL_law__211 (by decide) ?_
    refine tw_iadd dL_law__212 ?_
    refine tw_nmi (fun v64 ev64 => ?_)
    have q65 : v64 = nI (5 * j + 3) := by rw [ev64]; exact tw_s3 _
    rw [q65]
    refine tw_ti (v := .int y10) (fun _ _ z => z.xs.2.2.2.2.2) dL_law__213 (vp_in_nI (by omega) (by omega)) (congrArg Value.int ey10) ?_
    refine tw_aload_n 1 dL_law__214 rfl rfl ?_
    refine tw_iload 5 dL_law__215 rfl ?_
    refine tw_iconst (v := 4) dL_law__217 (by decide) ?_
    refine tw_iadd dL_law__218 ?_
    refine tw_nmi (fun v66 ev66 => ?_)
    have q67 : v66 = nI (5 * j + 4) := by rw [ev66]; exact tw_s4 _
    rw [q67]
    refine tw_ti (v := .int y13) (fun _ _ z => z.xs.2.2.2.2.2) dL_law__219 (vp_in_nI (by omega) (by omega)) (congrArg Value.int ey13) ?_
    obtain ⟨e68, f69, th_70, td_71, ds_72, fr_73, ca_74, us_75, wo_76, cm_77, lc_78, lh_79, ld_80, rfl, k81, k82, k83, k84, k85, k86, k87, k88, k89, k90, k91, k92, k93, k94, k95, k96, k97, k98⟩ := (tw_sp.rf q14s.1).1 m 36 km1 (by decide)
    refine tw_bi (tw_callV (M := mL_law_) (pc := 220) okX10_country dL_law__220 w_1192 rfl f69 [.int y4, .int y7, .int y10, .int y13] [] rfl rfl ⟨by decide, by decide⟩ (Nat.le_of_ble_eq_true rfl) (c2_X10_country d g τc h15 (tw_sp.rf q14s.1).1 m km1 y4 y7 y10 y13 o ko1 (by exact ok.2.1.2.2.2.2.2.2.2.2.1)) (((c + 900) - 20) - 10) (((n + 5000) - 120) - 60) (by omega) (by omega)) (fun r101 h100 q99 => ?_) (fun E h1 q => q.elim)
    obtain ⟨g9, τ9, s9, oq9, q99a⟩ := q99
    have kx2 := s9.2.1.k kx1 (by decide)
    have km2 := s9.2.1.k km1 (by decide)
    have ko2 := s9.2.1.k ko1 (by decide)
    rcases q99a with ⟨-, ht, eg9⟩ | ⟨z, -⟩ | ⟨z, -⟩
    · rw [eg9] at s9
      have ok9 : tw_ok5 d x m o g τ9 h100 := ⟨s9.1, ok.2.1, kx2, km2, ko2⟩
      have sp102 := tw_sp.rf ok9.1
      refine tw_istore [(6, .int r101), (5, .int 1), (0, .ref (d.2 98)), (1, .ref x), (2, .ref m), (3, .ref o), (4, .int (nI (5 * j)))] dL_law__223 (by decide) rfl ?_
      refine tw_goto 1391 dL_law__225 (by decide) ?_
      refine tw_lv [2, 3, 4, 5, 6] rfl ?_
      refine tw_less (c2 := c) (n2 := n) (by omega) (by omega) ?_
      exact J _ _ _ ok9
    · exact absurd z q14cR
    · exact absurd z q14cR
  · rw [q14e]
    have h49 := (tw_b678 ok.1 ok.2.2.1).1
    have kx1 := q14s.2.1.k ok.2.2.1 (by decide)
    have km1 := q14s.2.1.k ok.2.2.2.1 (by decide)
    have ko1 := q14s.2.1.k ok.2.2.2.2 (by decide)
    refine tw_istore [(5, .int 2), (0, .ref (d.2 98)), (1, .ref x), (2, .ref m), (3, .ref o), (4, .int (nI (5 * j)))] dL_law__193 (by decide) rfl ?_
    refine tw_aload_n 3 dL_law__195 rfl rfl ?_
    refine tw_aload_n 1 dL_law__196 rfl rfl ?_
    refine tw_iload 5 dL_law__197 rfl ?_
    refine tw_iconst (v := 1) dL_law__199 (by decide) ?_
    refine tw_iadd dL_law__200 ?_
    refine tw_nmi (fun v103 ev103 => ?_)
    have q104 : v103 = nI (5 * j + 1) := by rw [ev103]; exact tw_s1 _
    rw [q104]
    refine tw_ti (v := .int y4) (fun _ _ z => z.xs.2.2.2.2.2) dL_law__201 (vp_in_nI (by omega) (by omega)) (congrArg Value.int ey4) ?_
    refine tw_aload_n 1 dL_law__202 rfl rfl ?_
    refine tw_iload 5 dL_law__203 rfl ?_
    refine tw_iconst (v := 2) dL_law__205 (by decide) ?_
    refine tw_iadd dL_law__206 ?_
    refine tw_nmi (fun v105 ev105 => ?_)
    have q106 : v105 = nI (5 * j + 2) := by rw [ev105]; exact tw_s2 _
    rw [q106]
    refine tw_ti (v := .int y7) (fun _ _ z => z.xs.2.2.2.2.2) dL_law__207 (vp_in_nI (by omega) (by omega)) (congrArg Value.int ey7) ?_
    refine tw_aload_n 1 dL_law__208 rfl rfl ?_
    refine tw_iload 5 dL_law__209 rfl ?_
    refine tw_iconst (v := 3) dL_law__211 (by decide) ?_
    refine tw_iadd dL_law__212 ?_
    refine tw_nmi (fun v107 ev107 => ?_)
    have q108 : v107 = nI (5 * j + 3) := by rw [ev107]; exact tw_s3 _
    rw [q108]
    refine tw_ti (v := .int y10) (fun _ _ z => z.xs.2.2.2.2.2) dL_law__213 (vp_in_nI (by omega) (by omega)) (congrArg Value.int ey10) ?_
    refine tw_aload_n 1 dL_law__214 rfl rfl ?_
    refine tw_iload 5 dL_law__215 rfl ?_
    refine tw_iconst (v := 4) dL_law__217 (by decide) ?_
    refine tw_iadd dL_law__218 ?_
    refine tw_nmi (fun v109 ev109 => ?_)
    have q110 : v109 = nI (5 * j + 4) := by rw [ev109]; exact tw_s4 _
    rw [q110]
    refine tw_ti (v := .int y13) (fun _ _ z => z.xs.2.2.2.2.2) dL_law__219 (vp_in_nI (by omega) (by omega)) (congrArg Value.int ey13) ?_
    obtain ⟨e111, f112, th_113, td_114, ds_115, fr_116, ca_117, us_118, wo_119, cm_120, lc_121, lh_122, ld_123, rfl, k124, k125, k126, k127, k128, k129, k130, k131, k132, k133, k134, k135, k136, k137, k138, k139, k140, k141⟩ := (tw_sp.rf q14s.1).1 m 36 km1 (by decide)
    refine tw_bi (tw_callV (M := mL_law_) (pc := 220) okX10_country dL_law__220 w_1192 rfl f112 [.int y4, .int y7, .int y10, .int y13] [] rfl rfl ⟨by decide, by decide⟩ (Nat.le_of_ble_eq_true rfl) (c2_X10_country d g τc h15 (tw_sp.rf q14s.1).1 m km1 y4 y7 y10 y13 o ko1 (by exact ok.2.1.2.2.2.2.2.2.2.2.1)) (((c + 900) - 20) - 10) (((n + 5000) - 120) - 60) (by omega) (by omega)) (fun r144 h143 q142 => ?_) (fun E h1 q => q.elim)
    obtain ⟨g9, τ9, s9, oq9, q142a⟩ := q142
    have kx2 := s9.2.1.k kx1 (by decide)
    have km2 := s9.2.1.k km1 (by decide)
    have ko2 := s9.2.1.k ko1 (by decide)
    have q14cL3 : ¬ g.2 3 < 4 := by rw [← ok.2.1.1]; exact q14cL
    rcases q142a with ⟨z, -⟩ | ⟨-, -, ht, eg9⟩ | ⟨-, z, -⟩
    · exact absurd q14cR z
    · rw [eg9] at s9
      have ok9 : tw_ok5 d x m o g τ9 h143 := ⟨s9.1, ok.2.1, kx2, km2, ko2⟩
      have sp145 := tw_sp.rf ok9.1
      refine tw_istore [(6, .int r144), (5, .int 2), (0, .ref (d.2 98)), (1, .ref x), (2, .ref m), (3, .ref o), (4, .int (nI (5 * j)))] dL_law__223 (by decide) rfl ?_
      refine tw_goto 1391 dL_law__225 (by decide) ?_
      refine tw_lv [2, 3, 4, 5, 6] rfl ?_
      refine tw_less (c2 := c) (n2 := n) (by omega) (by omega) ?_
      exact J _ _ _ ok9
    · exact absurd z q14cL3

set_option maxHeartbeats 4000000 in
set_option maxRecDepth 100000 in
theorem law_case_1 (d : tw_D) (x m o j c n : Nat) (Q : tw_O → tw_H → Prop) (hL : d.2 97 ≤ 2560) (hj : 5 * j + 5 ≤ d.2 97) (J : tw_J d x m o j Q c n) (g : tw_G) (τ : tw_K) (h : tw_H) (ok : tw_ok5 d x m o g τ h) : tw_W d mL_law_ Q 228 (tw_lv5 d x m o j) [] h (c + 900) (n + 5000) := by
  show tw_W d mL_law_ Q 228 [(0, .ref (d.2 98)), (1, .ref x), (2, .ref m), (3, .ref o), (4, .int (nI (5 * j)))] [] h (c + 900) (n + 5000)
  have sp1 := tw_sp.rf ok.1
  refine tw_aload_n 1 dL_law__228 rfl rfl ?_
  refine tw_aload_n 0 dL_law__229 rfl rfl ?_
  refine tw_iload 4 dL_law__230 rfl ?_
  refine tw_iconst (v := 1) dL_law__232 (by decide) ?_
  refine tw_iadd dL_law__233 ?_
  refine tw_nmi (fun v2 ev2 => ?_)
  have q3 : v2 = nI (5 * j + 1) := by rw [ev2]; exact tw_s1 _
  rw [q3]
  obtain ⟨y4, ey4⟩ : ∃ y : Int32, Int32.ofNat (d.2 (1000 + (nI (5 * j + 1)).toNatClampNeg)) = y := ⟨_, rfl⟩
  refine tw_ti (v := .int y4) (fun _ _ z => z.xs.2.2.2.2.2) dL_law__234 (vp_in_nI (by omega) (by omega)) (congrArg Value.int ey4) ?_
  refine tw_aload_n 0 dL_law__235 rfl rfl ?_
  refine tw_iload 4 dL_law__236 rfl ?_
  refine tw_iconst (v := 2) dL_law__238 (by decide) ?_
  refine tw_iadd dL_law__239 ?_
  refine tw_nmi (fun v5 ev5 => ?_)
  have q6 : v5 = nI (5 * j + 2) := by rw [ev5]; exact tw_s2 _
  rw [q6]
  obtain ⟨y7, ey7⟩ : ∃ y : Int32, Int32.ofNat (d.2 (1000 + (nI (5 * j + 2)).toNatClampNeg)) = y := ⟨_, rfl⟩
  refine tw_ti (v := .int y7) (fun _ _ z => z.xs.2.2.2.2.2) dL_law__240 (vp_in_nI (by omega) (by omega)) (congrArg Value.int ey7) ?_
  refine tw_aload_n 0 dL_law__241 rfl rfl ?_
  refine tw_iload 4 dL_law__242 rfl ?_
  refine tw_iconst (v := 3) dL_law__244 (by decide) ?_
  refine tw_iadd dL_law__245 ?_
  refine tw_nmi (fun v8 ev8 => ?_)
  have q9 : v8 = nI (5 * j + 3) := by rw [ev8]; exact tw_s3 _
  rw [q9]
  obtain ⟨y10, ey10⟩ : ∃ y : Int32, Int32.ofNat (d.2 (1000 + (nI (5 * j + 3)).toNatClampNeg)) = y := ⟨_, rfl⟩
  refine tw_ti (v := .int y10) (fun _ _ z => z.xs.2.2.2.2.2) dL_law__246 (vp_in_nI (by omega) (by omega)) (congrArg Value.int ey10) ?_
  refine tw_aload_n 3 dL_law__247 rfl rfl ?_
  refine tw_bi (tw_callSH (M := mL_law_) (pc := 248) okL_law dL_law__248 w_538 [.ref x, .int y4, .int y7, .int y10, .ref o] [] rfl rfl ⟨by decide, by decide⟩ (Nat.le_of_ble_eq_true rfl) (c_L_law d g τ h sp1.1 x ok.2.2.1 y4 y7 y10 o ok.2.2.2.2) ((c + 900) - 20) ((n + 5000) - 120) (by omega) (by omega)) (fun r13 h12 q11 => ?_) (fun E h1 q => q.elim)
  rcases q11 with ⟨q11e, q11cI, q11cR, q11n, τc, q11s⟩ | ⟨q11e, q11cI, τc, q11s⟩ | ⟨q11e, q11cI, q11cR, τc, q11s⟩
  · rw [q11e]
    have h49 := (tw_b678 ok.1 ok.2.2.1).1
    obtain ⟨gL, egL⟩ : ∃ z : tw_G, z = (tw_g1 (tw_g1 g (160 + 64 * tw_DN y4) y7) (160 + 64 * tw_DN y4 + 1) y10) := ⟨_, rfl⟩
    rw [← egL] at q11s
    have gl3 : gL.2 3 = g.2 3 := by rw [egL]; rfl
    have gl4 : gL.2 4 = g.2 4 := by rw [egL]; rfl
    have gl5 : gL.2 5 = g.2 5 := by rw [egL]; rfl
    have gl9 : gL.2 9 = g.2 9 := by rw [egL]; rfl
    have gl22 : gL.2 22 = g.2 22 := by rw [egL]; rfl
    have kx1 := q11s.2.1.k ok.2.2.1 (by decide)
    have km1 := q11s.2.1.k ok.2.2.2.1 (by decide)
    have ko1 := q11s.2.1.k ok.2.2.2.2 (by decide)
    refine tw_istore [(5, .int 0), (0, .ref (d.2 98)), (1, .ref x), (2, .ref m), (3, .ref o), (4, .int (nI (5 * j)))] dL_law__251 (by decide) rfl ?_
    refine tw_aload_n 3 dL_law__253 rfl rfl ?_
    refine tw_aload_n 1 dL_law__254 rfl rfl ?_
    refine tw_iload 5 dL_law__255 rfl ?_
    refine tw_iconst (v := 1) dL_law__257 (by decide) ?_
    refine tw_iadd dL_law__258 ?_
    refine tw_nmi (fun v14 ev14 => ?_)
    have q15 : v14 = nI (5 * j + 1) := by rw [ev14]; exact tw_s1 _
    rw [q15]
    refine tw_ti (v := .int y4) (fun _ _ z => z.xs.2.2.2.2.2) dL_law__259 (vp_in_nI (by omega) (by omega)) (congrArg Value.int ey4) ?_
    refine tw_aload_n 1 dL_law__260 rfl rfl ?_
    refine tw_iload 5 dL_law__261 rfl ?_
    refine tw_iconst (v := 2) dL_law__263 (by decide) ?_
    refine tw_iadd dL_law__264 ?_
    refine tw_nmi (fun v16 ev16 => ?_)
    have q17 : v16 = nI (5 * j + 2) := by rw [ev16]; exact tw_s2 _
    rw [q17]
    refine tw_ti (v := .int y7) (fun _ _ z => z.xs.2.2.2.2.2) dL_law__265 (vp_in_nI (by omega) (by omega)) (congrArg Value.int ey7) ?_
    refine tw_aload_n 1 dL_law__266 rfl rfl ?_
    refine tw_iload 5 dL_law__267 rfl ?_
    refine tw_iconst (v := 3) dL_law__269 (by decide) ?_
    refine tw_iadd dL_law__270 ?_
    refine tw_nmi (fun v18 ev18 => ?_)
    have q19 : v18 = nI (5 * j + 3) := by rw [ev18]; exact tw_s3 _
    rw [q19]
    refine tw_ti (v := .int y10) (fun _ _ z => z.xs.2.2.2.2.2) dL_law__271 (vp_in_nI (by omega) (by omega)) (congrArg Value.int ey10) ?_
    obtain ⟨e20, f21, th_22, td_23, ds_24, fr_25, ca_26, us_27, wo_28, cm_29, lc_30, lh_31, ld_32, rfl, k33, k34, k35, k36, k37, k38, k39, k40, k41, k42, k43, k44, k45, k46, k47, k48, k49, k50⟩ := (tw_sp.rf q11s.1).1 m 36 km1 (by decide)
    refine tw_bi (tw_callV (M := mL_law_) (pc := 272) okX10_law dL_law__272 w_1288 rfl f21 [.int y4, .int y7, .int y10] [] rfl rfl ⟨by decide, by decide⟩ (Nat.le_of_ble_eq_true rfl) (c2_X10_law d gL τc h12 (tw_sp.rf q11s.1).1 m km1 y4 y7 y10 o ko1) ((c + 900) - 20) ((n + 5000) - 120) (by omega) (by omega)) (fun r53 h52 q51 => ?_) (fun E h1 q => q.elim)
    obtain ⟨g9, τ9, s9, oq9, q51a⟩ := q51
    have kx2 := s9.2.1.k kx1 (by decide)
    have km2 := s9.2.1.k km1 (by decide)
    have ko2 := s9.2.1.k ko1 (by decide)
    have q11cI3 : tw_ix (gL.2 3) y4 := by rw [gl3, ← ok.2.1.2.2.2.1.trans ok.2.1.1]; exact q11cI
    rcases q51a with ⟨z, -⟩ | ⟨-, z, -⟩ | ⟨-, -, hr2, ht, gk9⟩
    · exact absurd q11cI3 z
    · exact absurd q11cR z
    · rw [hr2]
      have ok9 : tw_ok5 d x m o g9 τ9 h52 := ⟨s9.1, (by rw [gk9, egL]; exact ok.2.1.law q11cI q11cR h49), kx2, km2, ko2⟩
      have hlg : tw_lg (h52 o) = (g.1 (160 + 64 * tw_DN y4)).toInt64 := by rw [oq9]; exact q11n
      have sp54 := tw_sp.rf ok9.1
      refine tw_istore [(6, .int (gL.1 (480 + 64 * tw_DN y4))), (5, .int 0), (0, .ref (d.2 98)), (1, .ref x), (2, .ref m), (3, .ref o), (4, .int (nI (5 * j)))] dL_law__275 (by decide) rfl ?_
      refine tw_goto 1391 dL_law__277 (by decide) ?_
      refine tw_lv [2, 3, 4, 5, 6] rfl ?_
      refine tw_less (c2 := c) (n2 := n) (by omega) (by omega) ?_
      exact J _ _ _ ok9
  · rw [q11e]
    have h49 := (tw_b678 ok.1 ok.2.2.1).1
    have kx1 := q11s.2.1.k ok.2.2.1 (by decide)
    have km1 := q11s.2.1.k ok.2.2.2.1 (by decide)
    have ko1 := q11s.2.1.k ok.2.2.2.2 (by decide)
    refine tw_istore [(5, .int 1), (0, .ref (d.2 98)), (1, .ref x), (2, .ref m), (3, .ref o), (4, .int (nI (5 * j)))] dL_law__251 (by decide) rfl ?_
    refine tw_aload_n 3 dL_law__253 rfl rfl ?_
    refine tw_aload_n 1 dL_law__254 rfl rfl ?_
    refine tw_iload 5 dL_law__255 rfl ?_
    refine tw_iconst (v := 1) dL_law__257 (by decide) ?_
    refine tw_iadd dL_law__258 ?_
    refine tw_nmi (fun v55 ev55 => ?_)
    have q56 : v55 = nI (5 * j + 1) := by rw [ev55]; exact tw_s1 _
    rw [q56]
    refine tw_ti (v := .int y4) (fun _ _ z => z.xs.2.2.2.2.2) dL_law__259 (vp_in_nI (by omega) (by omega)) (congrArg Value.int ey4) ?_
    refine tw_aload_n 1 dL_law__260 rfl rfl ?_
    refine tw_iload 5 dL_law__261 rfl ?_
    refine tw_iconst (v := 2) dL_law__263 (by decide) ?_
    refine tw_iadd dL_law__264 ?_
    refine tw_nmi (fun v57 ev57 => ?_)
    have q58 : v57 = nI (5 * j + 2) := by rw [ev57]; exact tw_s2 _
    rw [q58]
    refine tw_ti (v := .int y7) (fun _ _ z => z.xs.2.2.2.2.2) dL_law__265 (vp_in_nI (by omega) (by omega)) (congrArg Value.int ey7) ?_
    refine tw_aload_n 1 dL_law__266 rfl rfl ?_
    refine tw_iload 5 dL_law__267 rfl ?_
    refine tw_iconst (v := 3) dL_law__269 (by decide) ?_
    refine tw_iadd dL_law__270 ?_
    refine tw_nmi (fun v59 ev59 => ?_)
    have q60 : v59 = nI (5 * j + 3) := by rw [ev59]; exact tw_s3 _
    rw [q60]
    refine tw_ti (v := .int y10) (fun _ _ z => z.xs.2.2.2.2.2) dL_law__271 (vp_in_nI (by omega) (by omega)) (congrArg Value.int ey10) ?_
    obtain ⟨e61, f62, th_63, td_64, ds_65, fr_66, ca_67, us_68, wo_69, cm_70, lc_71, lh_72, ld_73, rfl, k74, k75, k76, k77, k78, k79, k80, k81, k82, k83, k84, k85, k86, k87, k88, k89, k90, k91⟩ := (tw_sp.rf q11s.1).1 m 36 km1 (by decide)
    refine tw_bi (tw_callV (M := mL_law_) (pc := 272) okX10_law dL_law__272 w_1288 rfl f62 [.int y4, .int y7, .int y10] [] rfl rfl ⟨by decide, by decide⟩ (Nat.le_of_ble_eq_true rfl) (c2_X10_law d g τc h12 (tw_sp.rf q11s.1).1 m km1 y4 y7 y10 o ko1) ((c + 900) - 20) ((n + 5000) - 120) (by omega) (by omega)) (fun r94 h93 q92 => ?_) (fun E h1 q => q.elim)
    obtain ⟨g9, τ9, s9, oq9, q92a⟩ := q92
    have kx2 := s9.2.1.k kx1 (by decide)
    have km2 := s9.2.1.k km1 (by decide)
    have ko2 := s9.2.1.k ko1 (by decide)
    have q11cI3 : ¬ tw_ix (g.2 3) y4 := by rw [← ok.2.1.2.2.2.1.trans ok.2.1.1]; exact q11cI
    rcases q92a with ⟨-, ht, eg9⟩ | ⟨z, -⟩ | ⟨z, -⟩
    · rw [eg9] at s9
      have ok9 : tw_ok5 d x m o g τ9 h93 := ⟨s9.1, ok.2.1, kx2, km2, ko2⟩
      have sp95 := tw_sp.rf ok9.1
      refine tw_istore [(6, .int r94), (5, .int 1), (0, .ref (d.2 98)), (1, .ref x), (2, .ref m), (3, .ref o), (4, .int (nI (5 * j)))] dL_law__275 (by decide) rfl ?_
      refine tw_goto 1391 dL_law__277 (by decide) ?_
      refine tw_lv [2, 3, 4, 5, 6] rfl ?_
      refine tw_less (c2 := c) (n2 := n) (by omega) (by omega) ?_
      exact J _ _ _ ok9
    · exact absurd z q11cI3
    · exact absurd z q11cI3
  · rw [q11e]
    have h49 := (tw_b678 ok.1 ok.2.2.1).1
    have kx1 := q11s.2.1.k ok.2.2.1 (by decide)
    have km1 := q11s.2.1.k ok.2.2.2.1 (by decide)
    have ko1 := q11s.2.1.k ok.2.2.2.2 (by decide)
    refine tw_istore [(5, .int 2), (0, .ref (d.2 98)), (1, .ref x), (2, .ref m), (3, .ref o), (4, .int (nI (5 * j)))] dL_law__251 (by decide) rfl ?_
    refine tw_aload_n 3 dL_law__253 rfl rfl ?_
    refine tw_aload_n 1 dL_law__254 rfl rfl ?_
    refine tw_iload 5 dL_law__255 rfl ?_
    refine tw_iconst (v := 1) dL_law__257 (by decide) ?_
    refine tw_iadd dL_law__258 ?_
    refine tw_nmi (fun v96 ev96 => ?_)
    have q97 : v96 = nI (5 * j + 1) := by rw [ev96]; exact tw_s1 _
    rw [q97]
    refine tw_ti (v := .int y4) (fun _ _ z => z.xs.2.2.2.2.2) dL_law__259 (vp_in_nI (by omega) (by omega)) (congrArg Value.int ey4) ?_
    refine tw_aload_n 1 dL_law__260 rfl rfl ?_
    refine tw_iload 5 dL_law__261 rfl ?_
    refine tw_iconst (v := 2) dL_law__263 (by decide) ?_
    refine tw_iadd dL_law__264 ?_
    refine tw_nmi (fun v98 ev98 => ?_)
    have q99 : v98 = nI (5 * j + 2) := by rw [ev98]; exact tw_s2 _
    rw [q99]
    refine tw_ti (v := .int y7) (fun _ _ z => z.xs.2.2.2.2.2) dL_law__265 (vp_in_nI (by omega) (by omega)) (congrArg Value.int ey7) ?_
    refine tw_aload_n 1 dL_law__266 rfl rfl ?_
    refine tw_iload 5 dL_law__267 rfl ?_
    refine tw_iconst (v := 3) dL_law__269 (by decide) ?_
    refine tw_iadd dL_law__270 ?_
    refine tw_nmi (fun v100 ev100 => ?_)
    have q101 : v100 = nI (5 * j + 3) := by rw [ev100]; exact tw_s3 _
    rw [q101]
    refine tw_ti (v := .int y10) (fun _ _ z => z.xs.2.2.2.2.2) dL_law__271 (vp_in_nI (by omega) (by omega)) (congrArg Value.int ey10) ?_
    obtain ⟨e102, f103, th_104, td_105, ds_106, fr_107, ca_108, us_109, wo_110, cm_111, lc_112, lh_113, ld_114, rfl, k115, k116, k117, k118, k119, k120, k121, k122, k123, k124, k125, k126, k127, k128, k129, k130, k131, k132⟩ := (tw_sp.rf q11s.1).1 m 36 km1 (by decide)
    refine tw_bi (tw_callV (M := mL_law_) (pc := 272) okX10_law dL_law__272 w_1288 rfl f103 [.int y4, .int y7, .int y10] [] rfl rfl ⟨by decide, by decide⟩ (Nat.le_of_ble_eq_true rfl) (c2_X10_law d g τc h12 (tw_sp.rf q11s.1).1 m km1 y4 y7 y10 o ko1) ((c + 900) - 20) ((n + 5000) - 120) (by omega) (by omega)) (fun r135 h134 q133 => ?_) (fun E h1 q => q.elim)
    obtain ⟨g9, τ9, s9, oq9, q133a⟩ := q133
    have kx2 := s9.2.1.k kx1 (by decide)
    have km2 := s9.2.1.k km1 (by decide)
    have ko2 := s9.2.1.k ko1 (by decide)
    have q11cI3 : tw_ix (g.2 3) y4 := by rw [← ok.2.1.2.2.2.1.trans ok.2.1.1]; exact q11cI
    rcases q133a with ⟨z, -⟩ | ⟨-, -, ht, eg9⟩ | ⟨-, z, -⟩
    · exact absurd q11cI3 z
    · rw [eg9] at s9
      have ok9 : tw_ok5 d x m o g τ9 h134 := ⟨s9.1, ok.2.1, kx2, km2, ko2⟩
      have sp136 := tw_sp.rf ok9.1
      refine tw_istore [(6, .int r135), (5, .int 2), (0, .ref (d.2 98)), (1, .ref x), (2, .ref m), (3, .ref o), (4, .int (nI (5 * j)))] dL_law__275 (by decide) rfl ?_
      refine tw_goto 1391 dL_law__277 (by decide) ?_
      refine tw_lv [2, 3, 4, 5, 6] rfl ?_
      refine tw_less (c2 := c) (n2 := n) (by omega) (by omega) ?_
      exact J _ _ _ ok9
    · exact absurd z q11cR

set_option maxHeartbeats 4000000 in
set_option maxRecDepth 100000 in
theorem law_case_2 (d : tw_D) (x m o j c n : Nat) (Q : tw_O → tw_H → Prop) (hL : d.2 97 ≤ 2560) (hj : 5 * j + 5 ≤ d.2 97) (J : tw_J d x m o j Q c n) (g : tw_G) (τ : tw_K) (h : tw_H) (ok : tw_ok5 d x m o g τ h) : tw_W d mL_law_ Q 280 (tw_lv5 d x m o j) [] h (c + 900) (n + 5000) := by
  show tw_W d mL_law_ Q 280 [(0, .ref (d.2 98)), (1, .ref x), (2, .ref m), (3, .ref o), (4, .int (nI (5 * j)))] [] h (c + 900) (n + 5000)
  have sp1 := tw_sp.rf ok.1
  refine tw_aload_n 1 dL_law__280 rfl rfl ?_
  refine tw_aload_n 0 dL_law__281 rfl rfl ?_
  refine tw_iload 4 dL_law__282 rfl ?_
  refine tw_iconst (v := 1) dL_law__284 (by decide) ?_
  refine tw_iadd dL_law__285 ?_
  refine tw_nmi (fun v2 ev2 => ?_)
  have q3 : v2 = nI (5 * j + 1) := by rw [ev2]; exact tw_s1 _
  rw [q3]
  obtain ⟨y4, ey4⟩ : ∃ y : Int32, Int32.ofNat (d.2 (1000 + (nI (5 * j + 1)).toNatClampNeg)) = y := ⟨_, rfl⟩
  refine tw_ti (v := .int y4) (fun _ _ z => z.xs.2.2.2.2.2) dL_law__286 (vp_in_nI (by omega) (by omega)) (congrArg Value.int ey4) ?_
  refine tw_aload_n 0 dL_law__287 rfl rfl ?_
  refine tw_iload 4 dL_law__288 rfl ?_
  refine tw_iconst (v := 2) dL_law__290 (by decide) ?_
  refine tw_iadd dL_law__291 ?_
  refine tw_nmi (fun v5 ev5 => ?_)
  have q6 : v5 = nI (5 * j + 2) := by rw [ev5]; exact tw_s2 _
  rw [q6]
  obtain ⟨y7, ey7⟩ : ∃ y : Int32, Int32.ofNat (d.2 (1000 + (nI (5 * j + 2)).toNatClampNeg)) = y := ⟨_, rfl⟩
  refine tw_ti (v := .int y7) (fun _ _ z => z.xs.2.2.2.2.2) dL_law__292 (vp_in_nI (by omega) (by omega)) (congrArg Value.int ey7) ?_
  refine tw_aload_n 0 dL_law__293 rfl rfl ?_
  refine tw_iload 4 dL_law__294 rfl ?_
  refine tw_iconst (v := 3) dL_law__296 (by decide) ?_
  refine tw_iadd dL_law__297 ?_
  refine tw_nmi (fun v8 ev8 => ?_)
  have q9 : v8 = nI (5 * j + 3) := by rw [ev8]; exact tw_s3 _
  rw [q9]
  obtain ⟨y10, ey10⟩ : ∃ y : Int32, Int32.ofNat (d.2 (1000 + (nI (5 * j + 3)).toNatClampNeg)) = y := ⟨_, rfl⟩
  refine tw_ti (v := .int y10) (fun _ _ z => z.xs.2.2.2.2.2) dL_law__298 (vp_in_nI (by omega) (by omega)) (congrArg Value.int ey10) ?_
  refine tw_if_eq 306 dL_law__299 (by decide) (fun c11 => ?_) (fun c11 => ?_)
  · refine tw_iconst (v := 0) dL_law__306 (by decide) ?_
    refine tw_aload_n 3 dL_law__307 rfl rfl ?_
    refine tw_bi (tw_callSH (M := mL_law_) (pc := 308) okL_gate dL_law__308 w_566 [.ref x, .int y4, .int y7, .int 0, .ref o] [] rfl rfl ⟨by decide, by decide⟩ (Nat.le_of_ble_eq_true rfl) (c_L_gate d g τ h sp1.1 x ok.2.2.1 y4 y7 0 (by unfold tw_01; decide) o ok.2.2.2.2) ((c + 900) - 20) ((n + 5000) - 120) (by omega) (by omega)) (fun r14 h13 q12 => ?_) (fun E h1 q => q.elim)
    rcases q12 with ⟨q12e, q12cI, q12cR, q12n, q12z, τc, q12s⟩ | ⟨q12e, q12cI, τc, q12s⟩ | ⟨q12e, q12cI, q12cR, τc, q12s⟩
    · rw [q12e]
      have h49 := (tw_b678 ok.1 ok.2.2.1).1
      obtain ⟨gL, egL⟩ : ∃ z : tw_G, z = (tw_g1 g (160 + 64 * tw_DN y4 + 2 + tw_DN y7) 0) := ⟨_, rfl⟩
      rw [← egL] at q12s
      have gl3 : gL.2 3 = g.2 3 := by rw [egL]; rfl
      have gl4 : gL.2 4 = g.2 4 := by rw [egL]; rfl
      have gl5 : gL.2 5 = g.2 5 := by rw [egL]; rfl
      have gl9 : gL.2 9 = g.2 9 := by rw [egL]; rfl
      have gl22 : gL.2 22 = g.2 22 := by rw [egL]; rfl
      have kx1 := q12s.2.1.k ok.2.2.1 (by decide)
      have km1 := q12s.2.1.k ok.2.2.2.1 (by decide)
      have ko1 := q12s.2.1.k ok.2.2.2.2 (by decide)
      refine tw_istore [(5, .int 0), (0, .ref (d.2 98)), (1, .ref x), (2, .ref m), (3, .ref o), (4, .int (nI (5 * j)))] dL_law__311 (by decide) rfl ?_
      refine tw_aload_n 3 dL_law__313 rfl rfl ?_
      refine tw_aload_n 1 dL_law__314 rfl rfl ?_
      refine tw_iload 5 dL_law__315 rfl ?_
      refine tw_iconst (v := 1) dL_law__317 (by decide) ?_
      refine tw_iadd dL_law__318 ?_
      refine tw_nmi (fun v15 ev15 => ?_)
      have q16 : v15 = nI (5 * j + 1) := by rw [ev15]; exact tw_s1 _
      rw [q16]
      refine tw_ti (v := .int y4) (fun _ _ z => z.xs.2.2.2.2.2) dL_law__319 (vp_in_nI (by omega) (by omega)) (congrArg Value.int ey4) ?_
      refine tw_aload_n 1 dL_law__320 rfl rfl ?_
      refine tw_iload 5 dL_law__321 rfl ?_
      refine tw_iconst (v := 2) dL_law__323 (by decide) ?_
      refine tw_iadd dL_law__324 ?_
      refine tw_nmi (fun v17 ev17 => ?_)
      have q18 : v17 = nI (5 * j + 2) := by rw [ev17]; exact tw_s2 _
      rw [q18]
      refine tw_ti (v := .int y7) (fun _ _ z => z.xs.2.2.2.2.2) dL_law__325 (vp_in_nI (by omega) (by omega)) (congrArg Value.int ey7) ?_
      refine tw_aload_n 1 dL_law__326 rfl rfl ?_
      refine tw_iload 5 dL_law__327 rfl ?_
      refine tw_iconst (v := 3) dL_law__329 (by decide) ?_
      refine tw_iadd dL_law__330 ?_
      refine tw_nmi (fun v19 ev19 => ?_)
      have q20 : v19 = nI (5 * j + 3) := by rw [ev19]; exact tw_s3 _
      rw [q20]
      refine tw_ti (v := .int y10) (fun _ _ z => z.xs.2.2.2.2.2) dL_law__331 (vp_in_nI (by omega) (by omega)) (congrArg Value.int ey10) ?_
      refine tw_if_eq 339 dL_law__332 (by decide) (fun _ => ?_) (fun c21 => absurd (c11) c21)
      refine tw_iconst (v := 0) dL_law__339 (by decide) ?_
      obtain ⟨e22, f23, th_24, td_25, ds_26, fr_27, ca_28, us_29, wo_30, cm_31, lc_32, lh_33, ld_34, rfl, k35, k36, k37, k38, k39, k40, k41, k42, k43, k44, k45, k46, k47, k48, k49, k50, k51, k52⟩ := (tw_sp.rf q12s.1).1 m 36 km1 (by decide)
      refine tw_bi (tw_callV (M := mL_law_) (pc := 340) okX10_gate dL_law__340 w_1308 rfl f23 [.int y4, .int y7, .int 0] [] rfl rfl ⟨by decide, by decide⟩ (Nat.le_of_ble_eq_true rfl) (c2_X10_gate d gL τc h13 (tw_sp.rf q12s.1).1 m km1 y4 y7 0 (by unfold tw_01; decide) o ko1) ((c + 900) - 20) ((n + 5000) - 120) (by omega) (by omega)) (fun r55 h54 q53 => ?_) (fun E h1 q => q.elim)
      obtain ⟨g9, τ9, s9, oq9, q53a⟩ := q53
      have kx2 := s9.2.1.k kx1 (by decide)
      have km2 := s9.2.1.k km1 (by decide)
      have ko2 := s9.2.1.k ko1 (by decide)
      have q12cI3 : tw_ix (gL.2 3) y4 := by rw [gl3, ← ok.2.1.2.2.2.1.trans ok.2.1.1]; exact q12cI
      rcases q53a with ⟨z, -⟩ | ⟨-, z, -⟩ | ⟨-, -, hr2, ht, gk9⟩
      · exact absurd q12cI3 z
      · exact absurd q12cR z
      · rw [hr2]
        have ok9 : tw_ok5 d x m o g9 τ9 h54 := ⟨s9.1, (by rw [gk9, egL]; exact ok.2.1.gate q12cI q12cR h49), kx2, km2, ko2⟩
        have hlg : tw_lg (h54 o) = (g.1 (160 + 64 * tw_DN y4 + 2 + tw_DN y7)).toInt64 := by rw [oq9]; exact q12n
        have sp56 := tw_sp.rf ok9.1
        refine tw_istore [(6, .int (gL.1 (480 + 64 * tw_DN y4 + 8 + tw_DN y7))), (5, .int 0), (0, .ref (d.2 98)), (1, .ref x), (2, .ref m), (3, .ref o), (4, .int (nI (5 * j)))] dL_law__343 (by decide) rfl ?_
        refine tw_goto 1391 dL_law__345 (by decide) ?_
        refine tw_lv [2, 3, 4, 5, 6] rfl ?_
        refine tw_less (c2 := c) (n2 := n) (by omega) (by omega) ?_
        exact J _ _ _ ok9
    · rw [q12e]
      have h49 := (tw_b678 ok.1 ok.2.2.1).1
      have kx1 := q12s.2.1.k ok.2.2.1 (by decide)
      have km1 := q12s.2.1.k ok.2.2.2.1 (by decide)
      have ko1 := q12s.2.1.k ok.2.2.2.2 (by decide)
      refine tw_istore [(5, .int 1), (0, .ref (d.2 98)), (1, .ref x), (2, .ref m), (3, .ref o), (4, .int (nI (5 * j)))] dL_law__311 (by decide) rfl ?_
      refine tw_aload_n 3 dL_law__313 rfl rfl ?_
      refine tw_aload_n 1 dL_law__314 rfl rfl ?_
      refine tw_iload 5 dL_law__315 rfl ?_
      refine tw_iconst (v := 1) dL_law__317 (by decide) ?_
      refine tw_iadd dL_law__318 ?_
      refine tw_nmi (fun v57 ev57 => ?_)
      have q58 : v57 = nI (5 * j + 1) := by rw [ev57]; exact tw_s1 _
      rw [q58]
      refine tw_ti (v := .int y4) (fun _ _ z => z.xs.2.2.2.2.2) dL_law__319 (vp_in_nI (by omega) (by omega)) (congrArg Value.int ey4) ?_
      refine tw_aload_n 1 dL_law__320 rfl rfl ?_
      refine tw_iload 5 dL_law__321 rfl ?_
      refine tw_iconst (v := 2) dL_law__323 (by decide) ?_
      refine tw_iadd dL_law__324 ?_
      refine tw_nmi (fun v59 ev59 => ?_)
      have q60 : v59 = nI (5 * j + 2) := by rw [ev59]; exact tw_s2 _
      rw [q60]
      refine tw_ti (v := .int y7) (fun _ _ z => z.xs.2.2.2.2.2) dL_law__325 (vp_in_nI (by omega) (by omega)) (congrArg Value.int ey7) ?_
      refine tw_aload_n 1 dL_law__326 rfl rfl ?_
      refine tw_iload 5 dL_law__327 rfl ?_
      refine tw_iconst (v := 3) dL_law__329 (by decide) ?_
      refine tw_iadd dL_law__330 ?_
      refine tw_nmi (fun v61 ev61 => ?_)
      have q62 : v61 = nI (5 * j + 3) := by rw [ev61]; exact tw_s3 _
      rw [q62]
      refine tw_ti (v := .int y10) (fun _ _ z => z.xs.2.2.2.2.2) dL_law__331 (vp_in_nI (by omega) (by omega)) (congrArg Value.int ey10) ?_
      refine tw_if_eq 339 dL_law__332 (by decide) (fun _ => ?_) (fun c63 => absurd (c11) c63)
      refine tw_iconst (v := 0) dL_law__339 (by decide) ?_
      obtain ⟨e64, f65, th_66, td_67, ds_68, fr_69, ca_70, us_71, wo_72, cm_73, lc_74, lh_75, ld_76, rfl, k77, k78, k79, k80, k81, k82, k83, k84, k85, k86, k87, k88, k89, k90, k91, k92, k93, k94⟩ := (tw_sp.rf q12s.1).1 m 36 km1 (by decide)
      refine tw_bi (tw_callV (M := mL_law_) (pc := 340) okX10_gate dL_law__340 w_1308 rfl f65 [.int y4, .int y7, .int 0] [] rfl rfl ⟨by decide, by decide⟩ (Nat.le_of_ble_eq_true rfl) (c2_X10_gate d g τc h13 (tw_sp.rf q12s.1).1 m km1 y4 y7 0 (by unfold tw_01; decide) o ko1) ((c + 900) - 20) ((n + 5000) - 120) (by omega) (by omega)) (fun r97 h96 q95 => ?_) (fun E h1 q => q.elim)
      obtain ⟨g9, τ9, s9, oq9, q95a⟩ := q95
      have kx2 := s9.2.1.k kx1 (by decide)
      have km2 := s9.2.1.k km1 (by decide)
      have ko2 := s9.2.1.k ko1 (by decide)
      have q12cI3 : ¬ tw_ix (g.2 3) y4 := by rw [← ok.2.1.2.2.2.1.trans ok.2.1.1]; exact q12cI
      rcases q95a with ⟨-, ht, eg9⟩ | ⟨z, -⟩ | ⟨z, -⟩
      · rw [eg9] at s9
        have ok9 : tw_ok5 d x m o g τ9 h96 := ⟨s9.1, ok.2.1, kx2, km2, ko2⟩
        have sp98 := tw_sp.rf ok9.1
        refine tw_istore [(6, .int r97), (5, .int 1), (0, .ref (d.2 98)), (1, .ref x), (2, .ref m), (3, .ref o), (4, .int (nI (5 * j)))] dL_law__343 (by decide) rfl ?_
        refine tw_goto 1391 dL_law__345 (by decide) ?_
        refine tw_lv [2, 3, 4, 5, 6] rfl ?_
        refine tw_less (c2 := c) (n2 := n) (by omega) (by omega) ?_
        exact J _ _ _ ok9
      · exact absurd z q12cI3
      · exact absurd z q12cI3
    · rw [q12e]
      have h49 := (tw_b678 ok.1 ok.2.2.1).1
      have kx1 := q12s.2.1.k ok.2.2.1 (by decide)
      have km1 := q12s.2.1.k ok.2.2.2.1 (by decide)
      have ko1 := q12s.2.1.k ok.2.2.2.2 (by decide)
      refine tw_istore [(5, .int 2), (0, .ref (d.2 98)), (1, .ref x), (2, .ref m), (3, .ref o), (4, .int (nI (5 * j)))] dL_law__311 (by decide) rfl ?_
      refine tw_aload_n 3 dL_law__313 rfl rfl ?_
      refine tw_aload_n 1 dL_law__314 rfl rfl ?_
      refine tw_iload 5 dL_law__315 rfl ?_
      refine tw_iconst (v := 1) dL_law__317 (by decide) ?_
      refine tw_iadd dL_law__318 ?_
      refine tw_nmi (fun v99 ev99 => ?_)
      have q100 : v99 = nI (5 * j + 1) := by rw [ev99]; exact tw_s1 _
      rw [q100]
      refine tw_ti (v := .int y4) (fun _ _ z => z.xs.2.2.2.2.2) dL_law__319 (vp_in_nI (by omega) (by omega)) (congrArg Value.int ey4) ?_
      refine tw_aload_n 1 dL_law__320 rfl rfl ?_
      refine tw_iload 5 dL_law__321 rfl ?_
      refine tw_iconst (v := 2) dL_law__323 (by decide) ?_
      refine tw_iadd dL_law__324 ?_
      refine tw_nmi (fun v101 ev101 => ?_)
      have q102 : v101 = nI (5 * j + 2) := by rw [ev101]; exact tw_s2 _
      rw [q102]
      refine tw_ti (v := .int y7) (fun _ _ z => z.xs.2.2.2.2.2) dL_law__325 (vp_in_nI (by omega) (by omega)) (congrArg Value.int ey7) ?_
      refine tw_aload_n 1 dL_law__326 rfl rfl ?_
      refine tw_iload 5 dL_law__327 rfl ?_
      refine tw_iconst (v := 3) dL_law__329 (by decide) ?_
      refine tw_iadd dL_law__330 ?_
      refine tw_nmi (fun v103 ev103 => ?_)
      have q104 : v103 = nI (5 * j + 3) := by rw [ev103]; exact tw_s3 _
      rw [q104]
      refine tw_ti (v := .int y10) (fun _ _ z => z.xs.2.2.2.2.2) dL_law__331 (vp_in_nI (by omega) (by omega)) (congrArg Value.int ey10) ?_
      refine tw_if_eq 339 dL_law__332 (by decide) (fun _ => ?_) (fun c105 => absurd (c11) c105)
      refine tw_iconst (v := 0) dL_law__339 (by decide) ?_
      obtain ⟨e106, f107, th_108, td_109, ds_110, fr_111, ca_112, us_113, wo_114, cm_115, lc_116, lh_117, ld_118, rfl, k119, k120, k121, k122, k123, k124, k125, k126, k127, k128, k129, k130, k131, k132, k133, k134, k135, k136⟩ := (tw_sp.rf q12s.1).1 m 36 km1 (by decide)
      refine tw_bi (tw_callV (M := mL_law_) (pc := 340) okX10_gate dL_law__340 w_1308 rfl f107 [.int y4, .int y7, .int 0] [] rfl rfl ⟨by decide, by decide⟩ (Nat.le_of_ble_eq_true rfl) (c2_X10_gate d g τc h13 (tw_sp.rf q12s.1).1 m km1 y4 y7 0 (by unfold tw_01; decide) o ko1) ((c + 900) - 20) ((n + 5000) - 120) (by omega) (by omega)) (fun r139 h138 q137 => ?_) (fun E h1 q => q.elim)
      obtain ⟨g9, τ9, s9, oq9, q137a⟩ := q137
      have kx2 := s9.2.1.k kx1 (by decide)
      have km2 := s9.2.1.k km1 (by decide)
      have ko2 := s9.2.1.k ko1 (by decide)
      have q12cI3 : tw_ix (g.2 3) y4 := by rw [← ok.2.1.2.2.2.1.trans ok.2.1.1]; exact q12cI
      rcases q137a with ⟨z, -⟩ | ⟨-, -, ht, eg9⟩ | ⟨-, z, -⟩
      · exact absurd q12cI3 z
      · rw [eg9] at s9
        have ok9 : tw_ok5 d x m o g τ9 h138 := ⟨s9.1, ok.2.1, kx2, km2, ko2⟩
        have sp140 := tw_sp.rf ok9.1
        refine tw_istore [(6, .int r139), (5, .int 2), (0, .ref (d.2 98)), (1, .ref x), (2, .ref m), (3, .ref o), (4, .int (nI (5 * j)))] dL_law__343 (by decide) rfl ?_
        refine tw_goto 1391 dL_law__345 (by decide) ?_
        refine tw_lv [2, 3, 4, 5, 6] rfl ?_
        refine tw_less (c2 := c) (n2 := n) (by omega) (by omega) ?_
        exact J _ _ _ ok9
      · exact absurd z q12cR
  · refine tw_iconst (v := 1) dL_law__302 (by decide) ?_
    refine tw_goto 307 dL_law__303 (by decide) ?_
    refine tw_aload_n 3 dL_law__307 rfl rfl ?_
    refine tw_bi (tw_callSH (M := mL_law_) (pc := 308) okL_gate dL_law__308 w_566 [.ref x, .int y4, .int y7, .int 1, .ref o] [] rfl rfl ⟨by decide, by decide⟩ (Nat.le_of_ble_eq_true rfl) (c_L_gate d g τ h sp1.1 x ok.2.2.1 y4 y7 1 (by unfold tw_01; decide) o ok.2.2.2.2) ((c + 900) - 20) ((n + 5000) - 120) (by omega) (by omega)) (fun r143 h142 q141 => ?_) (fun E h1 q => q.elim)
    rcases q141 with ⟨q141e, q141cI, q141cR, q141n, q141z, τc, q141s⟩ | ⟨q141e, q141cI, τc, q141s⟩ | ⟨q141e, q141cI, q141cR, τc, q141s⟩
    · rw [q141e]
      have h49 := (tw_b678 ok.1 ok.2.2.1).1
      obtain ⟨gL, egL⟩ : ∃ z : tw_G, z = (tw_g1 g (160 + 64 * tw_DN y4 + 2 + tw_DN y7) 1) := ⟨_, rfl⟩
      rw [← egL] at q141s
      have gl3 : gL.2 3 = g.2 3 := by rw [egL]; rfl
      have gl4 : gL.2 4 = g.2 4 := by rw [egL]; rfl
      have gl5 : gL.2 5 = g.2 5 := by rw [egL]; rfl
      have gl9 : gL.2 9 = g.2 9 := by rw [egL]; rfl
      have gl22 : gL.2 22 = g.2 22 := by rw [egL]; rfl
      have kx1 := q141s.2.1.k ok.2.2.1 (by decide)
      have km1 := q141s.2.1.k ok.2.2.2.1 (by decide)
      have ko1 := q141s.2.1.k ok.2.2.2.2 (by decide)
      refine tw_istore [(5, .int 0), (0, .ref (d.2 98)), (1, .ref x), (2, .ref m), (3, .ref o), (4, .int (nI (5 * j)))] dL_law__311 (by decide) rfl ?_
      refine tw_aload_n 3 dL_law__313 rfl rfl ?_
      refine tw_aload_n 1 dL_law__314 rfl rfl ?_
      refine tw_iload 5 dL_law__315 rfl ?_
      refine tw_iconst (v := 1) dL_law__317 (by decide) ?_
      refine tw_iadd dL_law__318 ?_
      refine tw_nmi (fun v144 ev144 => ?_)
      have q145 : v144 = nI (5 * j + 1) := by rw [ev144]; exact tw_s1 _
      rw [q145]
      refine tw_ti (v := .int y4) (fun _ _ z => z.xs.2.2.2.2.2) dL_law__319 (vp_in_nI (by omega) (by omega)) (congrArg Value.int ey4) ?_
      refine tw_aload_n 1 dL_law__320 rfl rfl ?_
      refine tw_iload 5 dL_law__321 rfl ?_
      refine tw_iconst (v := 2) dL_law__323 (by decide) ?_
      refine tw_iadd dL_law__324 ?_
      refine tw_nmi (fun v146 ev146 => ?_)
      have q147 : v146 = nI (5 * j + 2) := by rw [ev146]; exact tw_s2 _
      rw [q147]
      refine tw_ti (v := .int y7) (fun _ _ z => z.xs.2.2.2.2.2) dL_law__325 (vp_in_nI (by omega) (by omega)) (congrArg Value.int ey7) ?_
      refine tw_aload_n 1 dL_law__326 rfl rfl ?_
      refine tw_iload 5 dL_law__327 rfl ?_
      refine tw_iconst (v := 3) dL_law__329 (by decide) ?_
      refine tw_iadd dL_law__330 ?_
      refine tw_nmi (fun v148 ev148 => ?_)
      have q149 : v148 = nI (5 * j + 3) := by rw [ev148]; exact tw_s3 _
      rw [q149]
      refine tw_ti (v := .int y10) (fun _ _ z => z.xs.2.2.2.2.2) dL_law__331 (vp_in_nI (by omega) (by omega)) (congrArg Value.int ey10) ?_
      refine tw_if_eq 339 dL_law__332 (by decide) (fun c150 => absurd c150 (c11)) (fun _ => ?_)
      refine tw_iconst (v := 1) dL_law__335 (by decide) ?_
      refine tw_goto 340 dL_law__336 (by decide) ?_
      obtain ⟨e151, f152, th_153, td_154, ds_155, fr_156, ca_157, us_158, wo_159, cm_160, lc_161, lh_162, ld_163, rfl, k164, k165, k166, k167, k168, k169, k170, k171, k172, k173, k174, k175, k176, k177, k178, k179, k180, k181⟩ := (tw_sp.rf q141s.1).1 m 36 km1 (by decide)
      refine tw_bi (tw_callV (M := mL_law_) (pc := 340) okX10_gate dL_law__340 w_1308 rfl f152 [.int y4, .int y7, .int 1] [] rfl rfl ⟨by decide, by decide⟩ (Nat.le_of_ble_eq_true rfl) (c2_X10_gate d gL τc h142 (tw_sp.rf q141s.1).1 m km1 y4 y7 1 (by unfold tw_01; decide) o ko1) ((c + 900) - 20) ((n + 5000) - 120) (by omega) (by omega)) (fun r184 h183 q182 => ?_) (fun E h1 q => q.elim)
      obtain ⟨g9, τ9, s9, oq9, q182a⟩ := q182
      have kx2 := s9.2.1.k kx1 (by decide)
      have km2 := s9.2.1.k km1 (by decide)
      have ko2 := s9.2.1.k ko1 (by decide)
      have q141cI3 : tw_ix (gL.2 3) y4 := by rw [gl3, ← ok.2.1.2.2.2.1.trans ok.2.1.1]; exact q141cI
      rcases q182a with ⟨z, -⟩ | ⟨-, z, -⟩ | ⟨-, -, hr2, ht, gk9⟩
      · exact absurd q141cI3 z
      · exact absurd q141cR z
      · rw [hr2]
        have ok9 : tw_ok5 d x m o g9 τ9 h183 := ⟨s9.1, (by rw [gk9, egL]; exact ok.2.1.gate q141cI q141cR h49), kx2, km2, ko2⟩
        have hlg : tw_lg (h183 o) = (g.1 (160 + 64 * tw_DN y4 + 2 + tw_DN y7)).toInt64 := by rw [oq9]; exact q141n
        have sp185 := tw_sp.rf ok9.1
        refine tw_istore [(6, .int (gL.1 (480 + 64 * tw_DN y4 + 8 + tw_DN y7))), (5, .int 0), (0, .ref (d.2 98)), (1, .ref x), (2, .ref m), (3, .ref o), (4, .int (nI (5 * j)))] dL_law__343 (by decide) rfl ?_
        refine tw_goto 1391 dL_law__345 (by decide) ?_
        refine tw_lv [2, 3, 4, 5, 6] rfl ?_
        refine tw_less (c2 := c) (n2 := n) (by omega) (by omega) ?_
        exact J _ _ _ ok9
    · rw [q141e]
      have h49 := (tw_b678 ok.1 ok.2.2.1).1
      have kx1 := q141s.2.1.k ok.2.2.1 (by decide)
      have km1 := q141s.2.1.k ok.2.2.2.1 (by decide)
      have ko1 := q141s.2.1.k ok.2.2.2.2 (by decide)
      refine tw_istore [(5, .int 1), (0, .ref (d.2 98)), (1, .ref x), (2, .ref m), (3, .ref o), (4, .int (nI (5 * j)))] dL_law__311 (by decide) rfl ?_
      refine tw_aload_n 3 dL_law__313 rfl rfl ?_
      refine tw_aload_n 1 dL_law__314 rfl rfl ?_
      refine tw_iload 5 dL_law__315 rfl ?_
      refine tw_iconst (v := 1) dL_law__317 (by decide) ?_
      refine tw_iadd dL_law__318 ?_
      refine tw_nmi (fun v186 ev186 => ?_)
      have q187 : v186 = nI (5 * j + 1) := by rw [ev186]; exact tw_s1 _
      rw [q187]
      refine tw_ti (v := .int y4) (fun _ _ z => z.xs.2.2.2.2.2) dL_law__319 (vp_in_nI (by omega) (by omega)) (congrArg Value.int ey4) ?_
      refine tw_aload_n 1 dL_law__320 rfl rfl ?_
      refine tw_iload 5 dL_law__321 rfl ?_
      refine tw_iconst (v := 2) dL_law__323 (by decide) ?_
      refine tw_iadd dL_law__324 ?_
      refine tw_nmi (fun v188 ev188 => ?_)
      have q189 : v188 = nI (5 * j + 2) := by rw [ev188]; exact tw_s2 _
      rw [q189]
      refine tw_ti (v := .int y7) (fun _ _ z => z.xs.2.2.2.2.2) dL_law__325 (vp_in_nI (by omega) (by omega)) (congrArg Value.int ey7) ?_
      refine tw_aload_n 1 dL_law__326 rfl rfl ?_
      refine tw_iload 5 dL_law__327 rfl ?_
      refine tw_iconst (v := 3) dL_law__329 (by decide) ?_
      refine tw_iadd dL_law__330 ?_
      refine tw_nmi (fun v190 ev190 => ?_)
      have q191 : v190 = nI (5 * j + 3) := by rw [ev190]; exact tw_s3 _
      rw [q191]
      refine tw_ti (v := .int y10) (fun _ _ z => z.xs.2.2.2.2.2) dL_law__331 (vp_in_nI (by omega) (by omega)) (congrArg Value.int ey10) ?_
      refine tw_if_eq 339 dL_law__332 (by decide) (fun c192 => absurd c192 (c11)) (fun _ => ?_)
      refine tw_iconst (v := 1) dL_law__335 (by decide) ?_
      refine tw_goto 340 dL_law__336 (by decide) ?_
      obtain ⟨e193, f194, th_195, td_196, ds_197, fr_198, ca_199, us_200, wo_201, cm_202, lc_203, lh_204, ld_205, rfl, k206, k207, k208, k209, k210, k211, k212, k213, k214, k215, k216, k217, k218, k219, k220, k221, k222, k223⟩ := (tw_sp.rf q141s.1).1 m 36 km1 (by decide)
      refine tw_bi (tw_callV (M := mL_law_) (pc := 340) okX10_gate dL_law__340 w_1308 rfl f194 [.int y4, .int y7, .int 1] [] rfl rfl ⟨by decide, by decide⟩ (Nat.le_of_ble_eq_true rfl) (c2_X10_gate d g τc h142 (tw_sp.rf q141s.1).1 m km1 y4 y7 1 (by unfold tw_01; decide) o ko1) ((c + 900) - 20) ((n + 5000) - 120) (by omega) (by omega)) (fun r226 h225 q224 => ?_) (fun E h1 q => q.elim)
      obtain ⟨g9, τ9, s9, oq9, q224a⟩ := q224
      have kx2 := s9.2.1.k kx1 (by decide)
      have km2 := s9.2.1.k km1 (by decide)
      have ko2 := s9.2.1.k ko1 (by decide)
      have q141cI3 : ¬ tw_ix (g.2 3) y4 := by rw [← ok.2.1.2.2.2.1.trans ok.2.1.1]; exact q141cI
      rcases q224a with ⟨-, ht, eg9⟩ | ⟨z, -⟩ | ⟨z, -⟩
      · rw [eg9] at s9
        have ok9 : tw_ok5 d x m o g τ9 h225 := ⟨s9.1, ok.2.1, kx2, km2, ko2⟩
        have sp227 := tw_sp.rf ok9.1
        refine tw_istore [(6, .int r226), (5, .int 1), (0, .ref (d.2 98)), (1, .ref x), (2, .ref m), (3, .ref o), (4, .int (nI (5 * j)))] dL_law__343 (by decide) rfl ?_
        refine tw_goto 1391 dL_law__345 (by decide) ?_
        refine tw_lv [2, 3, 4, 5, 6] rfl ?_
        refine tw_less (c2 := c) (n2 := n) (by omega) (by omega) ?_
        exact J _ _ _ ok9
      · exact absurd z q141cI3
      · exact absurd z q141cI3
    · rw [q141e]
      have h49 := (tw_b678 ok.1 ok.2.2.1).1
      have kx1 := q141s.2.1.k ok.2.2.1 (by decide)
      have km1 := q141s.2.1.k ok.2.2.2.1 (by decide)
      have ko1 := q141s.2.1.k ok.2.2.2.2 (by decide)
      refine tw_istore [(5, .int 2), (0, .ref (d.2 98)), (1, .ref x), (2, .ref m), (3, .ref o), (4, .int (nI (5 * j)))] dL_law__311 (by decide) rfl ?_
      refine tw_aload_n 3 dL_law__313 rfl rfl ?_
      refine tw_aload_n 1 dL_law__314 rfl rfl ?_
      refine tw_iload 5 dL_law__315 rfl ?_
      refine tw_iconst (v := 1) dL_law__317 (by decide) ?_
      refine tw_iadd dL_law__318 ?_
      refine tw_nmi (fun v228 ev228 => ?_)
      have q229 : v228 = nI (5 * j + 1) := by rw [ev228]; exact tw_s1 _
      rw [q229]
      refine tw_ti (v := .int y4) (fun _ _ z => z.xs.2.2.2.2.2) dL_law__319 (vp_in_nI (by omega) (by omega)) (congrArg Value.int ey4) ?_
      refine tw_aload_n 1 dL_law__320 rfl rfl ?_
      refine tw_iload 5 dL_law__321 rfl ?_
      refine tw_iconst (v := 2) dL_law__323 (by decide) ?_
      refine tw_iadd dL_law__324 ?_
      refine tw_nmi (fun v230 ev230 => ?_)
      have q231 : v230 = nI (5 * j + 2) := by rw [ev230]; exact tw_s2 _
      rw [q231]
      refine tw_ti (v := .int y7) (fun _ _ z => z.xs.2.2.2.2.2) dL_law__325 (vp_in_nI (by omega) (by omega)) (congrArg Value.int ey7) ?_
      refine tw_aload_n 1 dL_law__326 rfl rfl ?_
      refine tw_iload 5 dL_law__327 rfl ?_
      refine tw_iconst (v := 3) dL_law__329 (by decide) ?_
      refine tw_iadd dL_law__330 ?_
      refine tw_nmi (fun v232 ev232 => ?_)
      have q233 : v232 = nI (5 * j + 3) := by rw [ev232]; exact tw_s3 _
      rw [q233]
      refine tw_ti (v := .int y10) (fun _ _ z => z.xs.2.2.2.2.2) dL_law__331 (vp_in_nI (by omega) (by omega)) (congrArg Value.int ey10) ?_
      refine tw_if_eq 339 dL_law__332 (by decide) (fun c234 => absurd c234 (c11)) (fun _ => ?_)
      refine tw_iconst (v := 1) dL_law__335 (by decide) ?_
      refine tw_goto 340 dL_law__336 (by decide) ?_
      obtain ⟨e235, f236, th_237, td_238, ds_239, fr_240, ca_241, us_242, wo_243, cm_244, lc_245, lh_246, ld_247, rfl, k248, k249, k250, k251, k252, k253, k254, k255, k256, k257, k258, k259, k260, k261, k262, k263, k264, k265⟩ := (tw_sp.rf q141s.1).1 m 36 km1 (by decide)
      refine tw_bi (tw_callV (M := mL_law_) (pc := 340) okX10_gate dL_law__340 w_1308 rfl f236 [.int y4, .int y7, .int 1] [] rfl rfl ⟨by decide, by decide⟩ (Nat.le_of_ble_eq_true rfl) (c2_X10_gate d g τc h142 (tw_sp.rf q141s.1).1 m km1 y4 y7 1 (by unfold tw_01; decide) o ko1) ((c + 900) - 20) ((n + 5000) - 120) (by omega) (by omega)) (fun r268 h267 q266 => ?_) (fun E h1 q => q.elim)
      obtain ⟨g9, τ9, s9, oq9, q266a⟩ := q266
      have kx2 := s9.2.1.k kx1 (by decide)
      have km2 := s9.2.1.k km1 (by decide)
      have ko2 := s9.2.1.k ko1 (by decide)
      have q141cI3 : tw_ix (g.2 3) y4 := by rw [← ok.2.1.2.2.2.1.trans ok.2.1.1]; exact q141cI
      rcases q266a with ⟨z, -⟩ | ⟨-, -, ht, eg9⟩ | ⟨-, z, -⟩
      · exact absurd q141cI3 z
      · rw [eg9] at s9
        have ok9 : tw_ok5 d x m o g τ9 h267 := ⟨s9.1, ok.2.1, kx2, km2, ko2⟩
        have sp269 := tw_sp.rf ok9.1
        refine tw_istore [(6, .int r268), (5, .int 2), (0, .ref (d.2 98)), (1, .ref x), (2, .ref m), (3, .ref o), (4, .int (nI (5 * j)))] dL_law__343 (by decide) rfl ?_
        refine tw_goto 1391 dL_law__345 (by decide) ?_
        refine tw_lv [2, 3, 4, 5, 6] rfl ?_
        refine tw_less (c2 := c) (n2 := n) (by omega) (by omega) ?_
        exact J _ _ _ ok9
      · exact absurd z q141cR

set_option maxHeartbeats 4000000 in
set_option maxRecDepth 100000 in
theorem law_case_3 (d : tw_D) (x m o j c n : Nat) (Q : tw_O → tw_H → Prop) (hL : d.2 97 ≤ 2560) (hj : 5 * j + 5 ≤ d.2 97) (J : tw_J d x m o j Q c n) (g : tw_G) (τ : tw_K) (h : tw_H) (ok : tw_ok5 d x m o g τ h) : tw_W d mL_law_ Q 348 (tw_lv5 d x m o j) [] h (c + 900) (n + 5000) := by
  show tw_W d mL_law_ Q 348 [(0, .ref (d.2 98)), (1, .ref x), (2, .ref m), (3, .ref o), (4, .int (nI (5 * j)))] [] h (c + 900) (n + 5000)
  have sp1 := tw_sp.rf ok.1
  refine tw_aload_n 1 dL_law__348 rfl rfl ?_
  refine tw_aload_n 0 dL_law__349 rfl rfl ?_
  refine tw_iload 4 dL_law__350 rfl ?_
  refine tw_iconst (v := 1) dL_law__352 (by decide) ?_
  refine tw_iadd dL_law__353 ?_
  refine tw_nmi (fun v2 ev2 => ?_)
  have q3 : v2 = nI (5 * j + 1) := by rw [ev2]; exact tw_s1 _
  rw [q3]
  obtain ⟨y4, ey4⟩ : ∃ y : Int32, Int32.ofNat (d.2 (1000 + (nI (5 * j + 1)).toNatClampNeg)) = y := ⟨_, rfl⟩
  refine tw_ti (v := .int y4) (fun _ _ z => z.xs.2.2.2.2.2) dL_law__354 (vp_in_nI (by omega) (by omega)) (congrArg Value.int ey4) ?_
  refine tw_aload_n 3 dL_law__355 rfl rfl ?_
  refine tw_bi (tw_callSH (M := mL_law_) (pc := 356) okL_market dL_law__356 w_585 [.ref x, .int y4, .ref o] [] rfl rfl ⟨by decide, by decide⟩ (Nat.le_of_ble_eq_true rfl) (c_L_market d g τ h sp1.1 x ok.2.2.1 y4 o ok.2.2.2.2) ((c + 900) - 20) ((n + 5000) - 120) (by omega) (by omega)) (fun r7 h6 q5 => ?_) (fun E h1 q => q.elim)
  obtain ⟨g8, τ9, q5g, q5s⟩ := q5
  have ok10 := ok.go (by rcases q5g with z | z <;> rw [z] <;> first | exact ok.2.1 | exact ok.2.1.mk (by decide)) q5s
  have sp11 := tw_sp.rf ok10.1
  refine tw_istore [(5, .int r7), (0, .ref (d.2 98)), (1, .ref x), (2, .ref m), (3, .ref o), (4, .int (nI (5 * j)))] dL_law__359 (by decide) rfl ?_
  refine tw_aload_n 3 dL_law__361 rfl rfl ?_
  refine tw_aload_n 1 dL_law__362 rfl rfl ?_
  refine tw_iload 5 dL_law__363 rfl ?_
  refine tw_iconst (v := 1) dL_law__365 (by decide) ?_
  refine tw_iadd dL_law__366 ?_
  refine tw_nmi (fun v12 ev12 => ?_)
  have q13 : v12 = nI (5 * j + 1) := by rw [ev12]; exact tw_s1 _
  rw [q13]
  refine tw_ti (v := .int y4) (fun _ _ z => z.xs.2.2.2.2.2) dL_law__367 (vp_in_nI (by omega) (by omega)) (congrArg Value.int ey4) ?_
  obtain ⟨e14, f15, th_16, td_17, ds_18, fr_19, ca_20, us_21, wo_22, cm_23, lc_24, lh_25, ld_26, rfl, k27, k28, k29, k30, k31, k32, k33, k34, k35, k36, k37, k38, k39, k40, k41, k42, k43, k44⟩ := sp11.1 m 36 ok10.2.2.2.1 (by decide)
  refine tw_bi (tw_callV (M := mL_law_) (pc := 368) okX10_market dL_law__368 w_1315 rfl f15 [.int y4] [] rfl rfl ⟨by decide, by decide⟩ (Nat.le_of_ble_eq_true rfl) (c_X10_market d g8 τ9 h6 sp11.1 m ok10.2.2.2.1 y4) ((c + 900) - 20) ((n + 5000) - 120) (by omega) (by omega)) (fun r47 h46 q45 => ?_) (fun E h1 q => q.elim)
  obtain ⟨g49, q45g, q45s⟩ : ∃ g1, (g1 = g8 ∨ g1 = tw_g1 g8 1 y4) ∧ tw_sp d τ9 h6 g1 τ9 h46 := by rcases q45.2 with z | z; exact ⟨_, Or.inl rfl, z.2.2⟩; exact ⟨_, Or.inr rfl, z.2.2.2⟩
  have ok48 := ok10.go (by rcases q45g with z | z <;> rw [z] <;> first | exact ok10.2.1 | exact ok10.2.1.mk (by decide)) q45s
  have sp50 := tw_sp.rf ok48.1
  refine tw_istore [(6, .int r47), (5, .int r7), (0, .ref (d.2 98)), (1, .ref x), (2, .ref m), (3, .ref o), (4, .int (nI (5 * j)))] dL_law__371 (by decide) rfl ?_
  refine tw_goto 1391 dL_law__373 (by decide) ?_
  refine tw_lv [2, 3, 4, 5, 6] rfl ?_
  refine tw_less (c2 := c) (n2 := n) (by omega) (by omega) ?_
  exact J _ _ _ ok48

set_option maxHeartbeats 4000000 in
set_option maxRecDepth 100000 in
theorem law_case_4 (d : tw_D) (x m o j c n : Nat) (Q : tw_O → tw_H → Prop) (hL : d.2 97 ≤ 2560) (hj : 5 * j + 5 ≤ d.2 97) (J : tw_J d x m o j Q c n) (g : tw_G) (τ : tw_K) (h : tw_H) (ok : tw_ok5 d x m o g τ h) : tw_W d mL_law_ Q 376 (tw_lv5 d x m o j) [] h (c + 900) (n + 5000) := by
  show tw_W d mL_law_ Q 376 [(0, .ref (d.2 98)), (1, .ref x), (2, .ref m), (3, .ref o), (4, .int (nI (5 * j)))] [] h (c + 900) (n + 5000)
  have sp1 := tw_sp.rf ok.1
  refine tw_aload_n 1 dL_law__376 rfl rfl ?_
  refine tw_aload_n 0 dL_law__377 rfl rfl ?_
  refine tw_iload 4 dL_law__378 rfl ?_
  refine tw_iconst (v := 1) dL_law__380 (by decide) ?_
  refine tw_iadd dL_law__381 ?_
  refine tw_nmi (fun v2 ev2 => ?_)
  have q3 : v2 = nI (5 * j + 1) := by rw [ev2]; exact tw_s1 _
  rw [q3]
  obtain ⟨y4, ey4⟩ : ∃ y : Int32, Int32.ofNat (d.2 (1000 + (nI (5 * j + 1)).toNatClampNeg)) = y := ⟨_, rfl⟩
  refine tw_ti (v := .int y4) (fun _ _ z => z.xs.2.2.2.2.2) dL_law__382 (vp_in_nI (by omega) (by omega)) (congrArg Value.int ey4) ?_
  refine tw_aload_n 0 dL_law__383 rfl rfl ?_
  refine tw_iload 4 dL_law__384 rfl ?_
  refine tw_iconst (v := 2) dL_law__386 (by decide) ?_
  refine tw_iadd dL_law__387 ?_
  refine tw_nmi (fun v5 ev5 => ?_)
  have q6 : v5 = nI (5 * j + 2) := by rw [ev5]; exact tw_s2 _
  rw [q6]
  obtain ⟨y7, ey7⟩ : ∃ y : Int32, Int32.ofNat (d.2 (1000 + (nI (5 * j + 2)).toNatClampNeg)) = y := ⟨_, rfl⟩
  refine tw_ti (v := .int y7) (fun _ _ z => z.xs.2.2.2.2.2) dL_law__388 (vp_in_nI (by omega) (by omega)) (congrArg Value.int ey7) ?_
  refine tw_aload_n 0 dL_law__389 rfl rfl ?_
  refine tw_iload 4 dL_law__390 rfl ?_
  refine tw_iconst (v := 3) dL_law__392 (by decide) ?_
  refine tw_iadd dL_law__393 ?_
  refine tw_nmi (fun v8 ev8 => ?_)
  have q9 : v8 = nI (5 * j + 3) := by rw [ev8]; exact tw_s3 _
  rw [q9]
  obtain ⟨y10, ey10⟩ : ∃ y : Int32, Int32.ofNat (d.2 (1000 + (nI (5 * j + 3)).toNatClampNeg)) = y := ⟨_, rfl⟩
  refine tw_ti (v := .int y10) (fun _ _ z => z.xs.2.2.2.2.2) dL_law__394 (vp_in_nI (by omega) (by omega)) (congrArg Value.int ey10) ?_
  refine tw_aload_n 0 dL_law__395 rfl rfl ?_
  refine tw_iload 4 dL_law__396 rfl ?_
  refine tw_iconst (v := 4) dL_law__398 (by decide) ?_
  refine tw_iadd dL_law__399 ?_
  refine tw_nmi (fun v11 ev11 => ?_)
  have q12 : v11 = nI (5 * j + 4) := by rw [ev11]; exact tw_s4 _
  rw [q12]
  obtain ⟨y13, ey13⟩ : ∃ y : Int32, Int32.ofNat (d.2 (1000 + (nI (5 * j + 4)).toNatClampNeg)) = y := ⟨_, rfl⟩
  refine tw_ti (v := .int y13) (fun _ _ z => z.xs.2.2.2.2.2) dL_law__400 (vp_in_nI (by omega) (by omega)) (congrArg Value.int ey13) ?_
  refine tw_aload_n 3 dL_law__401 rfl rfl ?_
  refine tw_bi (tw_callSH (M := mL_law_) (pc := 402) okL_road dL_law__402 w_592 [.ref x, .int y4, .int y7, .int y10, .int y13, .ref o] [] rfl rfl ⟨by decide, by decide⟩ (Nat.le_of_ble_eq_true rfl) (c_L_road d g τ h sp1.1 x ok.2.2.1 y4 y7 y10 y13 o ok.2.2.2.2) ((c + 900) - 20) ((n + 5000) - 120) (by omega) (by omega)) (fun r16 h15 q14 => ?_) (fun E h1 q => q.elim)
  rcases q14 with ⟨q14e, q14cI, q14cR, q14n, τc, q14s⟩ | ⟨q14e, q14cI, τc, q14s⟩ | ⟨q14e, q14cI, q14cR, τc, q14s⟩
  · rw [q14e]
    have h49 := (tw_b678 ok.1 ok.2.2.1).1
    obtain ⟨gL, egL⟩ : ∃ z : tw_G, z = (tw_g1 (tw_g1 (tw_g1 (tw_g1 g (160 + 64 * tw_DN y4 + 8 + tw_DN y7) y10) (160 + 64 * tw_DN y4 + 16 + tw_DN y7) y13) (160 + 64 * tw_DN y7 + 8 + tw_DN y4) y10) (160 + 64 * tw_DN y7 + 16 + tw_DN y4) y13) := ⟨_, rfl⟩
    rw [← egL] at q14s
    have gl3 : gL.2 3 = g.2 3 := by rw [egL]; rfl
    have gl4 : gL.2 4 = g.2 4 := by rw [egL]; rfl
    have gl5 : gL.2 5 = g.2 5 := by rw [egL]; rfl
    have gl9 : gL.2 9 = g.2 9 := by rw [egL]; rfl
    have gl22 : gL.2 22 = g.2 22 := by rw [egL]; rfl
    have kx1 := q14s.2.1.k ok.2.2.1 (by decide)
    have km1 := q14s.2.1.k ok.2.2.2.1 (by decide)
    have ko1 := q14s.2.1.k ok.2.2.2.2 (by decide)
    refine tw_istore [(5, .int 0), (0, .ref (d.2 98)), (1, .ref x), (2, .ref m), (3, .ref o), (4, .int (nI (5 * j)))] dL_law__405 (by decide) rfl ?_
    refine tw_aload_n 3 dL_law__407 rfl rfl ?_
    refine tw_aload_n 1 dL_law__408 rfl rfl ?_
    refine tw_iload 5 dL_law__409 rfl ?_
    refine tw_iconst (v := 1) dL_law__411 (by decide) ?_
    refine tw_iadd dL_law__412 ?_
    refine tw_nmi (fun v17 ev17 => ?_)
    have q18 : v17 = nI (5 * j + 1) := by rw [ev17]; exact tw_s1 _
    rw [q18]
    refine tw_ti (v := .int y4) (fun _ _ z => z.xs.2.2.2.2.2) dL_law__413 (vp_in_nI (by omega) (by omega)) (congrArg Value.int ey4) ?_
    refine tw_aload_n 1 dL_law__414 rfl rfl ?_
    refine tw_iload 5 dL_law__415 rfl ?_
    refine tw_iconst (v := 2) dL_law__417 (by decide) ?_
    refine tw_iadd dL_law__418 ?_
    refine tw_nmi (fun v19 ev19 => ?_)
    have q20 : v19 = nI (5 * j + 2) := by rw [ev19]; exact tw_s2 _
    rw [q20]
    refine tw_ti (v := .int y7) (fun _ _ z => z.xs.2.2.2.2.2) dL_law__419 (vp_in_nI (by omega) (by omega)) (congrArg Value.int ey7) ?_
    refine tw_aload_n 1 dL_law__420 rfl rfl ?_
    refine tw_iload 5 dL_law__421 rfl ?_
    refine tw_iconst (v := 3) dL_law__423 (by decide) ?_
    refine tw_iadd dL_law__424 ?_
    refine tw_nmi (fun v21 ev21 => ?_)
    have q22 : v21 = nI (5 * j + 3) := by rw [ev21]; exact tw_s3 _
    rw [q22]
    refine tw_ti (v := .int y10) (fun _ _ z => z.xs.2.2.2.2.2) dL_law__425 (vp_in_nI (by omega) (by omega)) (congrArg Value.int ey10) ?_
    refine tw_aload_n 1 dL_law__426 rfl rfl ?_
    refine tw_iload 5 dL_law__427 rfl ?_
    refine tw_iconst (v := 4) dL_law__429 (by decide) ?_
    refine tw_iadd dL_law__430 ?_
    refine tw_nmi (fun v23 ev23 => ?_)
    have q24 : v23 = nI (5 * j + 4) := by rw [ev23]; exact tw_s4 _
    rw [q24]
    refine tw_ti (v := .int y13) (fun _ _ z => z.xs.2.2.2.2.2) dL_law__431 (vp_in_nI (by omega) (by omega)) (congrArg Value.int ey13) ?_
    obtain ⟨e25, f26, th_27, td_28, ds_29, fr_30, ca_31, us_32, wo_33, cm_34, lc_35, lh_36, ld_37, rfl, k38, k39, k40, k41, k42, k43, k44, k45, k46, k47, k48, k49, k50, k51, k52, k53, k54, k55⟩ := (tw_sp.rf q14s.1).1 m 36 km1 (by decide)
    refine tw_bi (tw_callV (M := mL_law_) (pc := 432) okX10_road dL_law__432 w_1319 rfl f26 [.int y4, .int y7, .int y10, .int y13] [] rfl rfl ⟨by decide, by decide⟩ (Nat.le_of_ble_eq_true rfl) (c2_X10_road d gL τc h15 (tw_sp.rf q14s.1).1 m km1 y4 y7 y10 y13 o ko1) ((c + 900) - 20) ((n + 5000) - 120) (by omega) (by omega)) (fun r58 h57 q56 => ?_) (fun E h1 q => q.elim)
    obtain ⟨g9, τ9, s9, oq9, q56a⟩ := q56
    have kx2 := s9.2.1.k kx1 (by decide)
    have km2 := s9.2.1.k km1 (by decide)
    have ko2 := s9.2.1.k ko1 (by decide)
    have q14cI3 : (tw_ix (gL.2 3) y4 ∧ tw_ix (gL.2 3) y7) := by rw [gl3, ← ok.2.1.2.2.2.1.trans ok.2.1.1]; exact q14cI
    rcases q56a with ⟨z, -⟩ | ⟨-, z, -⟩ | ⟨-, -, hr2, ht, gk9⟩
    · exact absurd q14cI3 z
    · exact absurd q14cR z
    · rw [hr2]
      have ok9 : tw_ok5 d x m o g9 τ9 h57 := ⟨s9.1, (by rw [gk9, egL]; exact ok.2.1.road q14cI q14cR h49), kx2, km2, ko2⟩
      have hlg : tw_lg (h57 o) = (g.1 (160 + 64 * tw_DN y4 + 8 + tw_DN y7)).toInt64 := by rw [oq9]; exact q14n
      have sp59 := tw_sp.rf ok9.1
      refine tw_istore [(6, .int (gL.1 (416 + 8 * tw_DN y4 + tw_DN y7))), (5, .int 0), (0, .ref (d.2 98)), (1, .ref x), (2, .ref m), (3, .ref o), (4, .int (nI (5 * j)))] dL_law__435 (by decide) rfl ?_
      refine tw_goto 1391 dL_law__437 (by decide) ?_
      refine tw_lv [2, 3, 4, 5, 6] rfl ?_
      refine tw_less (c2 := c) (n2 := n) (by omega) (by omega) ?_
      exact J _ _ _ ok9
  · rw [q14e]
    have h49 := (tw_b678 ok.1 ok.2.2.1).1
    have kx1 := q14s.2.1.k ok.2.2.1 (by decide)
    have km1 := q14s.2.1.k ok.2.2.2.1 (by decide)
    have ko1 := q14s.2.1.k ok.2.2.2.2 (by decide)
    refine tw_istore [(5, .int 1), (0, .ref (d.2 98)), (1, .ref x), (2, .ref m), (3, .ref o), (4, .int (nI (5 * j)))] dL_law__405 (by decide) rfl ?_
    refine tw_aload_n 3 dL_law__407 rfl rfl ?_
    refine tw_aload_n 1 dL_law__408 rfl rfl ?_
    refine tw_iload 5 dL_law__409 rfl ?_
    refine tw_iconst (v := 1) dL_law__411 (by decide) ?_
    refine tw_iadd dL_law__412 ?_
    refine tw_nmi (fun v60 ev60 => ?_)
    have q61 : v60 = nI (5 * j + 1) := by rw [ev60]; exact tw_s1 _
    rw [q61]
    refine tw_ti (v := .int y4) (fun _ _ z => z.xs.2.2.2.2.2) dL_law__413 (vp_in_nI (by omega) (by omega)) (congrArg Value.int ey4) ?_
    refine tw_aload_n 1 dL_law__414 rfl rfl ?_
    refine tw_iload 5 dL_law__415 rfl ?_
    refine tw_iconst (v := 2) dL_law__417 (by decide) ?_
    refine tw_iadd dL_law__418 ?_
    refine tw_nmi (fun v62 ev62 => ?_)
    have q63 : v62 = nI (5 * j + 2) := by rw [ev62]; exact tw_s2 _
    rw [q63]
    refine tw_ti (v := .int y7) (fun _ _ z => z.xs.2.2.2.2.2) dL_law__419 (vp_in_nI (by omega) (by omega)) (congrArg Value.int ey7) ?_
    refine tw_aload_n 1 dL_law__420 rfl rfl ?_
    refine tw_iload 5 dL_law__421 rfl ?_
    refine tw_iconst (v := 3) dL_law__423 (by decide) ?_
    refine tw_iadd dL_law__424 ?_
    refine tw_nmi (fun v64 ev64 => ?_)
    have q65 : v64 = nI (5 * j + 3) := by rw [ev64]; exact tw_s3 _
    rw [q65]
    refine tw_ti (v := .int y10) (fun _ _ z => z.xs.2.2.2.2.2) dL_law__425 (vp_in_nI (by omega) (by omega)) (congrArg Value.int ey10) ?_
    refine tw_aload_n 1 dL_law__426 rfl rfl ?_
    refine tw_iload 5 dL_law__427 rfl ?_
    refine tw_iconst (v := 4) dL_law__429 (by decide) ?_
    refine tw_iadd dL_law__430 ?_
    refine tw_nmi (fun v66 ev66 => ?_)
    have q67 : v66 = nI (5 * j + 4) := by rw [ev66]; exact tw_s4 _
    rw [q67]
    refine tw_ti (v := .int y13) (fun _ _ z => z.xs.2.2.2.2.2) dL_law__431 (vp_in_nI (by omega) (by omega)) (congrArg Value.int ey13) ?_
    obtain ⟨e68, f69, th_70, td_71, ds_72, fr_73, ca_74, us_75, wo_76, cm_77, lc_78, lh_79, ld_80, rfl, k81, k82, k83, k84, k85, k86, k87, k88, k89, k90, k91, k92, k93, k94, k95, k96, k97, k98⟩ := (tw_sp.rf q14s.1).1 m 36 km1 (by decide)
    refine tw_bi (tw_callV (M := mL_law_) (pc := 432) okX10_road dL_law__432 w_1319 rfl f69 [.int y4, .int y7, .int y10, .int y13] [] rfl rfl ⟨by decide, by decide⟩ (Nat.le_of_ble_eq_true rfl) (c2_X10_road d g τc h15 (tw_sp.rf q14s.1).1 m km1 y4 y7 y10 y13 o ko1) ((c + 900) - 20) ((n + 5000) - 120) (by omega) (by omega)) (fun r101 h100 q99 => ?_) (fun E h1 q => q.elim)
    obtain ⟨g9, τ9, s9, oq9, q99a⟩ := q99
    have kx2 := s9.2.1.k kx1 (by decide)
    have km2 := s9.2.1.k km1 (by decide)
    have ko2 := s9.2.1.k ko1 (by decide)
    have q14cI3 : ¬ (tw_ix (g.2 3) y4 ∧ tw_ix (g.2 3) y7) := by rw [← ok.2.1.2.2.2.1.trans ok.2.1.1]; exact q14cI
    rcases q99a with ⟨-, ht, eg9⟩ | ⟨z, -⟩ | ⟨z, -⟩
    · rw [eg9] at s9
      have ok9 : tw_ok5 d x m o g τ9 h100 := ⟨s9.1, ok.2.1, kx2, km2, ko2⟩
      have sp102 := tw_sp.rf ok9.1
      refine tw_istore [(6, .int r101), (5, .int 1), (0, .ref (d.2 98)), (1, .ref x), (2, .ref m), (3, .ref o), (4, .int (nI (5 * j)))] dL_law__435 (by decide) rfl ?_
      refine tw_goto 1391 dL_law__437 (by decide) ?_
      refine tw_lv [2, 3, 4, 5, 6] rfl ?_
      refine tw_less (c2 := c) (n2 := n) (by omega) (by omega) ?_
      exact J _ _ _ ok9
    · exact absurd z q14cI3
    · exact absurd z q14cI3
  · rw [q14e]
    have h49 := (tw_b678 ok.1 ok.2.2.1).1
    have kx1 := q14s.2.1.k ok.2.2.1 (by decide)
    have km1 := q14s.2.1.k ok.2.2.2.1 (by decide)
    have ko1 := q14s.2.1.k ok.2.2.2.2 (by decide)
    refine tw_istore [(5, .int 2), (0, .ref (d.2 98)), (1, .ref x), (2, .ref m), (3, .ref o), (4, .int (nI (5 * j)))] dL_law__405 (by decide) rfl ?_
    refine tw_aload_n 3 dL_law__407 rfl rfl ?_
    refine tw_aload_n 1 dL_law__408 rfl rfl ?_
    refine tw_iload 5 dL_law__409 rfl ?_
    refine tw_iconst (v := 1) dL_law__411 (by decide) ?_
    refine tw_iadd dL_law__412 ?_
    refine tw_nmi (fun v103 ev103 => ?_)
    have q104 : v103 = nI (5 * j + 1) := by rw [ev103]; exact tw_s1 _
    rw [q104]
    refine tw_ti (v := .int y4) (fun _ _ z => z.xs.2.2.2.2.2) dL_law__413 (vp_in_nI (by omega) (by omega)) (congrArg Value.int ey4) ?_
    refine tw_aload_n 1 dL_law__414 rfl rfl ?_
    refine tw_iload 5 dL_law__415 rfl ?_
    refine tw_iconst (v := 2) dL_law__417 (by decide) ?_
    refine tw_iadd dL_law__418 ?_
    refine tw_nmi (fun v105 ev105 => ?_)
    have q106 : v105 = nI (5 * j + 2) := by rw [ev105]; exact tw_s2 _
    rw [q106]
    refine tw_ti (v := .int y7) (fun _ _ z => z.xs.2.2.2.2.2) dL_law__419 (vp_in_nI (by omega) (by omega)) (congrArg Value.int ey7) ?_
    refine tw_aload_n 1 dL_law__420 rfl rfl ?_
    refine tw_iload 5 dL_law__421 rfl ?_
    refine tw_iconst (v := 3) dL_law__423 (by decide) ?_
    refine tw_iadd dL_law__424 ?_
    refine tw_nmi (fun v107 ev107 => ?_)
    have q108 : v107 = nI (5 * j + 3) := by rw [ev107]; exact tw_s3 _
    rw [q108]
    refine tw_ti (v := .int y10) (fun _ _ z => z.xs.2.2.2.2.2) dL_law__425 (vp_in_nI (by omega) (by omega)) (congrArg Value.int ey10) ?_
    refine tw_aload_n 1 dL_law__426 rfl rfl ?_
    refine tw_iload 5 dL_law__427 rfl ?_
    refine tw_iconst (v := 4) dL_law__429 (by decide) ?_
    refine tw_iadd dL_law__430 ?_
    refine tw_nmi (fun v109 ev109 => ?_)
    have q110 : v109 = nI (5 * j + 4) := by rw [ev109]; exact tw_s4 _
    rw [q110]
    refine tw_ti (v := .int y13) (fun _ _ z => z.xs.2.2.2.2.2) dL_law__431 (vp_in_nI (by omega) (by omega)) (congrArg Value.int ey13) ?_
    obtain ⟨e111, f112, th_113, td_114, ds_115, fr_116, ca_117, us_118, wo_119, cm_120, lc_121, lh_122, ld_123, rfl, k124, k125, k126, k127, k128, k129, k130, k131, k132, k133, k134, k135, k136, k137, k138, k139, k140, k141⟩ := (tw_sp.rf q14s.1).1 m 36 km1 (by decide)
    refine tw_bi (tw_callV (M := mL_law_) (pc := 432) okX10_road dL_law__432 w_1319 rfl f112 [.int y4, .int y7, .int y10, .int y13] [] rfl rfl ⟨by decide, by decide⟩ (Nat.le_of_ble_eq_true rfl) (c2_X10_road d g τc h15 (tw_sp.rf q14s.1).1 m km1 y4 y7 y10 y13 o ko1) ((c + 900) - 20) ((n + 5000) - 120) (by omega) (by omega)) (fun r144 h143 q142 => ?_) (fun E h1 q => q.elim)
    obtain ⟨g9, τ9, s9, oq9, q142a⟩ := q142
    have kx2 := s9.2.1.k kx1 (by decide)
    have km2 := s9.2.1.k km1 (by decide)
    have ko2 := s9.2.1.k ko1 (by decide)
    have q14cI3 : (tw_ix (g.2 3) y4 ∧ tw_ix (g.2 3) y7) := by rw [← ok.2.1.2.2.2.1.trans ok.2.1.1]; exact q14cI
    rcases q142a with ⟨z, -⟩ | ⟨-, -, ht, eg9⟩ | ⟨-, z, -⟩
    · exact absurd q14cI3 z
    · rw [eg9] at s9
      have ok9 : tw_ok5 d x m o g τ9 h143 := ⟨s9.1, ok.2.1, kx2, km2, ko2⟩
      have sp145 := tw_sp.rf ok9.1
      refine tw_istore [(6, .int r144), (5, .int 2), (0, .ref (d.2 98)), (1, .ref x), (2, .ref m), (3, .ref o), (4, .int (nI (5 * j)))] dL_law__435 (by decide) rfl ?_
      refine tw_goto 1391 dL_law__437 (by decide) ?_
      refine tw_lv [2, 3, 4, 5, 6] rfl ?_
      refine tw_less (c2 := c) (n2 := n) (by omega) (by omega) ?_
      exact J _ _ _ ok9
    · exact absurd z q14cR

set_option maxHeartbeats 4000000 in
set_option maxRecDepth 100000 in
theorem law_case_5 (d : tw_D) (x m o j c n : Nat) (Q : tw_O → tw_H → Prop) (hL : d.2 97 ≤ 2560) (hj : 5 * j + 5 ≤ d.2 97) (J : tw_J d x m o j Q c n) (g : tw_G) (τ : tw_K) (h : tw_H) (ok : tw_ok5 d x m o g τ h) : tw_W d mL_law_ Q 440 (tw_lv5 d x m o j) [] h (c + 900) (n + 5000) := by
  show tw_W d mL_law_ Q 440 [(0, .ref (d.2 98)), (1, .ref x), (2, .ref m), (3, .ref o), (4, .int (nI (5 * j)))] [] h (c + 900) (n + 5000)
  have sp1 := tw_sp.rf ok.1
  refine tw_aload_n 1 dL_law__440 rfl rfl ?_
  refine tw_aload_n 0 dL_law__441 rfl rfl ?_
  refine tw_iload 4 dL_law__442 rfl ?_
  refine tw_iconst (v := 1) dL_law__444 (by decide) ?_
  refine tw_iadd dL_law__445 ?_
  refine tw_nmi (fun v2 ev2 => ?_)
  have q3 : v2 = nI (5 * j + 1) := by rw [ev2]; exact tw_s1 _
  rw [q3]
  obtain ⟨y4, ey4⟩ : ∃ y : Int32, Int32.ofNat (d.2 (1000 + (nI (5 * j + 1)).toNatClampNeg)) = y := ⟨_, rfl⟩
  refine tw_ti (v := .int y4) (fun _ _ z => z.xs.2.2.2.2.2) dL_law__446 (vp_in_nI (by omega) (by omega)) (congrArg Value.int ey4) ?_
  refine tw_aload_n 0 dL_law__447 rfl rfl ?_
  refine tw_iload 4 dL_law__448 rfl ?_
  refine tw_iconst (v := 2) dL_law__450 (by decide) ?_
  refine tw_iadd dL_law__451 ?_
  refine tw_nmi (fun v5 ev5 => ?_)
  have q6 : v5 = nI (5 * j + 2) := by rw [ev5]; exact tw_s2 _
  rw [q6]
  obtain ⟨y7, ey7⟩ : ∃ y : Int32, Int32.ofNat (d.2 (1000 + (nI (5 * j + 2)).toNatClampNeg)) = y := ⟨_, rfl⟩
  refine tw_ti (v := .int y7) (fun _ _ z => z.xs.2.2.2.2.2) dL_law__452 (vp_in_nI (by omega) (by omega)) (congrArg Value.int ey7) ?_
  refine tw_aload_n 0 dL_law__453 rfl rfl ?_
  refine tw_iload 4 dL_law__454 rfl ?_
  refine tw_iconst (v := 3) dL_law__456 (by decide) ?_
  refine tw_iadd dL_law__457 ?_
  refine tw_nmi (fun v8 ev8 => ?_)
  have q9 : v8 = nI (5 * j + 3) := by rw [ev8]; exact tw_s3 _
  rw [q9]
  obtain ⟨y10, ey10⟩ : ∃ y : Int32, Int32.ofNat (d.2 (1000 + (nI (5 * j + 3)).toNatClampNeg)) = y := ⟨_, rfl⟩
  refine tw_ti (v := .int y10) (fun _ _ z => z.xs.2.2.2.2.2) dL_law__458 (vp_in_nI (by omega) (by omega)) (congrArg Value.int ey10) ?_
  refine tw_aload_n 3 dL_law__459 rfl rfl ?_
  refine tw_bi (tw_callSH (M := mL_law_) (pc := 460) okL_mine dL_law__460 w_607 [.ref x, .int y4, .int y7, .int y10, .ref o] [] rfl rfl ⟨by decide, by decide⟩ (Nat.le_of_ble_eq_true rfl) (c_L_mine d g τ h sp1.1 x ok.2.2.1 y4 y7 y10 o ok.2.2.2.2) ((c + 900) - 20) ((n + 5000) - 120) (by omega) (by omega)) (fun r13 h12 q11 => ?_) (fun E h1 q => q.elim)
  obtain ⟨g14, τ15, q11g, q11s⟩ := q11
  have ok16 := ok.go (by rw [q11g]; exact ok.2.1) q11s
  have sp17 := tw_sp.rf ok16.1
  refine tw_istore [(5, .int r13), (0, .ref (d.2 98)), (1, .ref x), (2, .ref m), (3, .ref o), (4, .int (nI (5 * j)))] dL_law__463 (by decide) rfl ?_
  refine tw_aload_n 3 dL_law__465 rfl rfl ?_
  refine tw_aload_n 1 dL_law__466 rfl rfl ?_
  refine tw_iload 5 dL_law__467 rfl ?_
  refine tw_iconst (v := 1) dL_law__469 (by decide) ?_
  refine tw_iadd dL_law__470 ?_
  refine tw_nmi (fun v18 ev18 => ?_)
  have q19 : v18 = nI (5 * j + 1) := by rw [ev18]; exact tw_s1 _
  rw [q19]
  refine tw_ti (v := .int y4) (fun _ _ z => z.xs.2.2.2.2.2) dL_law__471 (vp_in_nI (by omega) (by omega)) (congrArg Value.int ey4) ?_
  refine tw_aload_n 1 dL_law__472 rfl rfl ?_
  refine tw_iload 5 dL_law__473 rfl ?_
  refine tw_iconst (v := 2) dL_law__475 (by decide) ?_
  refine tw_iadd dL_law__476 ?_
  refine tw_nmi (fun v20 ev20 => ?_)
  have q21 : v20 = nI (5 * j + 2) := by rw [ev20]; exact tw_s2 _
  rw [q21]
  refine tw_ti (v := .int y7) (fun _ _ z => z.xs.2.2.2.2.2) dL_law__477 (vp_in_nI (by omega) (by omega)) (congrArg Value.int ey7) ?_
  refine tw_aload_n 1 dL_law__478 rfl rfl ?_
  refine tw_iload 5 dL_law__479 rfl ?_
  refine tw_iconst (v := 3) dL_law__481 (by decide) ?_
  refine tw_iadd dL_law__482 ?_
  refine tw_nmi (fun v22 ev22 => ?_)
  have q23 : v22 = nI (5 * j + 3) := by rw [ev22]; exact tw_s3 _
  rw [q23]
  refine tw_ti (v := .int y10) (fun _ _ z => z.xs.2.2.2.2.2) dL_law__483 (vp_in_nI (by omega) (by omega)) (congrArg Value.int ey10) ?_
  obtain ⟨e24, f25, th_26, td_27, ds_28, fr_29, ca_30, us_31, wo_32, cm_33, lc_34, lh_35, ld_36, rfl, k37, k38, k39, k40, k41, k42, k43, k44, k45, k46, k47, k48, k49, k50, k51, k52, k53, k54⟩ := sp17.1 m 36 ok16.2.2.2.1 (by decide)
  refine tw_bi (tw_callV (M := mL_law_) (pc := 484) okX10_mine dL_law__484 w_1323 rfl f25 [.int y4, .int y7, .int y10] [] rfl rfl ⟨by decide, by decide⟩ (Nat.le_of_ble_eq_true rfl) (c_X10_mine d g14 τ15 h12 sp17.1 m ok16.2.2.2.1 y4 y7 y10) ((c + 900) - 20) ((n + 5000) - 120) (by omega) (by omega)) (fun r57 h56 q55 => ?_) (fun E h1 q => q.elim)
  have q55s := q55
  have ok58 := ok16.go ok16.2.1 q55s
  have sp59 := tw_sp.rf ok58.1
  refine tw_istore [(6, .int r57), (5, .int r13), (0, .ref (d.2 98)), (1, .ref x), (2, .ref m), (3, .ref o), (4, .int (nI (5 * j)))] dL_law__487 (by decide) rfl ?_
  refine tw_goto 1391 dL_law__489 (by decide) ?_
  refine tw_lv [2, 3, 4, 5, 6] rfl ?_
  refine tw_less (c2 := c) (n2 := n) (by omega) (by omega) ?_
  exact J _ _ _ ok58

set_option maxHeartbeats 4000000 in
set_option maxRecDepth 100000 in
theorem law_case_6 (d : tw_D) (x m o j c n : Nat) (Q : tw_O → tw_H → Prop) (hL : d.2 97 ≤ 2560) (hj : 5 * j + 5 ≤ d.2 97) (J : tw_J d x m o j Q c n) (g : tw_G) (τ : tw_K) (h : tw_H) (ok : tw_ok5 d x m o g τ h) : tw_W d mL_law_ Q 492 (tw_lv5 d x m o j) [] h (c + 900) (n + 5000) := by
  show tw_W d mL_law_ Q 492 [(0, .ref (d.2 98)), (1, .ref x), (2, .ref m), (3, .ref o), (4, .int (nI (5 * j)))] [] h (c + 900) (n + 5000)
  have sp1 := tw_sp.rf ok.1
  refine tw_aload_n 1 dL_law__492 rfl rfl ?_
  refine tw_aload_n 0 dL_law__493 rfl rfl ?_
  refine tw_iload 4 dL_law__494 rfl ?_
  refine tw_iconst (v := 1) dL_law__496 (by decide) ?_
  refine tw_iadd dL_law__497 ?_
  refine tw_nmi (fun v2 ev2 => ?_)
  have q3 : v2 = nI (5 * j + 1) := by rw [ev2]; exact tw_s1 _
  rw [q3]
  obtain ⟨y4, ey4⟩ : ∃ y : Int32, Int32.ofNat (d.2 (1000 + (nI (5 * j + 1)).toNatClampNeg)) = y := ⟨_, rfl⟩
  refine tw_ti (v := .int y4) (fun _ _ z => z.xs.2.2.2.2.2) dL_law__498 (vp_in_nI (by omega) (by omega)) (congrArg Value.int ey4) ?_
  refine tw_aload_n 0 dL_law__499 rfl rfl ?_
  refine tw_iload 4 dL_law__500 rfl ?_
  refine tw_iconst (v := 2) dL_law__502 (by decide) ?_
  refine tw_iadd dL_law__503 ?_
  refine tw_nmi (fun v5 ev5 => ?_)
  have q6 : v5 = nI (5 * j + 2) := by rw [ev5]; exact tw_s2 _
  rw [q6]
  obtain ⟨y7, ey7⟩ : ∃ y : Int32, Int32.ofNat (d.2 (1000 + (nI (5 * j + 2)).toNatClampNeg)) = y := ⟨_, rfl⟩
  refine tw_ti (v := .int y7) (fun _ _ z => z.xs.2.2.2.2.2) dL_law__504 (vp_in_nI (by omega) (by omega)) (congrArg Value.int ey7) ?_
  refine tw_aload_n 0 dL_law__505 rfl rfl ?_
  refine tw_iload 4 dL_law__506 rfl ?_
  refine tw_iconst (v := 3) dL_law__508 (by decide) ?_
  refine tw_iadd dL_law__509 ?_
  refine tw_nmi (fun v8 ev8 => ?_)
  have q9 : v8 = nI (5 * j + 3) := by rw [ev8]; exact tw_s3 _
  rw [q9]
  obtain ⟨y10, ey10⟩ : ∃ y : Int32, Int32.ofNat (d.2 (1000 + (nI (5 * j + 3)).toNatClampNeg)) = y := ⟨_, rfl⟩
  refine tw_ti (v := .int y10) (fun _ _ z => z.xs.2.2.2.2.2) dL_law__510 (vp_in_nI (by omega) (by omega)) (congrArg Value.int ey10) ?_
  refine tw_aload_n 3 dL_law__511 rfl rfl ?_
  refine tw_bi (tw_callSH (M := mL_law_) (pc := 512) okL_use dL_law__512 w_616 [.ref x, .int y4, .int y7, .int y10, .ref o] [] rfl rfl ⟨by decide, by decide⟩ (Nat.le_of_ble_eq_true rfl) (c_L_use d g τ h sp1.1 x ok.2.2.1 y4 y7 y10 o ok.2.2.2.2) ((c + 900) - 20) ((n + 5000) - 120) (by omega) (by omega)) (fun r13 h12 q11 => ?_) (fun E h1 q => q.elim)
  obtain ⟨g14, τ15, q11g, q11s⟩ := q11
  have ok16 := ok.go (by rw [q11g]; exact ok.2.1) q11s
  have sp17 := tw_sp.rf ok16.1
  refine tw_istore [(5, .int r13), (0, .ref (d.2 98)), (1, .ref x), (2, .ref m), (3, .ref o), (4, .int (nI (5 * j)))] dL_law__515 (by decide) rfl ?_
  refine tw_aload_n 3 dL_law__517 rfl rfl ?_
  refine tw_aload_n 1 dL_law__518 rfl rfl ?_
  refine tw_iload 5 dL_law__519 rfl ?_
  refine tw_iconst (v := 1) dL_law__521 (by decide) ?_
  refine tw_iadd dL_law__522 ?_
  refine tw_nmi (fun v18 ev18 => ?_)
  have q19 : v18 = nI (5 * j + 1) := by rw [ev18]; exact tw_s1 _
  rw [q19]
  refine tw_ti (v := .int y4) (fun _ _ z => z.xs.2.2.2.2.2) dL_law__523 (vp_in_nI (by omega) (by omega)) (congrArg Value.int ey4) ?_
  refine tw_aload_n 1 dL_law__524 rfl rfl ?_
  refine tw_iload 5 dL_law__525 rfl ?_
  refine tw_iconst (v := 2) dL_law__527 (by decide) ?_
  refine tw_iadd dL_law__528 ?_
  refine tw_nmi (fun v20 ev20 => ?_)
  have q21 : v20 = nI (5 * j + 2) := by rw [ev20]; exact tw_s2 _
  rw [q21]
  refine tw_ti (v := .int y7) (fun _ _ z => z.xs.2.2.2.2.2) dL_law__529 (vp_in_nI (by omega) (by omega)) (congrArg Value.int ey7) ?_
  refine tw_aload_n 1 dL_law__530 rfl rfl ?_
  refine tw_iload 5 dL_law__531 rfl ?_
  refine tw_iconst (v := 3) dL_law__533 (by decide) ?_
  refine tw_iadd dL_law__534 ?_
  refine tw_nmi (fun v22 ev22 => ?_)
  have q23 : v22 = nI (5 * j + 3) := by rw [ev22]; exact tw_s3 _
  rw [q23]
  refine tw_ti (v := .int y10) (fun _ _ z => z.xs.2.2.2.2.2) dL_law__535 (vp_in_nI (by omega) (by omega)) (congrArg Value.int ey10) ?_
  obtain ⟨e24, f25, th_26, td_27, ds_28, fr_29, ca_30, us_31, wo_32, cm_33, lc_34, lh_35, ld_36, rfl, k37, k38, k39, k40, k41, k42, k43, k44, k45, k46, k47, k48, k49, k50, k51, k52, k53, k54⟩ := sp17.1 m 36 ok16.2.2.2.1 (by decide)
  refine tw_bi (tw_callV (M := mL_law_) (pc := 536) okX10_use dL_law__536 w_1328 rfl f25 [.int y4, .int y7, .int y10] [] rfl rfl ⟨by decide, by decide⟩ (Nat.le_of_ble_eq_true rfl) (c_X10_use d g14 τ15 h12 sp17.1 m ok16.2.2.2.1 y4 y7 y10) ((c + 900) - 20) ((n + 5000) - 120) (by omega) (by omega)) (fun r57 h56 q55 => ?_) (fun E h1 q => q.elim)
  have q55s := q55
  have ok58 := ok16.go ok16.2.1 q55s
  have sp59 := tw_sp.rf ok58.1
  refine tw_istore [(6, .int r57), (5, .int r13), (0, .ref (d.2 98)), (1, .ref x), (2, .ref m), (3, .ref o), (4, .int (nI (5 * j)))] dL_law__539 (by decide) rfl ?_
  refine tw_goto 1391 dL_law__541 (by decide) ?_
  refine tw_lv [2, 3, 4, 5, 6] rfl ?_
  refine tw_less (c2 := c) (n2 := n) (by omega) (by omega) ?_
  exact J _ _ _ ok58

set_option maxHeartbeats 4000000 in
set_option maxRecDepth 100000 in
theorem law_case_7 (d : tw_D) (x m o j c n : Nat) (Q : tw_O → tw_H → Prop) (hL : d.2 97 ≤ 2560) (hj : 5 * j + 5 ≤ d.2 97) (J : tw_J d x m o j Q c n) (g : tw_G) (τ : tw_K) (h : tw_H) (ok : tw_ok5 d x m o g τ h) : tw_W d mL_law_ Q 544 (tw_lv5 d x m o j) [] h (c + 900) (n + 5000) := by
  show tw_W d mL_law_ Q 544 [(0, .ref (d.2 98)), (1, .ref x), (2, .ref m), (3, .ref o), (4, .int (nI (5 * j)))] [] h (c + 900) (n + 5000)
  have sp1 := tw_sp.rf ok.1
  refine tw_aload_n 1 dL_law__544 rfl rfl ?_
  refine tw_aload_n 0 dL_law__545 rfl rfl ?_
  refine tw_iload 4 dL_law__546 rfl ?_
  refine tw_iconst (v := 1) dL_law__548 (by decide) ?_
  refine tw_iadd dL_law__549 ?_
  refine tw_nmi (fun v2 ev2 => ?_)
  have q3 : v2 = nI (5 * j + 1) := by rw [ev2]; exact tw_s1 _
  rw [q3]
  obtain ⟨y4, ey4⟩ : ∃ y : Int32, Int32.ofNat (d.2 (1000 + (nI (5 * j + 1)).toNatClampNeg)) = y := ⟨_, rfl⟩
  refine tw_ti (v := .int y4) (fun _ _ z => z.xs.2.2.2.2.2) dL_law__550 (vp_in_nI (by omega) (by omega)) (congrArg Value.int ey4) ?_
  refine tw_aload_n 0 dL_law__551 rfl rfl ?_
  refine tw_iload 4 dL_law__552 rfl ?_
  refine tw_iconst (v := 2) dL_law__554 (by decide) ?_
  refine tw_iadd dL_law__555 ?_
  refine tw_nmi (fun v5 ev5 => ?_)
  have q6 : v5 = nI (5 * j + 2) := by rw [ev5]; exact tw_s2 _
  rw [q6]
  obtain ⟨y7, ey7⟩ : ∃ y : Int32, Int32.ofNat (d.2 (1000 + (nI (5 * j + 2)).toNatClampNeg)) = y := ⟨_, rfl⟩
  refine tw_ti (v := .int y7) (fun _ _ z => z.xs.2.2.2.2.2) dL_law__556 (vp_in_nI (by omega) (by omega)) (congrArg Value.int ey7) ?_
  refine tw_aload_n 0 dL_law__557 rfl rfl ?_
  refine tw_iload 4 dL_law__558 rfl ?_
  refine tw_iconst (v := 3) dL_law__560 (by decide) ?_
  refine tw_iadd dL_law__561 ?_
  refine tw_nmi (fun v8 ev8 => ?_)
  have q9 : v8 = nI (5 * j + 3) := by rw [ev8]; exact tw_s3 _
  rw [q9]
  obtain ⟨y10, ey10⟩ : ∃ y : Int32, Int32.ofNat (d.2 (1000 + (nI (5 * j + 3)).toNatClampNeg)) = y := ⟨_, rfl⟩
  refine tw_ti (v := .int y10) (fun _ _ z => z.xs.2.2.2.2.2) dL_law__562 (vp_in_nI (by omega) (by omega)) (congrArg Value.int ey10) ?_
  refine tw_aload_n 3 dL_law__563 rfl rfl ?_
  refine tw_bi (tw_callSH (M := mL_law_) (pc := 564) okL_house dL_law__564 w_624 [.ref x, .int y4, .int y7, .int y10, .ref o] [] rfl rfl ⟨by decide, by decide⟩ (Nat.le_of_ble_eq_true rfl) (c_L_house d g τ h sp1.1 x ok.2.2.1 y4 y7 y10 o ok.2.2.2.2 ok.2.1.2.2.2.2.1) ((c + 900) - 20) ((n + 5000) - 120) (by omega) (by omega)) (fun r13 h12 q11 => ?_) (fun E h1 q => q.elim)
  rcases q11 with ⟨q11e, q11cI, q11cR, q11cL, q11n, τc, q11s⟩ | ⟨q11e, q11cI, τc, q11s⟩ | ⟨q11e, q11cI, q11cR, τc, q11s⟩ | ⟨q11e, q11cI, q11cR, q11cL, τc, q11s⟩
  · rw [q11e]
    have h49 := (tw_b678 ok.1 ok.2.2.1).1
    obtain ⟨gL, egL⟩ : ∃ z : tw_G, z = (tw_gI g 7 1) := ⟨_, rfl⟩
    rw [← egL] at q11s
    have gl3 : gL.2 3 = g.2 3 := by rw [egL]; rfl
    have gl4 : gL.2 4 = g.2 4 := by rw [egL]; rfl
    have gl5 : gL.2 5 = g.2 5 := by rw [egL]; rfl
    have gl9 : gL.2 9 = g.2 9 := by rw [egL]; rfl
    have gl22 : gL.2 22 = g.2 22 := by rw [egL]; rfl
    have kx1 := q11s.2.1.k ok.2.2.1 (by decide)
    have km1 := q11s.2.1.k ok.2.2.2.1 (by decide)
    have ko1 := q11s.2.1.k ok.2.2.2.2 (by decide)
    refine tw_istore [(5, .int 0), (0, .ref (d.2 98)), (1, .ref x), (2, .ref m), (3, .ref o), (4, .int (nI (5 * j)))] dL_law__567 (by decide) rfl ?_
    refine tw_aload_n 3 dL_law__569 rfl rfl ?_
    refine tw_aload_n 1 dL_law__570 rfl rfl ?_
    refine tw_iload 5 dL_law__571 rfl ?_
    refine tw_iconst (v := 1) dL_law__573 (by decide) ?_
    refine tw_iadd dL_law__574 ?_
    refine tw_nmi (fun v14 ev14 => ?_)
    have q15 : v14 = nI (5 * j + 1) := by rw [ev14]; exact tw_s1 _
    rw [q15]
    refine tw_ti (v := .int y4) (fun _ _ z => z.xs.2.2.2.2.2) dL_law__575 (vp_in_nI (by omega) (by omega)) (congrArg Value.int ey4) ?_
    refine tw_aload_n 1 dL_law__576 rfl rfl ?_
    refine tw_iload 5 dL_law__577 rfl ?_
    refine tw_iconst (v := 2) dL_law__579 (by decide) ?_
    refine tw_iadd dL_law__580 ?_
    refine tw_nmi (fun v16 ev16 => ?_)
    have q17 : v16 = nI (5 * j + 2) := by rw [ev16]; exact tw_s2 _
    rw [q17]
    refine tw_ti (v := .int y7) (fun _ _ z => z.xs.2.2.2.2.2) dL_law__581 (vp_in_nI (by omega) (by omega)) (congrArg Value.int ey7) ?_
    refine tw_aload_n 1 dL_law__582 rfl rfl ?_
    refine tw_iload 5 dL_law__583 rfl ?_
    refine tw_iconst (v := 3) dL_law__585 (by decide) ?_
    refine tw_iadd dL_law__586 ?_
    refine tw_nmi (fun v18 ev18 => ?_)
    have q19 : v18 = nI (5 * j + 3) := by rw [ev18]; exact tw_s3 _
    rw [q19]
    refine tw_ti (v := .int y10) (fun _ _ z => z.xs.2.2.2.2.2) dL_law__587 (vp_in_nI (by omega) (by omega)) (congrArg Value.int ey10) ?_
    obtain ⟨e20, f21, th_22, td_23, ds_24, fr_25, ca_26, us_27, wo_28, cm_29, lc_30, lh_31, ld_32, rfl, k33, k34, k35, k36, k37, k38, k39, k40, k41, k42, k43, k44, k45, k46, k47, k48, k49, k50⟩ := (tw_sp.rf q11s.1).1 m 36 km1 (by decide)
    refine tw_bi (tw_callV (M := mL_law_) (pc := 588) okX10_house dL_law__588 w_1332 rfl f21 [.int y4, .int y7, .int y10] [] rfl rfl ⟨by decide, by decide⟩ (Nat.le_of_ble_eq_true rfl) (c2_X10_house d gL τc h12 (tw_sp.rf q11s.1).1 m km1 y4 y7 y10 o ko1) (((c + 900) - 20) - 10) (((n + 5000) - 120) - 60) (by omega) (by omega)) (fun r53 h52 q51 => ?_) (fun E h1 q => q.elim)
    obtain ⟨g9, τ9, s9, oq9, q51a⟩ := q51
    have kx2 := s9.2.1.k kx1 (by decide)
    have km2 := s9.2.1.k km1 (by decide)
    have ko2 := s9.2.1.k ko1 (by decide)
    have q11cI3 : tw_ix (gL.2 3) y4 := by rw [gl3, ← ok.2.1.2.2.2.1.trans ok.2.1.1]; exact q11cI
    have q11cL3 : gL.2 4 < 6 := by rw [gl4, ← ok.2.1.2.1]; exact q11cL
    rcases q51a with ⟨z, -⟩ | ⟨-, z, -⟩ | ⟨-, -, z, -⟩ | ⟨-, -, -, hr2, ht, gk9⟩
    · exact absurd q11cI3 z
    · exact absurd q11cR z
    · exact absurd q11cL3 z
    · rw [hr2]
      have ok9 : tw_ok5 d x m o g9 τ9 h52 := ⟨s9.1, (by rw [egL] at gk9; exact ok.2.1.house gk9), kx2, km2, ko2⟩
      have hlg : tw_lg (h52 o) = (nI (g.2 1)).toInt64 := by rw [oq9]; exact q11n
      have sp54 := tw_sp.rf ok9.1
      refine tw_istore [(6, .int (nI (gL.2 4))), (5, .int 0), (0, .ref (d.2 98)), (1, .ref x), (2, .ref m), (3, .ref o), (4, .int (nI (5 * j)))] dL_law__591 (by decide) rfl ?_
      refine tw_goto 1391 dL_law__593 (by decide) ?_
      refine tw_lv [2, 3, 4, 5, 6] rfl ?_
      refine tw_less (c2 := c) (n2 := n) (by omega) (by omega) ?_
      exact J _ _ _ ok9
  · rw [q11e]
    have h49 := (tw_b678 ok.1 ok.2.2.1).1
    have kx1 := q11s.2.1.k ok.2.2.1 (by decide)
    have km1 := q11s.2.1.k ok.2.2.2.1 (by decide)
    have ko1 := q11s.2.1.k ok.2.2.2.2 (by decide)
    refine tw_istore [(5, .int 1), (0, .ref (d.2 98)), (1, .ref x), (2, .ref m), (3, .ref o), (4, .int (nI (5 * j)))] dL_law__567 (by decide) rfl ?_
    refine tw_aload_n 3 dL_law__569 rfl rfl ?_
    refine tw_aload_n 1 dL_law__570 rfl rfl ?_
    refine tw_iload 5 dL_law__571 rfl ?_
    refine tw_iconst (v := 1) dL_law__573 (by decide) ?_
    refine tw_iadd dL_law__574 ?_
    refine tw_nmi (fun v55 ev55 => ?_)
    have q56 : v55 = nI (5 * j + 1) := by rw [ev55]; exact tw_s1 _
    rw [q56]
    refine tw_ti (v := .int y4) (fun _ _ z => z.xs.2.2.2.2.2) dL_law__575 (vp_in_nI (by omega) (by omega)) (congrArg Value.int ey4) ?_
    refine tw_aload_n 1 dL_law__576 rfl rfl ?_
    refine tw_iload 5 dL_law__577 rfl ?_
    refine tw_iconst (v := 2) dL_law__579 (by decide) ?_
    refine tw_iadd dL_law__580 ?_
    refine tw_nmi (fun v57 ev57 => ?_)
    have q58 : v57 = nI (5 * j + 2) := by rw [ev57]; exact tw_s2 _
    rw [q58]
    refine tw_ti (v := .int y7) (fun _ _ z => z.xs.2.2.2.2.2) dL_law__581 (vp_in_nI (by omega) (by omega)) (congrArg Value.int ey7) ?_
    refine tw_aload_n 1 dL_law__582 rfl rfl ?_
    refine tw_iload 5 dL_law__583 rfl ?_
    refine tw_iconst (v := 3) dL_law__585 (by decide) ?_
    refine tw_iadd dL_law__586 ?_
    refine tw_nmi (fun v59 ev59 => ?_)
    have q60 : v59 = nI (5 * j + 3) := by rw [ev59]; exact tw_s3 _
    rw [q60]
    refine tw_ti (v := .int y10) (fun _ _ z => z.xs.2.2.2.2.2) dL_law__587 (vp_in_nI (by omega) (by omega)) (congrArg Value.int ey10) ?_
    obtain ⟨e61, f62, th_63, td_64, ds_65, fr_66, ca_67, us_68, wo_69, cm_70, lc_71, lh_72, ld_73, rfl, k74, k75, k76, k77, k78, k79, k80, k81, k82, k83, k84, k85, k86, k87, k88, k89, k90, k91⟩ := (tw_sp.rf q11s.1).1 m 36 km1 (by decide)
    refine tw_bi (tw_callV (M := mL_law_) (pc := 588) okX10_house dL_law__588 w_1332 rfl f62 [.int y4, .int y7, .int y10] [] rfl rfl ⟨by decide, by decide⟩ (Nat.le_of_ble_eq_true rfl) (c2_X10_house d g τc h12 (tw_sp.rf q11s.1).1 m km1 y4 y7 y10 o ko1) (((c + 900) - 20) - 10) (((n + 5000) - 120) - 60) (by omega) (by omega)) (fun r94 h93 q92 => ?_) (fun E h1 q => q.elim)
    obtain ⟨g9, τ9, s9, oq9, q92a⟩ := q92
    have kx2 := s9.2.1.k kx1 (by decide)
    have km2 := s9.2.1.k km1 (by decide)
    have ko2 := s9.2.1.k ko1 (by decide)
    have q11cI3 : ¬ tw_ix (g.2 3) y4 := by rw [← ok.2.1.2.2.2.1.trans ok.2.1.1]; exact q11cI
    rcases q92a with ⟨-, ht, eg9⟩ | ⟨z, -⟩ | ⟨z, -⟩ | ⟨z, -⟩
    · rw [eg9] at s9
      have ok9 : tw_ok5 d x m o g τ9 h93 := ⟨s9.1, ok.2.1, kx2, km2, ko2⟩
      have sp95 := tw_sp.rf ok9.1
      refine tw_istore [(6, .int r94), (5, .int 1), (0, .ref (d.2 98)), (1, .ref x), (2, .ref m), (3, .ref o), (4, .int (nI (5 * j)))] dL_law__591 (by decide) rfl ?_
      refine tw_goto 1391 dL_law__593 (by decide) ?_
      refine tw_lv [2, 3, 4, 5, 6] rfl ?_
      refine tw_less (c2 := c) (n2 := n) (by omega) (by omega) ?_
      exact J _ _ _ ok9
    · exact absurd z q11cI3
    · exact absurd z q11cI3
    · exact absurd z q11cI3
  · rw [q11e]
    have h49 := (tw_b678 ok.1 ok.2.2.1).1
    have kx1 := q11s.2.1.k ok.2.2.1 (by decide)
    have km1 := q11s.2.1.k ok.2.2.2.1 (by decide)
    have ko1 := q11s.2.1.k ok.2.2.2.2 (by decide)
    refine tw_istore [(5, .int 2), (0, .ref (d.2 98)), (1, .ref x), (2, .ref m), (3, .ref o), (4, .int (nI (5 * j)))] dL_law__567 (by decide) rfl ?_
    refine tw_aload_n 3 dL_law__569 rfl rfl ?_
    refine tw_aload_n 1 dL_law__570 rfl rfl ?_
    refine tw_iload 5 dL_law__571 rfl ?_
    refine tw_iconst (v := 1) dL_law__573 (by decide) ?_
    refine tw_iadd dL_law__574 ?_
    refine tw_nmi (fun v96 ev96 => ?_)
    have q97 : v96 = nI (5 * j + 1) := by rw [ev96]; exact tw_s1 _
    rw [q97]
    refine tw_ti (v := .int y4) (fun _ _ z => z.xs.2.2.2.2.2) dL_law__575 (vp_in_nI (by omega) (by omega)) (congrArg Value.int ey4) ?_
    refine tw_aload_n 1 dL_law__576 rfl rfl ?_
    refine tw_iload 5 dL_law__577 rfl ?_
    refine tw_iconst (v := 2) dL_law__579 (by decide) ?_
    refine tw_iadd dL_law__580 ?_
    refine tw_nmi (fun v98 ev98 => ?_)
    have q99 : v98 = nI (5 * j + 2) := by rw [ev98]; exact tw_s2 _
    rw [q99]
    refine tw_ti (v := .int y7) (fun _ _ z => z.xs.2.2.2.2.2) dL_law__581 (vp_in_nI (by omega) (by omega)) (congrArg Value.int ey7) ?_
    refine tw_aload_n 1 dL_law__582 rfl rfl ?_
    refine tw_iload 5 dL_law__583 rfl ?_
    refine tw_iconst (v := 3) dL_law__585 (by decide) ?_
    refine tw_iadd dL_law__586 ?_
    refine tw_nmi (fun v100 ev100 => ?_)
    have q101 : v100 = nI (5 * j + 3) := by rw [ev100]; exact tw_s3 _
    rw [q101]
    refine tw_ti (v := .int y10) (fun _ _ z => z.xs.2.2.2.2.2) dL_law__587 (vp_in_nI (by omega) (by omega)) (congrArg Value.int ey10) ?_
    obtain ⟨e102, f103, th_104, td_105, ds_106, fr_107, ca_108, us_109, wo_110, cm_111, lc_112, lh_113, ld_114, rfl, k115, k116, k117, k118, k119, k120, k121, k122, k123, k124, k125, k126, k127, k128, k129, k130, k131, k132⟩ := (tw_sp.rf q11s.1).1 m 36 km1 (by decide)
    refine tw_bi (tw_callV (M := mL_law_) (pc := 588) okX10_house dL_law__588 w_1332 rfl f103 [.int y4, .int y7, .int y10] [] rfl rfl ⟨by decide, by decide⟩ (Nat.le_of_ble_eq_true rfl) (c2_X10_house d g τc h12 (tw_sp.rf q11s.1).1 m km1 y4 y7 y10 o ko1) (((c + 900) - 20) - 10) (((n + 5000) - 120) - 60) (by omega) (by omega)) (fun r135 h134 q133 => ?_) (fun E h1 q => q.elim)
    obtain ⟨g9, τ9, s9, oq9, q133a⟩ := q133
    have kx2 := s9.2.1.k kx1 (by decide)
    have km2 := s9.2.1.k km1 (by decide)
    have ko2 := s9.2.1.k ko1 (by decide)
    have q11cI3 : tw_ix (g.2 3) y4 := by rw [← ok.2.1.2.2.2.1.trans ok.2.1.1]; exact q11cI
    rcases q133a with ⟨z, -⟩ | ⟨-, -, ht, eg9⟩ | ⟨-, z, -⟩ | ⟨-, z, -⟩
    · exact absurd q11cI3 z
    · rw [eg9] at s9
      have ok9 : tw_ok5 d x m o g τ9 h134 := ⟨s9.1, ok.2.1, kx2, km2, ko2⟩
      have sp136 := tw_sp.rf ok9.1
      refine tw_istore [(6, .int r135), (5, .int 2), (0, .ref (d.2 98)), (1, .ref x), (2, .ref m), (3, .ref o), (4, .int (nI (5 * j)))] dL_law__591 (by decide) rfl ?_
      refine tw_goto 1391 dL_law__593 (by decide) ?_
      refine tw_lv [2, 3, 4, 5, 6] rfl ?_
      refine tw_less (c2 := c) (n2 := n) (by omega) (by omega) ?_
      exact J _ _ _ ok9
    · exact absurd z q11cR
    · exact absurd z q11cR
  · rw [q11e]
    have h49 := (tw_b678 ok.1 ok.2.2.1).1
    have kx1 := q11s.2.1.k ok.2.2.1 (by decide)
    have km1 := q11s.2.1.k ok.2.2.2.1 (by decide)
    have ko1 := q11s.2.1.k ok.2.2.2.2 (by decide)
    refine tw_istore [(5, .int 3), (0, .ref (d.2 98)), (1, .ref x), (2, .ref m), (3, .ref o), (4, .int (nI (5 * j)))] dL_law__567 (by decide) rfl ?_
    refine tw_aload_n 3 dL_law__569 rfl rfl ?_
    refine tw_aload_n 1 dL_law__570 rfl rfl ?_
    refine tw_iload 5 dL_law__571 rfl ?_
    refine tw_iconst (v := 1) dL_law__573 (by decide) ?_
    refine tw_iadd dL_law__574 ?_
    refine tw_nmi (fun v137 ev137 => ?_)
    have q138 : v137 = nI (5 * j + 1) := by rw [ev137]; exact tw_s1 _
    rw [q138]
    refine tw_ti (v := .int y4) (fun _ _ z => z.xs.2.2.2.2.2) dL_law__575 (vp_in_nI (by omega) (by omega)) (congrArg Value.int ey4) ?_
    refine tw_aload_n 1 dL_law__576 rfl rfl ?_
    refine tw_iload 5 dL_law__577 rfl ?_
    refine tw_iconst (v := 2) dL_law__579 (by decide) ?_
    refine tw_iadd dL_law__580 ?_
    refine tw_nmi (fun v139 ev139 => ?_)
    have q140 : v139 = nI (5 * j + 2) := by rw [ev139]; exact tw_s2 _
    rw [q140]
    refine tw_ti (v := .int y7) (fun _ _ z => z.xs.2.2.2.2.2) dL_law__581 (vp_in_nI (by omega) (by omega)) (congrArg Value.int ey7) ?_
    refine tw_aload_n 1 dL_law__582 rfl rfl ?_
    refine tw_iload 5 dL_law__583 rfl ?_
    refine tw_iconst (v := 3) dL_law__585 (by decide) ?_
    refine tw_iadd dL_law__586 ?_
    refine tw_nmi (fun v141 ev141 => ?_)
    have q142 : v141 = nI (5 * j + 3) := by rw [ev141]; exact tw_s3 _
    rw [q142]
    refine tw_ti (v := .int y10) (fun _ _ z => z.xs.2.2.2.2.2) dL_law__587 (vp_in_nI (by omega) (by omega)) (congrArg Value.int ey10) ?_
    obtain ⟨e143, f144, th_145, td_146, ds_147, fr_148, ca_149, us_150, wo_151, cm_152, lc_153, lh_154, ld_155, rfl, k156, k157, k158, k159, k160, k161, k162, k163, k164, k165, k166, k167, k168, k169, k170, k171, k172, k173⟩ := (tw_sp.rf q11s.1).1 m 36 km1 (by decide)
    refine tw_bi (tw_callV (M := mL_law_) (pc := 588) okX10_house dL_law__588 w_1332 rfl f144 [.int y4, .int y7, .int y10] [] rfl rfl ⟨by decide, by decide⟩ (Nat.le_of_ble_eq_true rfl) (c2_X10_house d g τc h12 (tw_sp.rf q11s.1).1 m km1 y4 y7 y10 o ko1) (((c + 900) - 20) - 10) (((n + 5000) - 120) - 60) (by omega) (by omega)) (fun r176 h175 q174 => ?_) (fun E h1 q => q.elim)
    obtain ⟨g9, τ9, s9, oq9, q174a⟩ := q174
    have kx2 := s9.2.1.k kx1 (by decide)
    have km2 := s9.2.1.k km1 (by decide)
    have ko2 := s9.2.1.k ko1 (by decide)
    have q11cI3 : tw_ix (g.2 3) y4 := by rw [← ok.2.1.2.2.2.1.trans ok.2.1.1]; exact q11cI
    have q11cL3 : ¬ g.2 4 < 6 := by rw [← ok.2.1.2.1]; exact q11cL
    rcases q174a with ⟨z, -⟩ | ⟨-, z, -⟩ | ⟨-, -, -, ht, eg9⟩ | ⟨-, -, z, -⟩
    · exact absurd q11cI3 z
    · exact absurd q11cR z
    · rw [eg9] at s9
      have ok9 : tw_ok5 d x m o g τ9 h175 := ⟨s9.1, ok.2.1, kx2, km2, ko2⟩
      have sp177 := tw_sp.rf ok9.1
      refine tw_istore [(6, .int r176), (5, .int 3), (0, .ref (d.2 98)), (1, .ref x), (2, .ref m), (3, .ref o), (4, .int (nI (5 * j)))] dL_law__591 (by decide) rfl ?_
      refine tw_goto 1391 dL_law__593 (by decide) ?_
      refine tw_lv [2, 3, 4, 5, 6] rfl ?_
      refine tw_less (c2 := c) (n2 := n) (by omega) (by omega) ?_
      exact J _ _ _ ok9
    · exact absurd z q11cL3

set_option maxHeartbeats 4000000 in
set_option maxRecDepth 100000 in
theorem law_case_8 (d : tw_D) (x m o j c n : Nat) (Q : tw_O → tw_H → Prop) (hL : d.2 97 ≤ 2560) (hj : 5 * j + 5 ≤ d.2 97) (J : tw_J d x m o j Q c n) (g : tw_G) (τ : tw_K) (h : tw_H) (ok : tw_ok5 d x m o g τ h) : tw_W d mL_law_ Q 596 (tw_lv5 d x m o j) [] h (c + 900) (n + 5000) := by
  show tw_W d mL_law_ Q 596 [(0, .ref (d.2 98)), (1, .ref x), (2, .ref m), (3, .ref o), (4, .int (nI (5 * j)))] [] h (c + 900) (n + 5000)
  have sp1 := tw_sp.rf ok.1
  refine tw_aload_n 1 dL_law__596 rfl rfl ?_
  refine tw_aload_n 0 dL_law__597 rfl rfl ?_
  refine tw_iload 4 dL_law__598 rfl ?_
  refine tw_iconst (v := 1) dL_law__600 (by decide) ?_
  refine tw_iadd dL_law__601 ?_
  refine tw_nmi (fun v2 ev2 => ?_)
  have q3 : v2 = nI (5 * j + 1) := by rw [ev2]; exact tw_s1 _
  rw [q3]
  obtain ⟨y4, ey4⟩ : ∃ y : Int32, Int32.ofNat (d.2 (1000 + (nI (5 * j + 1)).toNatClampNeg)) = y := ⟨_, rfl⟩
  refine tw_ti (v := .int y4) (fun _ _ z => z.xs.2.2.2.2.2) dL_law__602 (vp_in_nI (by omega) (by omega)) (congrArg Value.int ey4) ?_
  refine tw_aload_n 0 dL_law__603 rfl rfl ?_
  refine tw_iload 4 dL_law__604 rfl ?_
  refine tw_iconst (v := 2) dL_law__606 (by decide) ?_
  refine tw_iadd dL_law__607 ?_
  refine tw_nmi (fun v5 ev5 => ?_)
  have q6 : v5 = nI (5 * j + 2) := by rw [ev5]; exact tw_s2 _
  rw [q6]
  obtain ⟨y7, ey7⟩ : ∃ y : Int32, Int32.ofNat (d.2 (1000 + (nI (5 * j + 2)).toNatClampNeg)) = y := ⟨_, rfl⟩
  refine tw_ti (v := .int y7) (fun _ _ z => z.xs.2.2.2.2.2) dL_law__608 (vp_in_nI (by omega) (by omega)) (congrArg Value.int ey7) ?_
  refine tw_aload_n 0 dL_law__609 rfl rfl ?_
  refine tw_iload 4 dL_law__610 rfl ?_
  refine tw_iconst (v := 3) dL_law__612 (by decide) ?_
  refine tw_iadd dL_law__613 ?_
  refine tw_nmi (fun v8 ev8 => ?_)
  have q9 : v8 = nI (5 * j + 3) := by rw [ev8]; exact tw_s3 _
  rw [q9]
  obtain ⟨y10, ey10⟩ : ∃ y : Int32, Int32.ofNat (d.2 (1000 + (nI (5 * j + 3)).toNatClampNeg)) = y := ⟨_, rfl⟩
  refine tw_ti (v := .int y10) (fun _ _ z => z.xs.2.2.2.2.2) dL_law__614 (vp_in_nI (by omega) (by omega)) (congrArg Value.int ey10) ?_
  refine tw_aload_n 3 dL_law__615 rfl rfl ?_
  refine tw_bi (tw_callSH (M := mL_law_) (pc := 616) okL_change dL_law__616 w_657 [.ref x, .int y4, .int y7, .int y10, .ref o] [] rfl rfl ⟨by decide, by decide⟩ (Nat.le_of_ble_eq_true rfl) (c_L_change d g τ h sp1.1 x ok.2.2.1 y4 y7 y10 o ok.2.2.2.2) ((c + 900) - 20) ((n + 5000) - 120) (by omega) (by omega)) (fun r13 h12 q11 => ?_) (fun E h1 q => q.elim)
  obtain ⟨g14, τ15, q11g, q11s⟩ := q11
  have ok16 := ok.go (by rw [q11g]; exact ok.2.1) q11s
  have sp17 := tw_sp.rf ok16.1
  refine tw_istore [(5, .int r13), (0, .ref (d.2 98)), (1, .ref x), (2, .ref m), (3, .ref o), (4, .int (nI (5 * j)))] dL_law__619 (by decide) rfl ?_
  refine tw_aload_n 3 dL_law__621 rfl rfl ?_
  refine tw_aload_n 1 dL_law__622 rfl rfl ?_
  refine tw_iload 5 dL_law__623 rfl ?_
  refine tw_iconst (v := 1) dL_law__625 (by decide) ?_
  refine tw_iadd dL_law__626 ?_
  refine tw_nmi (fun v18 ev18 => ?_)
  have q19 : v18 = nI (5 * j + 1) := by rw [ev18]; exact tw_s1 _
  rw [q19]
  refine tw_ti (v := .int y4) (fun _ _ z => z.xs.2.2.2.2.2) dL_law__627 (vp_in_nI (by omega) (by omega)) (congrArg Value.int ey4) ?_
  refine tw_aload_n 1 dL_law__628 rfl rfl ?_
  refine tw_iload 5 dL_law__629 rfl ?_
  refine tw_iconst (v := 2) dL_law__631 (by decide) ?_
  refine tw_iadd dL_law__632 ?_
  refine tw_nmi (fun v20 ev20 => ?_)
  have q21 : v20 = nI (5 * j + 2) := by rw [ev20]; exact tw_s2 _
  rw [q21]
  refine tw_ti (v := .int y7) (fun _ _ z => z.xs.2.2.2.2.2) dL_law__633 (vp_in_nI (by omega) (by omega)) (congrArg Value.int ey7) ?_
  refine tw_aload_n 1 dL_law__634 rfl rfl ?_
  refine tw_iload 5 dL_law__635 rfl ?_
  refine tw_iconst (v := 3) dL_law__637 (by decide) ?_
  refine tw_iadd dL_law__638 ?_
  refine tw_nmi (fun v22 ev22 => ?_)
  have q23 : v22 = nI (5 * j + 3) := by rw [ev22]; exact tw_s3 _
  rw [q23]
  refine tw_ti (v := .int y10) (fun _ _ z => z.xs.2.2.2.2.2) dL_law__639 (vp_in_nI (by omega) (by omega)) (congrArg Value.int ey10) ?_
  obtain ⟨e24, f25, th_26, td_27, ds_28, fr_29, ca_30, us_31, wo_32, cm_33, lc_34, lh_35, ld_36, rfl, k37, k38, k39, k40, k41, k42, k43, k44, k45, k46, k47, k48, k49, k50, k51, k52, k53, k54⟩ := sp17.1 m 36 ok16.2.2.2.1 (by decide)
  refine tw_bi (tw_callV (M := mL_law_) (pc := 640) okX10_change dL_law__640 w_1358 rfl f25 [.int y4, .int y7, .int y10] [] rfl rfl ⟨by decide, by decide⟩ (Nat.le_of_ble_eq_true rfl) (c_X10_change d g14 τ15 h12 sp17.1 m ok16.2.2.2.1 y4 y7 y10) ((c + 900) - 20) ((n + 5000) - 120) (by omega) (by omega)) (fun r57 h56 q55 => ?_) (fun E h1 q => q.elim)
  have q55s := q55
  have ok58 := ok16.go ok16.2.1 q55s
  have sp59 := tw_sp.rf ok58.1
  refine tw_istore [(6, .int r57), (5, .int r13), (0, .ref (d.2 98)), (1, .ref x), (2, .ref m), (3, .ref o), (4, .int (nI (5 * j)))] dL_law__643 (by decide) rfl ?_
  refine tw_goto 1391 dL_law__645 (by decide) ?_
  refine tw_lv [2, 3, 4, 5, 6] rfl ?_
  refine tw_less (c2 := c) (n2 := n) (by omega) (by omega) ?_
  exact J _ _ _ ok58

set_option maxHeartbeats 4000000 in
set_option maxRecDepth 100000 in
theorem law_case_9 (d : tw_D) (x m o j c n : Nat) (Q : tw_O → tw_H → Prop) (hL : d.2 97 ≤ 2560) (hj : 5 * j + 5 ≤ d.2 97) (J : tw_J d x m o j Q c n) (g : tw_G) (τ : tw_K) (h : tw_H) (ok : tw_ok5 d x m o g τ h) : tw_W d mL_law_ Q 648 (tw_lv5 d x m o j) [] h (c + 900) (n + 5000) := by
  show tw_W d mL_law_ Q 648 [(0, .ref (d.2 98)), (1, .ref x), (2, .ref m), (3, .ref o), (4, .int (nI (5 * j)))] [] h (c + 900) (n + 5000)
  have sp1 := tw_sp.rf ok.1
  refine tw_aload_n 1 dL_law__648 rfl rfl ?_
  refine tw_aload_n 0 dL_law__649 rfl rfl ?_
  refine tw_iload 4 dL_law__650 rfl ?_
  refine tw_iconst (v := 1) dL_law__652 (by decide) ?_
  refine tw_iadd dL_law__653 ?_
  refine tw_nmi (fun v2 ev2 => ?_)
  have q3 : v2 = nI (5 * j + 1) := by rw [ev2]; exact tw_s1 _
  rw [q3]
  obtain ⟨y4, ey4⟩ : ∃ y : Int32, Int32.ofNat (d.2 (1000 + (nI (5 * j + 1)).toNatClampNeg)) = y := ⟨_, rfl⟩
  refine tw_ti (v := .int y4) (fun _ _ z => z.xs.2.2.2.2.2) dL_law__654 (vp_in_nI (by omega) (by omega)) (congrArg Value.int ey4) ?_
  refine tw_aload_n 0 dL_law__655 rfl rfl ?_
  refine tw_iload 4 dL_law__656 rfl ?_
  refine tw_iconst (v := 2) dL_law__658 (by decide) ?_
  refine tw_iadd dL_law__659 ?_
  refine tw_nmi (fun v5 ev5 => ?_)
  have q6 : v5 = nI (5 * j + 2) := by rw [ev5]; exact tw_s2 _
  rw [q6]
  obtain ⟨y7, ey7⟩ : ∃ y : Int32, Int32.ofNat (d.2 (1000 + (nI (5 * j + 2)).toNatClampNeg)) = y := ⟨_, rfl⟩
  refine tw_ti (v := .int y7) (fun _ _ z => z.xs.2.2.2.2.2) dL_law__660 (vp_in_nI (by omega) (by omega)) (congrArg Value.int ey7) ?_
  refine tw_aload_n 3 dL_law__661 rfl rfl ?_
  refine tw_bi (tw_callSH (M := mL_law_) (pc := 662) okL_send dL_law__662 w_671 [.ref x, .int y4, .int y7, .ref o] [] rfl rfl ⟨by decide, by decide⟩ (Nat.le_of_ble_eq_true rfl) (c_L_send d g τ h sp1.1 x ok.2.2.1 y4 y7 o ok.2.2.2.2) ((c + 900) - 20) ((n + 5000) - 120) (by omega) (by omega)) (fun r10 h9 q8 => ?_) (fun E h1 q => q.elim)
  obtain ⟨g11, τ12, q8g, q8s⟩ := q8
  have ok13 := ok.go (by rw [q8g]; exact ok.2.1) q8s
  have sp14 := tw_sp.rf ok13.1
  refine tw_istore [(5, .int r10), (0, .ref (d.2 98)), (1, .ref x), (2, .ref m), (3, .ref o), (4, .int (nI (5 * j)))] dL_law__665 (by decide) rfl ?_
  refine tw_aload_n 3 dL_law__667 rfl rfl ?_
  refine tw_aload_n 1 dL_law__668 rfl rfl ?_
  refine tw_iload 5 dL_law__669 rfl ?_
  refine tw_iconst (v := 1) dL_law__671 (by decide) ?_
  refine tw_iadd dL_law__672 ?_
  refine tw_nmi (fun v15 ev15 => ?_)
  have q16 : v15 = nI (5 * j + 1) := by rw [ev15]; exact tw_s1 _
  rw [q16]
  refine tw_ti (v := .int y4) (fun _ _ z => z.xs.2.2.2.2.2) dL_law__673 (vp_in_nI (by omega) (by omega)) (congrArg Value.int ey4) ?_
  refine tw_aload_n 1 dL_law__674 rfl rfl ?_
  refine tw_iload 5 dL_law__675 rfl ?_
  refine tw_iconst (v := 2) dL_law__677 (by decide) ?_
  refine tw_iadd dL_law__678 ?_
  refine tw_nmi (fun v17 ev17 => ?_)
  have q18 : v17 = nI (5 * j + 2) := by rw [ev17]; exact tw_s2 _
  rw [q18]
  refine tw_ti (v := .int y7) (fun _ _ z => z.xs.2.2.2.2.2) dL_law__679 (vp_in_nI (by omega) (by omega)) (congrArg Value.int ey7) ?_
  obtain ⟨e19, f20, th_21, td_22, ds_23, fr_24, ca_25, us_26, wo_27, cm_28, lc_29, lh_30, ld_31, rfl, k32, k33, k34, k35, k36, k37, k38, k39, k40, k41, k42, k43, k44, k45, k46, k47, k48, k49⟩ := sp14.1 m 36 ok13.2.2.2.1 (by decide)
  refine tw_bi (tw_callV (M := mL_law_) (pc := 680) okX10_send dL_law__680 w_1378 rfl f20 [.int y4, .int y7] [] rfl rfl ⟨by decide, by decide⟩ (Nat.le_of_ble_eq_true rfl) (c_X10_send d g11 τ12 h9 sp14.1 m ok13.2.2.2.1 y4 y7) ((c + 900) - 20) ((n + 5000) - 120) (by omega) (by omega)) (fun r52 h51 q50 => ?_) (fun E h1 q => q.elim)
  have q50s := q50
  have ok53 := ok13.go ok13.2.1 q50s
  have sp54 := tw_sp.rf ok53.1
  refine tw_istore [(6, .int r52), (5, .int r10), (0, .ref (d.2 98)), (1, .ref x), (2, .ref m), (3, .ref o), (4, .int (nI (5 * j)))] dL_law__683 (by decide) rfl ?_
  refine tw_goto 1391 dL_law__685 (by decide) ?_
  refine tw_lv [2, 3, 4, 5, 6] rfl ?_
  refine tw_less (c2 := c) (n2 := n) (by omega) (by omega) ?_
  exact J _ _ _ ok53

set_option maxHeartbeats 4000000 in
set_option maxRecDepth 100000 in
theorem law_case_10 (d : tw_D) (x m o j c n : Nat) (Q : tw_O → tw_H → Prop) (hL : d.2 97 ≤ 2560) (hj : 5 * j + 5 ≤ d.2 97) (J : tw_J d x m o j Q c n) (g : tw_G) (τ : tw_K) (h : tw_H) (ok : tw_ok5 d x m o g τ h) : tw_W d mL_law_ Q 688 (tw_lv5 d x m o j) [] h (c + 900) (n + 5000) := by
  show tw_W d mL_law_ Q 688 [(0, .ref (d.2 98)), (1, .ref x), (2, .ref m), (3, .ref o), (4, .int (nI (5 * j)))] [] h (c + 900) (n + 5000)
  have sp1 := tw_sp.rf ok.1
  refine tw_aload_n 1 dL_law__688 rfl rfl ?_
  refine tw_aload_n 0 dL_law__689 rfl rfl ?_
  refine tw_iload 4 dL_law__690 rfl ?_
  refine tw_iconst (v := 1) dL_law__692 (by decide) ?_
  refine tw_iadd dL_law__693 ?_
  refine tw_nmi (fun v2 ev2 => ?_)
  have q3 : v2 = nI (5 * j + 1) := by rw [ev2]; exact tw_s1 _
  rw [q3]
  obtain ⟨y4, ey4⟩ : ∃ y : Int32, Int32.ofNat (d.2 (1000 + (nI (5 * j + 1)).toNatClampNeg)) = y := ⟨_, rfl⟩
  refine tw_ti (v := .int y4) (fun _ _ z => z.xs.2.2.2.2.2) dL_law__694 (vp_in_nI (by omega) (by omega)) (congrArg Value.int ey4) ?_
  refine tw_aload_n 3 dL_law__695 rfl rfl ?_
  refine tw_bi (tw_callSH (M := mL_law_) (pc := 696) okL_pass dL_law__696 w_687 [.ref x, .int y4, .ref o] [] rfl rfl ⟨by decide, by decide⟩ (Nat.le_of_ble_eq_true rfl) (c_L_pass d g τ h sp1.1 x ok.2.2.1 y4 o ok.2.2.2.2) ((c + 900) - 20) ((n + 5000) - 120) (by omega) (by omega)) (fun r7 h6 q5 => ?_) (fun E h1 q => q.elim)
  rcases q5 with ⟨q5e, q5cR, q5cL, q5n, τc, q5s⟩ | ⟨q5e, q5cR, τc, q5s⟩ | ⟨q5e, q5cR, q5cL, τc, q5s⟩
  · rw [q5e]
    have h49 := (tw_b678 ok.1 ok.2.2.1).1
    obtain ⟨gL, egL⟩ : ∃ z : tw_G, z = (tw_g2 g 21 (g.2 21 + tw_DN y4)) := ⟨_, rfl⟩
    rw [← egL] at q5s
    have gl3 : gL.2 3 = g.2 3 := by rw [egL]; rfl
    have gl4 : gL.2 4 = g.2 4 := by rw [egL]; rfl
    have gl5 : gL.2 5 = g.2 5 := by rw [egL]; rfl
    have gl9 : gL.2 9 = g.2 9 := by rw [egL]; rfl
    have gl22 : gL.2 22 = g.2 22 := by rw [egL]; rfl
    have kx1 := q5s.2.1.k ok.2.2.1 (by decide)
    have km1 := q5s.2.1.k ok.2.2.2.1 (by decide)
    have ko1 := q5s.2.1.k ok.2.2.2.2 (by decide)
    refine tw_istore [(5, .int 0), (0, .ref (d.2 98)), (1, .ref x), (2, .ref m), (3, .ref o), (4, .int (nI (5 * j)))] dL_law__699 (by decide) rfl ?_
    refine tw_aload_n 3 dL_law__701 rfl rfl ?_
    refine tw_aload_n 1 dL_law__702 rfl rfl ?_
    refine tw_iload 5 dL_law__703 rfl ?_
    refine tw_iconst (v := 1) dL_law__705 (by decide) ?_
    refine tw_iadd dL_law__706 ?_
    refine tw_nmi (fun v8 ev8 => ?_)
    have q9 : v8 = nI (5 * j + 1) := by rw [ev8]; exact tw_s1 _
    rw [q9]
    refine tw_ti (v := .int y4) (fun _ _ z => z.xs.2.2.2.2.2) dL_law__707 (vp_in_nI (by omega) (by omega)) (congrArg Value.int ey4) ?_
    obtain ⟨e10, f11, th_12, td_13, ds_14, fr_15, ca_16, us_17, wo_18, cm_19, lc_20, lh_21, ld_22, rfl, k23, k24, k25, k26, k27, k28, k29, k30, k31, k32, k33, k34, k35, k36, k37, k38, k39, k40⟩ := (tw_sp.rf q5s.1).1 m 36 km1 (by decide)
    refine tw_bi (tw_callV (M := mL_law_) (pc := 708) okX10_pass dL_law__708 w_1382 rfl f11 [.int y4] [] rfl rfl ⟨by decide, by decide⟩ (Nat.le_of_ble_eq_true rfl) (c2_X10_pass d gL τc h6 (tw_sp.rf q5s.1).1 m km1 y4 o ko1) (((c + 900) - 20) - 802) (((n + 5000) - 120) - 3208) (by omega) (by omega)) (fun r43 h42 q41 => ?_) (fun E h1 q => q.elim)
    obtain ⟨g9, τ9, s9, oq9, q41a⟩ := q41
    have kx2 := s9.2.1.k kx1 (by decide)
    have km2 := s9.2.1.k km1 (by decide)
    have ko2 := s9.2.1.k ko1 (by decide)
    have q5cL3 : gL.2 22 + tw_DN y4 ≤ 3000 := by rw [gl22, ← ok.2.1.2.2.2.2.2.2.1]; exact q5cL
    rcases q41a with ⟨z, -⟩ | ⟨-, z, -⟩ | ⟨-, -, hr2, ht, gk9⟩
    · exact absurd q5cR z
    · exact absurd q5cL3 z
    · rw [hr2]
      have ok9 : tw_ok5 d x m o g9 τ9 h42 := ⟨s9.1, (by rw [gk9, egL]; exact ok.2.1.pass), kx2, km2, ko2⟩
      have hlg : tw_lg (h42 o) = (nI (g.2 21 + tw_DN y4)).toInt64 := by rw [oq9]; exact q5n
      have sp44 := tw_sp.rf ok9.1
      refine tw_istore [(6, .int (nI (gL.2 22 + tw_DN y4))), (5, .int 0), (0, .ref (d.2 98)), (1, .ref x), (2, .ref m), (3, .ref o), (4, .int (nI (5 * j)))] dL_law__711 (by decide) rfl ?_
      refine tw_goto 1391 dL_law__713 (by decide) ?_
      refine tw_lv [2, 3, 4, 5, 6] rfl ?_
      refine tw_less (c2 := c) (n2 := n) (by omega) (by omega) ?_
      exact J _ _ _ ok9
  · rw [q5e]
    have h49 := (tw_b678 ok.1 ok.2.2.1).1
    have kx1 := q5s.2.1.k ok.2.2.1 (by decide)
    have km1 := q5s.2.1.k ok.2.2.2.1 (by decide)
    have ko1 := q5s.2.1.k ok.2.2.2.2 (by decide)
    refine tw_istore [(5, .int 1), (0, .ref (d.2 98)), (1, .ref x), (2, .ref m), (3, .ref o), (4, .int (nI (5 * j)))] dL_law__699 (by decide) rfl ?_
    refine tw_aload_n 3 dL_law__701 rfl rfl ?_
    refine tw_aload_n 1 dL_law__702 rfl rfl ?_
    refine tw_iload 5 dL_law__703 rfl ?_
    refine tw_iconst (v := 1) dL_law__705 (by decide) ?_
    refine tw_iadd dL_law__706 ?_
    refine tw_nmi (fun v45 ev45 => ?_)
    have q46 : v45 = nI (5 * j + 1) := by rw [ev45]; exact tw_s1 _
    rw [q46]
    refine tw_ti (v := .int y4) (fun _ _ z => z.xs.2.2.2.2.2) dL_law__707 (vp_in_nI (by omega) (by omega)) (congrArg Value.int ey4) ?_
    obtain ⟨e47, f48, th_49, td_50, ds_51, fr_52, ca_53, us_54, wo_55, cm_56, lc_57, lh_58, ld_59, rfl, k60, k61, k62, k63, k64, k65, k66, k67, k68, k69, k70, k71, k72, k73, k74, k75, k76, k77⟩ := (tw_sp.rf q5s.1).1 m 36 km1 (by decide)
    refine tw_bi (tw_callV (M := mL_law_) (pc := 708) okX10_pass dL_law__708 w_1382 rfl f48 [.int y4] [] rfl rfl ⟨by decide, by decide⟩ (Nat.le_of_ble_eq_true rfl) (c2_X10_pass d g τc h6 (tw_sp.rf q5s.1).1 m km1 y4 o ko1) (((c + 900) - 20) - 802) (((n + 5000) - 120) - 3208) (by omega) (by omega)) (fun r80 h79 q78 => ?_) (fun E h1 q => q.elim)
    obtain ⟨g9, τ9, s9, oq9, q78a⟩ := q78
    have kx2 := s9.2.1.k kx1 (by decide)
    have km2 := s9.2.1.k km1 (by decide)
    have ko2 := s9.2.1.k ko1 (by decide)
    rcases q78a with ⟨-, ht, eg9⟩ | ⟨z, -⟩ | ⟨z, -⟩
    · rw [eg9] at s9
      have ok9 : tw_ok5 d x m o g τ9 h79 := ⟨s9.1, ok.2.1, kx2, km2, ko2⟩
      have sp81 := tw_sp.rf ok9.1
      refine tw_istore [(6, .int r80), (5, .int 1), (0, .ref (d.2 98)), (1, .ref x), (2, .ref m), (3, .ref o), (4, .int (nI (5 * j)))] dL_law__711 (by decide) rfl ?_
      refine tw_goto 1391 dL_law__713 (by decide) ?_
      refine tw_lv [2, 3, 4, 5, 6] rfl ?_
      refine tw_less (c2 := c) (n2 := n) (by omega) (by omega) ?_
      exact J _ _ _ ok9
    · exact absurd z q5cR
    · exact absurd z q5cR
  · rw [q5e]
    have h49 := (tw_b678 ok.1 ok.2.2.1).1
    have kx1 := q5s.2.1.k ok.2.2.1 (by decide)
    have km1 := q5s.2.1.k ok.2.2.2.1 (by decide)
    have ko1 := q5s.2.1.k ok.2.2.2.2 (by decide)
    refine tw_istore [(5, .int 2), (0, .ref (d.2 98)), (1, .ref x), (2, .ref m), (3, .ref o), (4, .int (nI (5 * j)))] dL_law__699 (by decide) rfl ?_
    refine tw_aload_n 3 dL_law__701 rfl rfl ?_
    refine tw_aload_n 1 dL_law__702 rfl rfl ?_
    refine tw_iload 5 dL_law__703 rfl ?_
    refine tw_iconst (v := 1) dL_law__705 (by decide) ?_
    refine tw_iadd dL_law__706 ?_
    refine tw_nmi (fun v82 ev82 => ?_)
    have q83 : v82 = nI (5 * j + 1) := by rw [ev82]; exact tw_s1 _
    rw [q83]
    refine tw_ti (v := .int y4) (fun _ _ z => z.xs.2.2.2.2.2) dL_law__707 (vp_in_nI (by omega) (by omega)) (congrArg Value.int ey4) ?_
    obtain ⟨e84, f85, th_86, td_87, ds_88, fr_89, ca_90, us_91, wo_92, cm_93, lc_94, lh_95, ld_96, rfl, k97, k98, k99, k100, k101, k102, k103, k104, k105, k106, k107, k108, k109, k110, k111, k112, k113, k114⟩ := (tw_sp.rf q5s.1).1 m 36 km1 (by decide)
    refine tw_bi (tw_callV (M := mL_law_) (pc := 708) okX10_pass dL_law__708 w_1382 rfl f85 [.int y4] [] rfl rfl ⟨by decide, by decide⟩ (Nat.le_of_ble_eq_true rfl) (c2_X10_pass d g τc h6 (tw_sp.rf q5s.1).1 m km1 y4 o ko1) (((c + 900) - 20) - 802) (((n + 5000) - 120) - 3208) (by omega) (by omega)) (fun r117 h116 q115 => ?_) (fun E h1 q => q.elim)
    obtain ⟨g9, τ9, s9, oq9, q115a⟩ := q115
    have kx2 := s9.2.1.k kx1 (by decide)
    have km2 := s9.2.1.k km1 (by decide)
    have ko2 := s9.2.1.k ko1 (by decide)
    have q5cL3 : ¬ g.2 22 + tw_DN y4 ≤ 3000 := by rw [← ok.2.1.2.2.2.2.2.2.1]; exact q5cL
    rcases q115a with ⟨z, -⟩ | ⟨-, -, ht, eg9⟩ | ⟨-, z, -⟩
    · exact absurd q5cR z
    · rw [eg9] at s9
      have ok9 : tw_ok5 d x m o g τ9 h116 := ⟨s9.1, ok.2.1, kx2, km2, ko2⟩
      have sp118 := tw_sp.rf ok9.1
      refine tw_istore [(6, .int r117), (5, .int 2), (0, .ref (d.2 98)), (1, .ref x), (2, .ref m), (3, .ref o), (4, .int (nI (5 * j)))] dL_law__711 (by decide) rfl ?_
      refine tw_goto 1391 dL_law__713 (by decide) ?_
      refine tw_lv [2, 3, 4, 5, 6] rfl ?_
      refine tw_less (c2 := c) (n2 := n) (by omega) (by omega) ?_
      exact J _ _ _ ok9
    · exact absurd z q5cL3

set_option maxHeartbeats 4000000 in
set_option maxRecDepth 100000 in
theorem law_case_11 (d : tw_D) (x m o j c n : Nat) (Q : tw_O → tw_H → Prop) (hL : d.2 97 ≤ 2560) (hj : 5 * j + 5 ≤ d.2 97) (J : tw_J d x m o j Q c n) (g : tw_G) (τ : tw_K) (h : tw_H) (ok : tw_ok5 d x m o g τ h) : tw_W d mL_law_ Q 716 (tw_lv5 d x m o j) [] h (c + 900) (n + 5000) := by
  show tw_W d mL_law_ Q 716 [(0, .ref (d.2 98)), (1, .ref x), (2, .ref m), (3, .ref o), (4, .int (nI (5 * j)))] [] h (c + 900) (n + 5000)
  have sp1 := tw_sp.rf ok.1
  refine tw_aload_n 1 dL_law__716 rfl rfl ?_
  refine tw_aload_n 0 dL_law__717 rfl rfl ?_
  refine tw_iload 4 dL_law__718 rfl ?_
  refine tw_iconst (v := 1) dL_law__720 (by decide) ?_
  refine tw_iadd dL_law__721 ?_
  refine tw_nmi (fun v2 ev2 => ?_)
  have q3 : v2 = nI (5 * j + 1) := by rw [ev2]; exact tw_s1 _
  rw [q3]
  obtain ⟨y4, ey4⟩ : ∃ y : Int32, Int32.ofNat (d.2 (1000 + (nI (5 * j + 1)).toNatClampNeg)) = y := ⟨_, rfl⟩
  refine tw_ti (v := .int y4) (fun _ _ z => z.xs.2.2.2.2.2) dL_law__722 (vp_in_nI (by omega) (by omega)) (congrArg Value.int ey4) ?_
  refine tw_aload_n 0 dL_law__723 rfl rfl ?_
  refine tw_iload 4 dL_law__724 rfl ?_
  refine tw_iconst (v := 2) dL_law__726 (by decide) ?_
  refine tw_iadd dL_law__727 ?_
  refine tw_nmi (fun v5 ev5 => ?_)
  have q6 : v5 = nI (5 * j + 2) := by rw [ev5]; exact tw_s2 _
  rw [q6]
  obtain ⟨y7, ey7⟩ : ∃ y : Int32, Int32.ofNat (d.2 (1000 + (nI (5 * j + 2)).toNatClampNeg)) = y := ⟨_, rfl⟩
  refine tw_ti (v := .int y7) (fun _ _ z => z.xs.2.2.2.2.2) dL_law__728 (vp_in_nI (by omega) (by omega)) (congrArg Value.int ey7) ?_
  refine tw_aload_n 0 dL_law__729 rfl rfl ?_
  refine tw_iload 4 dL_law__730 rfl ?_
  refine tw_iconst (v := 3) dL_law__732 (by decide) ?_
  refine tw_iadd dL_law__733 ?_
  refine tw_nmi (fun v8 ev8 => ?_)
  have q9 : v8 = nI (5 * j + 3) := by rw [ev8]; exact tw_s3 _
  rw [q9]
  obtain ⟨y10, ey10⟩ : ∃ y : Int32, Int32.ofNat (d.2 (1000 + (nI (5 * j + 3)).toNatClampNeg)) = y := ⟨_, rfl⟩
  refine tw_ti (v := .int y10) (fun _ _ z => z.xs.2.2.2.2.2) dL_law__734 (vp_in_nI (by omega) (by omega)) (congrArg Value.int ey10) ?_
  refine tw_aload_n 0 dL_law__735 rfl rfl ?_
  refine tw_iload 4 dL_law__736 rfl ?_
  refine tw_iconst (v := 4) dL_law__738 (by decide) ?_
  refine tw_iadd dL_law__739 ?_
  refine tw_nmi (fun v11 ev11 => ?_)
  have q12 : v11 = nI (5 * j + 4) := by rw [ev11]; exact tw_s4 _
  rw [q12]
  obtain ⟨y13, ey13⟩ : ∃ y : Int32, Int32.ofNat (d.2 (1000 + (nI (5 * j + 4)).toNatClampNeg)) = y := ⟨_, rfl⟩
  refine tw_ti (v := .int y13) (fun _ _ z => z.xs.2.2.2.2.2) dL_law__740 (vp_in_nI (by omega) (by omega)) (congrArg Value.int ey13) ?_
  refine tw_aload_n 3 dL_law__741 rfl rfl ?_
  refine tw_bi (tw_callSH (M := mL_law_) (pc := 742) okL_owe dL_law__742 w_707 [.ref x, .int y4, .int y7, .int y10, .int y13, .ref o] [] rfl rfl ⟨by decide, by decide⟩ (Nat.le_of_ble_eq_true rfl) (c_L_owe d g τ h sp1.1 x ok.2.2.1 y4 y7 y10 y13 o ok.2.2.2.2 ok.2.1.2.2.2.2.2.1) ((c + 900) - 20) ((n + 5000) - 120) (by omega) (by omega)) (fun r16 h15 q14 => ?_) (fun E h1 q => q.elim)
  rcases q14 with ⟨q14e, q14cI, q14cR, q14cL, q14n, τc, q14s⟩ | ⟨q14e, q14cI, τc, q14s⟩ | ⟨q14e, q14cI, q14cR, τc, q14s⟩ | ⟨q14e, q14cI, q14cR, q14cL, τc, q14s⟩
  · rw [q14e]
    have h49 := (tw_b678 ok.1 ok.2.2.1).1
    obtain ⟨gL, egL⟩ : ∃ z : tw_G, z = (tw_gI g 8 2) := ⟨_, rfl⟩
    rw [← egL] at q14s
    have gl3 : gL.2 3 = g.2 3 := by rw [egL]; rfl
    have gl4 : gL.2 4 = g.2 4 := by rw [egL]; rfl
    have gl5 : gL.2 5 = g.2 5 := by rw [egL]; rfl
    have gl9 : gL.2 9 = g.2 9 := by rw [egL]; rfl
    have gl22 : gL.2 22 = g.2 22 := by rw [egL]; rfl
    have kx1 := q14s.2.1.k ok.2.2.1 (by decide)
    have km1 := q14s.2.1.k ok.2.2.2.1 (by decide)
    have ko1 := q14s.2.1.k ok.2.2.2.2 (by decide)
    refine tw_istore [(5, .int 0), (0, .ref (d.2 98)), (1, .ref x), (2, .ref m), (3, .ref o), (4, .int (nI (5 * j)))] dL_law__745 (by decide) rfl ?_
    refine tw_aload_n 3 dL_law__747 rfl rfl ?_
    refine tw_aload_n 1 dL_law__748 rfl rfl ?_
    refine tw_iload 5 dL_law__749 rfl ?_
    refine tw_iconst (v := 1) dL_law__751 (by decide) ?_
    refine tw_iadd dL_law__752 ?_
    refine tw_nmi (fun v17 ev17 => ?_)
    have q18 : v17 = nI (5 * j + 1) := by rw [ev17]; exact tw_s1 _
    rw [q18]
    refine tw_ti (v := .int y4) (fun _ _ z => z.xs.2.2.2.2.2) dL_law__753 (vp_in_nI (by omega) (by omega)) (congrArg Value.int ey4) ?_
    refine tw_aload_n 1 dL_law__754 rfl rfl ?_
    refine tw_iload 5 dL_law__755 rfl ?_
    refine tw_iconst (v := 2) dL_law__757 (by decide) ?_
    refine tw_iadd dL_law__758 ?_
    refine tw_nmi (fun v19 ev19 => ?_)
    have q20 : v19 = nI (5 * j + 2) := by rw [ev19]; exact tw_s2 _
    rw [q20]
    refine tw_ti (v := .int y7) (fun _ _ z => z.xs.2.2.2.2.2) dL_law__759 (vp_in_nI (by omega) (by omega)) (congrArg Value.int ey7) ?_
    refine tw_aload_n 1 dL_law__760 rfl rfl ?_
    refine tw_iload 5 dL_law__761 rfl ?_
    refine tw_iconst (v := 3) dL_law__763 (by decide) ?_
    refine tw_iadd dL_law__764 ?_
    refine tw_nmi (fun v21 ev21 => ?_)
    have q22 : v21 = nI (5 * j + 3) := by rw [ev21]; exact tw_s3 _
    rw [q22]
    refine tw_ti (v := .int y10) (fun _ _ z => z.xs.2.2.2.2.2) dL_law__765 (vp_in_nI (by omega) (by omega)) (congrArg Value.int ey10) ?_
    refine tw_aload_n 1 dL_law__766 rfl rfl ?_
    refine tw_iload 5 dL_law__767 rfl ?_
    refine tw_iconst (v := 4) dL_law__769 (by decide) ?_
    refine tw_iadd dL_law__770 ?_
    refine tw_nmi (fun v23 ev23 => ?_)
    have q24 : v23 = nI (5 * j + 4) := by rw [ev23]; exact tw_s4 _
    rw [q24]
    refine tw_ti (v := .int y13) (fun _ _ z => z.xs.2.2.2.2.2) dL_law__771 (vp_in_nI (by omega) (by omega)) (congrArg Value.int ey13) ?_
    obtain ⟨e25, f26, th_27, td_28, ds_29, fr_30, ca_31, us_32, wo_33, cm_34, lc_35, lh_36, ld_37, rfl, k38, k39, k40, k41, k42, k43, k44, k45, k46, k47, k48, k49, k50, k51, k52, k53, k54, k55⟩ := (tw_sp.rf q14s.1).1 m 36 km1 (by decide)
    refine tw_bi (tw_callV (M := mL_law_) (pc := 772) okX10_owe dL_law__772 w_1433 rfl f26 [.int y4, .int y7, .int y10, .int y13] [] rfl rfl ⟨by decide, by decide⟩ (Nat.le_of_ble_eq_true rfl) (c2_X10_owe d gL τc h15 (tw_sp.rf q14s.1).1 m km1 y4 y7 y10 y13 o ko1) (((c + 900) - 20) - 10) (((n + 5000) - 120) - 60) (by omega) (by omega)) (fun r58 h57 q56 => ?_) (fun E h1 q => q.elim)
    obtain ⟨g9, τ9, s9, oq9, q56a⟩ := q56
    have kx2 := s9.2.1.k kx1 (by decide)
    have km2 := s9.2.1.k km1 (by decide)
    have ko2 := s9.2.1.k ko1 (by decide)
    have q14cI3 : (tw_ix (gL.2 4) y4 ∧ tw_ix (gL.2 4) y7) := by rw [gl4, ← ok.2.1.2.2.2.2.1.trans ok.2.1.2.1]; exact q14cI
    have q14cL3 : gL.2 5 < 10 := by rw [gl5, ← ok.2.1.2.2.1]; exact q14cL
    rcases q56a with ⟨z, -⟩ | ⟨-, z, -⟩ | ⟨-, -, z, -⟩ | ⟨-, -, -, hr2, ht, gk9⟩
    · exact absurd q14cI3 z
    · exact absurd q14cR z
    · exact absurd q14cL3 z
    · rw [hr2]
      have ok9 : tw_ok5 d x m o g9 τ9 h57 := ⟨s9.1, (by rw [egL] at gk9; exact ok.2.1.owe gk9), kx2, km2, ko2⟩
      have hlg : tw_lg (h57 o) = (nI (g.2 2)).toInt64 := by rw [oq9]; exact q14n
      have sp59 := tw_sp.rf ok9.1
      refine tw_istore [(6, .int (nI (gL.2 5))), (5, .int 0), (0, .ref (d.2 98)), (1, .ref x), (2, .ref m), (3, .ref o), (4, .int (nI (5 * j)))] dL_law__775 (by decide) rfl ?_
      refine tw_goto 1391 dL_law__777 (by decide) ?_
      refine tw_lv [2, 3, 4, 5, 6] rfl ?_
      refine tw_less (c2 := c) (n2 := n) (by omega) (by omega) ?_
      exact J _ _ _ ok9
  · rw [q14e]
    have h49 := (tw_b678 ok.1 ok.2.2.1).1
    have kx1 := q14s.2.1.k ok.2.2.1 (by decide)
    have km1 := q14s.2.1.k ok.2.2.2.1 (by decide)
    have ko1 := q14s.2.1.k ok.2.2.2.2 (by decide)
    refine tw_istore [(5, .int 1), (0, .ref (d.2 98)), (1, .ref x), (2, .ref m), (3, .ref o), (4, .int (nI (5 * j)))] dL_law__745 (by decide) rfl ?_
    refine tw_aload_n 3 dL_law__747 rfl rfl ?_
    refine tw_aload_n 1 dL_law__748 rfl rfl ?_
    refine tw_iload 5 dL_law__749 rfl ?_
    refine tw_iconst (v := 1) dL_law__751 (by decide) ?_
    refine tw_iadd dL_law__752 ?_
    refine tw_nmi (fun v60 ev60 => ?_)
    have q61 : v60 = nI (5 * j + 1) := by rw [ev60]; exact tw_s1 _
    rw [q61]
    refine tw_ti (v := .int y4) (fun _ _ z => z.xs.2.2.2.2.2) dL_law__753 (vp_in_nI (by omega) (by omega)) (congrArg Value.int ey4) ?_
    refine tw_aload_n 1 dL_law__754 rfl rfl ?_
    refine tw_iload 5 dL_law__755 rfl ?_
    refine tw_iconst (v := 2) dL_law__757 (by decide) ?_
    refine tw_iadd dL_law__758 ?_
    refine tw_nmi (fun v62 ev62 => ?_)
    have q63 : v62 = nI (5 * j + 2) := by rw [ev62]; exact tw_s2 _
    rw [q63]
    refine tw_ti (v := .int y7) (fun _ _ z => z.xs.2.2.2.2.2) dL_law__759 (vp_in_nI (by omega) (by omega)) (congrArg Value.int ey7) ?_
    refine tw_aload_n 1 dL_law__760 rfl rfl ?_
    refine tw_iload 5 dL_law__761 rfl ?_
    refine tw_iconst (v := 3) dL_law__763 (by decide) ?_
    refine tw_iadd dL_law__764 ?_
    refine tw_nmi (fun v64 ev64 => ?_)
    have q65 : v64 = nI (5 * j + 3) := by rw [ev64]; exact tw_s3 _
    rw [q65]
    refine tw_ti (v := .int y10) (fun _ _ z => z.xs.2.2.2.2.2) dL_law__765 (vp_in_nI (by omega) (by omega)) (congrArg Value.int ey10) ?_
    refine tw_aload_n 1 dL_law__766 rfl rfl ?_
    refine tw_iload 5 dL_law__767 rfl ?_
    refine tw_iconst (v := 4) dL_law__769 (by decide) ?_
    refine tw_iadd dL_law__770 ?_
    refine tw_nmi (fun v66 ev66 => ?_)
    have q67 : v66 = nI (5 * j + 4) := by rw [ev66]; exact tw_s4 _
    rw [q67]
    refine tw_ti (v := .int y13) (fun _ _ z => z.xs.2.2.2.2.2) dL_law__771 (vp_in_nI (by omega) (by omega)) (congrArg Value.int ey13) ?_
    obtain ⟨e68, f69, th_70, td_71, ds_72, fr_73, ca_74, us_75, wo_76, cm_77, lc_78, lh_79, ld_80, rfl, k81, k82, k83, k84, k85, k86, k87, k88, k89, k90, k91, k92, k93, k94, k95, k96, k97, k98⟩ := (tw_sp.rf q14s.1).1 m 36 km1 (by decide)
    refine tw_bi (tw_callV (M := mL_law_) (pc := 772) okX10_owe dL_law__772 w_1433 rfl f69 [.int y4, .int y7, .int y10, .int y13] [] rfl rfl ⟨by decide, by decide⟩ (Nat.le_of_ble_eq_true rfl) (c2_X10_owe d g τc h15 (tw_sp.rf q14s.1).1 m km1 y4 y7 y10 y13 o ko1) (((c + 900) - 20) - 10) (((n + 5000) - 120) - 60) (by omega) (by omega)) (fun r101 h100 q99 => ?_) (fun E h1 q => q.elim)
    obtain ⟨g9, τ9, s9, oq9, q99a⟩ := q99
    have kx2 := s9.2.1.k kx1 (by decide)
    have km2 := s9.2.1.k km1 (by decide)
    have ko2 := s9.2.1.k ko1 (by decide)
    have q14cI3 : ¬ (tw_ix (g.2 4) y4 ∧ tw_ix (g.2 4) y7) := by rw [← ok.2.1.2.2.2.2.1.trans ok.2.1.2.1]; exact q14cI
    rcases q99a with ⟨-, ht, eg9⟩ | ⟨z, -⟩ | ⟨z, -⟩ | ⟨z, -⟩
    · rw [eg9] at s9
      have ok9 : tw_ok5 d x m o g τ9 h100 := ⟨s9.1, ok.2.1, kx2, km2, ko2⟩
      have sp102 := tw_sp.rf ok9.1
      refine tw_istore [(6, .int r101), (5, .int 1), (0, .ref (d.2 98)), (1, .ref x), (2, .ref m), (3, .ref o), (4, .int (nI (5 * j)))] dL_law__775 (by decide) rfl ?_
      refine tw_goto 1391 dL_law__777 (by decide) ?_
      refine tw_lv [2, 3, 4, 5, 6] rfl ?_
      refine tw_less (c2 := c) (n2 := n) (by omega) (by omega) ?_
      exact J _ _ _ ok9
    · exact absurd z q14cI3
    · exact absurd z q14cI3
    · exact absurd z q14cI3
  · rw [q14e]
    have h49 := (tw_b678 ok.1 ok.2.2.1).1
    have kx1 := q14s.2.1.k ok.2.2.1 (by decide)
    have km1 := q14s.2.1.k ok.2.2.2.1 (by decide)
    have ko1 := q14s.2.1.k ok.2.2.2.2 (by decide)
    refine tw_istore [(5, .int 2), (0, .ref (d.2 98)), (1, .ref x), (2, .ref m), (3, .ref o), (4, .int (nI (5 * j)))] dL_law__745 (by decide) rfl ?_
    refine tw_aload_n 3 dL_law__747 rfl rfl ?_
    refine tw_aload_n 1 dL_law__748 rfl rfl ?_
    refine tw_iload 5 dL_law__749 rfl ?_
    refine tw_iconst (v := 1) dL_law__751 (by decide) ?_
    refine tw_iadd dL_law__752 ?_
    refine tw_nmi (fun v103 ev103 => ?_)
    have q104 : v103 = nI (5 * j + 1) := by rw [ev103]; exact tw_s1 _
    rw [q104]
    refine tw_ti (v := .int y4) (fun _ _ z => z.xs.2.2.2.2.2) dL_law__753 (vp_in_nI (by omega) (by omega)) (congrArg Value.int ey4) ?_
    refine tw_aload_n 1 dL_law__754 rfl rfl ?_
    refine tw_iload 5 dL_law__755 rfl ?_
    refine tw_iconst (v := 2) dL_law__757 (by decide) ?_
    refine tw_iadd dL_law__758 ?_
    refine tw_nmi (fun v105 ev105 => ?_)
    have q106 : v105 = nI (5 * j + 2) := by rw [ev105]; exact tw_s2 _
    rw [q106]
    refine tw_ti (v := .int y7) (fun _ _ z => z.xs.2.2.2.2.2) dL_law__759 (vp_in_nI (by omega) (by omega)) (congrArg Value.int ey7) ?_
    refine tw_aload_n 1 dL_law__760 rfl rfl ?_
    refine tw_iload 5 dL_law__761 rfl ?_
    refine tw_iconst (v := 3) dL_law__763 (by decide) ?_
    refine tw_iadd dL_law__764 ?_
    refine tw_nmi (fun v107 ev107 => ?_)
    have q108 : v107 = nI (5 * j + 3) := by rw [ev107]; exact tw_s3 _
    rw [q108]
    refine tw_ti (v := .int y10) (fun _ _ z => z.xs.2.2.2.2.2) dL_law__765 (vp_in_nI (by omega) (by omega)) (congrArg Value.int ey10) ?_
    refine tw_aload_n 1 dL_law__766 rfl rfl ?_
    refine tw_iload 5 dL_law__767 rfl ?_
    refine tw_iconst (v := 4) dL_law__769 (by decide) ?_
    refine tw_iadd dL_law__770 ?_
    refine tw_nmi (fun v109 ev109 => ?_)
    have q110 : v109 = nI (5 * j + 4) := by rw [ev109]; exact tw_s4 _
    rw [q110]
    refine tw_ti (v := .int y13) (fun _ _ z => z.xs.2.2.2.2.2) dL_law__771 (vp_in_nI (by omega) (by omega)) (congrArg Value.int ey13) ?_
    obtain ⟨e111, f112, th_113, td_114, ds_115, fr_116, ca_117, us_118, wo_119, cm_120, lc_121, lh_122, ld_123, rfl, k124, k125, k126, k127, k128, k129, k130, k131, k132, k133, k134, k135, k136, k137, k138, k139, k140, k141⟩ := (tw_sp.rf q14s.1).1 m 36 km1 (by decide)
    refine tw_bi (tw_callV (M := mL_law_) (pc := 772) okX10_owe dL_law__772 w_1433 rfl f112 [.int y4, .int y7, .int y10, .int y13] [] rfl rfl ⟨by decide, by decide⟩ (Nat.le_of_ble_eq_true rfl) (c2_X10_owe d g τc h15 (tw_sp.rf q14s.1).1 m km1 y4 y7 y10 y13 o ko1) (((c + 900) - 20) - 10) (((n + 5000) - 120) - 60) (by omega) (by omega)) (fun r144 h143 q142 => ?_) (fun E h1 q => q.elim)
    obtain ⟨g9, τ9, s9, oq9, q142a⟩ := q142
    have kx2 := s9.2.1.k kx1 (by decide)
    have km2 := s9.2.1.k km1 (by decide)
    have ko2 := s9.2.1.k ko1 (by decide)
    have q14cI3 : (tw_ix (g.2 4) y4 ∧ tw_ix (g.2 4) y7) := by rw [← ok.2.1.2.2.2.2.1.trans ok.2.1.2.1]; exact q14cI
    rcases q142a with ⟨z, -⟩ | ⟨-, -, ht, eg9⟩ | ⟨-, z, -⟩ | ⟨-, z, -⟩
    · exact absurd q14cI3 z
    · rw [eg9] at s9
      have ok9 : tw_ok5 d x m o g τ9 h143 := ⟨s9.1, ok.2.1, kx2, km2, ko2⟩
      have sp145 := tw_sp.rf ok9.1
      refine tw_istore [(6, .int r144), (5, .int 2), (0, .ref (d.2 98)), (1, .ref x), (2, .ref m), (3, .ref o), (4, .int (nI (5 * j)))] dL_law__775 (by decide) rfl ?_
      refine tw_goto 1391 dL_law__777 (by decide) ?_
      refine tw_lv [2, 3, 4, 5, 6] rfl ?_
      refine tw_less (c2 := c) (n2 := n) (by omega) (by omega) ?_
      exact J _ _ _ ok9
    · exact absurd z q14cR
    · exact absurd z q14cR
  · rw [q14e]
    have h49 := (tw_b678 ok.1 ok.2.2.1).1
    have kx1 := q14s.2.1.k ok.2.2.1 (by decide)
    have km1 := q14s.2.1.k ok.2.2.2.1 (by decide)
    have ko1 := q14s.2.1.k ok.2.2.2.2 (by decide)
    refine tw_istore [(5, .int 3), (0, .ref (d.2 98)), (1, .ref x), (2, .ref m), (3, .ref o), (4, .int (nI (5 * j)))] dL_law__745 (by decide) rfl ?_
    refine tw_aload_n 3 dL_law__747 rfl rfl ?_
    refine tw_aload_n 1 dL_law__748 rfl rfl ?_
    refine tw_iload 5 dL_law__749 rfl ?_
    refine tw_iconst (v := 1) dL_law__751 (by decide) ?_
    refine tw_iadd dL_law__752 ?_
    refine tw_nmi (fun v146 ev146 => ?_)
    have q147 : v146 = nI (5 * j + 1) := by rw [ev146]; exact tw_s1 _
    rw [q147]
    refine tw_ti (v := .int y4) (fun _ _ z => z.xs.2.2.2.2.2) dL_law__753 (vp_in_nI (by omega) (by omega)) (congrArg Value.int ey4) ?_
    refine tw_aload_n 1 dL_law__754 rfl rfl ?_
    refine tw_iload 5 dL_law__755 rfl ?_
    refine tw_iconst (v := 2) dL_law__757 (by decide) ?_
    refine tw_iadd dL_law__758 ?_
    refine tw_nmi (fun v148 ev148 => ?_)
    have q149 : v148 = nI (5 * j + 2) := by rw [ev148]; exact tw_s2 _
    rw [q149]
    refine tw_ti (v := .int y7) (fun _ _ z => z.xs.2.2.2.2.2) dL_law__759 (vp_in_nI (by omega) (by omega)) (congrArg Value.int ey7) ?_
    refine tw_aload_n 1 dL_law__760 rfl rfl ?_
    refine tw_iload 5 dL_law__761 rfl ?_
    refine tw_iconst (v := 3) dL_law__763 (by decide) ?_
    refine tw_iadd dL_law__764 ?_
    refine tw_nmi (fun v150 ev150 => ?_)
    have q151 : v150 = nI (5 * j + 3) := by rw [ev150]; exact tw_s3 _
    rw [q151]
    refine tw_ti (v := .int y10) (fun _ _ z => z.xs.2.2.2.2.2) dL_law__765 (vp_in_nI (by omega) (by omega)) (congrArg Value.int ey10) ?_
    refine tw_aload_n 1 dL_law__766 rfl rfl ?_
    refine tw_iload 5 dL_law__767 rfl ?_
    refine tw_iconst (v := 4) dL_law__769 (by decide) ?_
    refine tw_iadd dL_law__770 ?_
    refine tw_nmi (fun v152 ev152 => ?_)
    have q153 : v152 = nI (5 * j + 4) := by rw [ev152]; exact tw_s4 _
    rw [q153]
    refine tw_ti (v := .int y13) (fun _ _ z => z.xs.2.2.2.2.2) dL_law__771 (vp_in_nI (by omega) (by omega)) (congrArg Value.int ey13) ?_
    obtain ⟨e154, f155, th_156, td_157, ds_158, fr_159, ca_160, us_161, wo_162, cm_163, lc_164, lh_165, ld_166, rfl, k167, k168, k169, k170, k171, k172, k173, k174, k175, k176, k177, k178, k179, k180, k181, k182, k183, k184⟩ := (tw_sp.rf q14s.1).1 m 36 km1 (by decide)
    refine tw_bi (tw_callV (M := mL_law_) (pc := 772) okX10_owe dL_law__772 w_1433 rfl f155 [.int y4, .int y7, .int y10, .int y13] [] rfl rfl ⟨by decide, by decide⟩ (Nat.le_of_ble_eq_true rfl) (c2_X10_owe d g τc h15 (tw_sp.rf q14s.1).1 m km1 y4 y7 y10 y13 o ko1) (((c + 900) - 20) - 10) (((n + 5000) - 120) - 60) (by omega) (by omega)) (fun r187 h186 q185 => ?_) (fun E h1 q => q.elim)
    obtain ⟨g9, τ9, s9, oq9, q185a⟩ := q185
    have kx2 := s9.2.1.k kx1 (by decide)
    have km2 := s9.2.1.k km1 (by decide)
    have ko2 := s9.2.1.k ko1 (by decide)
    have q14cI3 : (tw_ix (g.2 4) y4 ∧ tw_ix (g.2 4) y7) := by rw [← ok.2.1.2.2.2.2.1.trans ok.2.1.2.1]; exact q14cI
    have q14cL3 : ¬ g.2 5 < 10 := by rw [← ok.2.1.2.2.1]; exact q14cL
    rcases q185a with ⟨z, -⟩ | ⟨-, z, -⟩ | ⟨-, -, -, ht, eg9⟩ | ⟨-, -, z, -⟩
    · exact absurd q14cI3 z
    · exact absurd q14cR z
    · rw [eg9] at s9
      have ok9 : tw_ok5 d x m o g τ9 h186 := ⟨s9.1, ok.2.1, kx2, km2, ko2⟩
      have sp188 := tw_sp.rf ok9.1
      refine tw_istore [(6, .int r187), (5, .int 3), (0, .ref (d.2 98)), (1, .ref x), (2, .ref m), (3, .ref o), (4, .int (nI (5 * j)))] dL_law__775 (by decide) rfl ?_
      refine tw_goto 1391 dL_law__777 (by decide) ?_
      refine tw_lv [2, 3, 4, 5, 6] rfl ?_
      refine tw_less (c2 := c) (n2 := n) (by omega) (by omega) ?_
      exact J _ _ _ ok9
    · exact absurd z q14cL3

set_option maxHeartbeats 4000000 in
set_option maxRecDepth 100000 in
theorem law_case_12 (d : tw_D) (x m o j c n : Nat) (Q : tw_O → tw_H → Prop) (hL : d.2 97 ≤ 2560) (hj : 5 * j + 5 ≤ d.2 97) (J : tw_J d x m o j Q c n) (g : tw_G) (τ : tw_K) (h : tw_H) (ok : tw_ok5 d x m o g τ h) : tw_W d mL_law_ Q 780 (tw_lv5 d x m o j) [] h (c + 900) (n + 5000) := by
  show tw_W d mL_law_ Q 780 [(0, .ref (d.2 98)), (1, .ref x), (2, .ref m), (3, .ref o), (4, .int (nI (5 * j)))] [] h (c + 900) (n + 5000)
  have sp1 := tw_sp.rf ok.1
  refine tw_aload_n 1 dL_law__780 rfl rfl ?_
  refine tw_aload_n 0 dL_law__781 rfl rfl ?_
  refine tw_iload 4 dL_law__782 rfl ?_
  refine tw_iconst (v := 1) dL_law__784 (by decide) ?_
  refine tw_iadd dL_law__785 ?_
  refine tw_nmi (fun v2 ev2 => ?_)
  have q3 : v2 = nI (5 * j + 1) := by rw [ev2]; exact tw_s1 _
  rw [q3]
  obtain ⟨y4, ey4⟩ : ∃ y : Int32, Int32.ofNat (d.2 (1000 + (nI (5 * j + 1)).toNatClampNeg)) = y := ⟨_, rfl⟩
  refine tw_ti (v := .int y4) (fun _ _ z => z.xs.2.2.2.2.2) dL_law__786 (vp_in_nI (by omega) (by omega)) (congrArg Value.int ey4) ?_
  refine tw_aload_n 0 dL_law__787 rfl rfl ?_
  refine tw_iload 4 dL_law__788 rfl ?_
  refine tw_iconst (v := 2) dL_law__790 (by decide) ?_
  refine tw_iadd dL_law__791 ?_
  refine tw_nmi (fun v5 ev5 => ?_)
  have q6 : v5 = nI (5 * j + 2) := by rw [ev5]; exact tw_s2 _
  rw [q6]
  obtain ⟨y7, ey7⟩ : ∃ y : Int32, Int32.ofNat (d.2 (1000 + (nI (5 * j + 2)).toNatClampNeg)) = y := ⟨_, rfl⟩
  refine tw_ti (v := .int y7) (fun _ _ z => z.xs.2.2.2.2.2) dL_law__792 (vp_in_nI (by omega) (by omega)) (congrArg Value.int ey7) ?_
  refine tw_aload_n 3 dL_law__793 rfl rfl ?_
  refine tw_bi (tw_callSH (M := mL_law_) (pc := 794) okL_settle dL_law__794 w_740 [.ref x, .int y4, .int y7, .ref o] [] rfl rfl ⟨by decide, by decide⟩ (Nat.le_of_ble_eq_true rfl) (c_L_settle d g τ h sp1.1 x ok.2.2.1 y4 y7 o ok.2.2.2.2) ((c + 900) - 20) ((n + 5000) - 120) (by omega) (by omega)) (fun r10 h9 q8 => ?_) (fun E h1 q => q.elim)
  obtain ⟨g11, τ12, q8g, q8s⟩ := q8
  have ok13 := ok.go (by rw [q8g]; exact ok.2.1) q8s
  have sp14 := tw_sp.rf ok13.1
  refine tw_istore [(5, .int r10), (0, .ref (d.2 98)), (1, .ref x), (2, .ref m), (3, .ref o), (4, .int (nI (5 * j)))] dL_law__797 (by decide) rfl ?_
  refine tw_aload_n 3 dL_law__799 rfl rfl ?_
  refine tw_aload_n 1 dL_law__800 rfl rfl ?_
  refine tw_iload 5 dL_law__801 rfl ?_
  refine tw_iconst (v := 1) dL_law__803 (by decide) ?_
  refine tw_iadd dL_law__804 ?_
  refine tw_nmi (fun v15 ev15 => ?_)
  have q16 : v15 = nI (5 * j + 1) := by rw [ev15]; exact tw_s1 _
  rw [q16]
  refine tw_ti (v := .int y4) (fun _ _ z => z.xs.2.2.2.2.2) dL_law__805 (vp_in_nI (by omega) (by omega)) (congrArg Value.int ey4) ?_
  refine tw_aload_n 1 dL_law__806 rfl rfl ?_
  refine tw_iload 5 dL_law__807 rfl ?_
  refine tw_iconst (v := 2) dL_law__809 (by decide) ?_
  refine tw_iadd dL_law__810 ?_
  refine tw_nmi (fun v17 ev17 => ?_)
  have q18 : v17 = nI (5 * j + 2) := by rw [ev17]; exact tw_s2 _
  rw [q18]
  refine tw_ti (v := .int y7) (fun _ _ z => z.xs.2.2.2.2.2) dL_law__811 (vp_in_nI (by omega) (by omega)) (congrArg Value.int ey7) ?_
  obtain ⟨e19, f20, th_21, td_22, ds_23, fr_24, ca_25, us_26, wo_27, cm_28, lc_29, lh_30, ld_31, rfl, k32, k33, k34, k35, k36, k37, k38, k39, k40, k41, k42, k43, k44, k45, k46, k47, k48, k49⟩ := sp14.1 m 36 ok13.2.2.2.1 (by decide)
  refine tw_bi (tw_callV (M := mL_law_) (pc := 812) okX10_settle dL_law__812 w_1459 rfl f20 [.int y4, .int y7] [] rfl rfl ⟨by decide, by decide⟩ (Nat.le_of_ble_eq_true rfl) (c_X10_settle d g11 τ12 h9 sp14.1 m ok13.2.2.2.1 y4 y7) ((c + 900) - 20) ((n + 5000) - 120) (by omega) (by omega)) (fun r52 h51 q50 => ?_) (fun E h1 q => q.elim)
  have q50s := q50
  have ok53 := ok13.go ok13.2.1 q50s
  have sp54 := tw_sp.rf ok53.1
  refine tw_istore [(6, .int r52), (5, .int r10), (0, .ref (d.2 98)), (1, .ref x), (2, .ref m), (3, .ref o), (4, .int (nI (5 * j)))] dL_law__815 (by decide) rfl ?_
  refine tw_goto 1391 dL_law__817 (by decide) ?_
  refine tw_lv [2, 3, 4, 5, 6] rfl ?_
  refine tw_less (c2 := c) (n2 := n) (by omega) (by omega) ?_
  exact J _ _ _ ok53

set_option maxHeartbeats 4000000 in
set_option maxRecDepth 100000 in
theorem law_case_13 (d : tw_D) (x m o j c n : Nat) (Q : tw_O → tw_H → Prop) (hL : d.2 97 ≤ 2560) (hj : 5 * j + 5 ≤ d.2 97) (J : tw_J d x m o j Q c n) (g : tw_G) (τ : tw_K) (h : tw_H) (ok : tw_ok5 d x m o g τ h) : tw_W d mL_law_ Q 820 (tw_lv5 d x m o j) [] h (c + 900) (n + 5000) := by
  show tw_W d mL_law_ Q 820 [(0, .ref (d.2 98)), (1, .ref x), (2, .ref m), (3, .ref o), (4, .int (nI (5 * j)))] [] h (c + 900) (n + 5000)
  have sp1 := tw_sp.rf ok.1
  refine tw_aload_n 1 dL_law__820 rfl rfl ?_
  refine tw_aload_n 0 dL_law__821 rfl rfl ?_
  refine tw_iload 4 dL_law__822 rfl ?_
  refine tw_iconst (v := 1) dL_law__824 (by decide) ?_
  refine tw_iadd dL_law__825 ?_
  refine tw_nmi (fun v2 ev2 => ?_)
  have q3 : v2 = nI (5 * j + 1) := by rw [ev2]; exact tw_s1 _
  rw [q3]
  obtain ⟨y4, ey4⟩ : ∃ y : Int32, Int32.ofNat (d.2 (1000 + (nI (5 * j + 1)).toNatClampNeg)) = y := ⟨_, rfl⟩
  refine tw_ti (v := .int y4) (fun _ _ z => z.xs.2.2.2.2.2) dL_law__826 (vp_in_nI (by omega) (by omega)) (congrArg Value.int ey4) ?_
  refine tw_aload_n 0 dL_law__827 rfl rfl ?_
  refine tw_iload 4 dL_law__828 rfl ?_
  refine tw_iconst (v := 2) dL_law__830 (by decide) ?_
  refine tw_iadd dL_law__831 ?_
  refine tw_nmi (fun v5 ev5 => ?_)
  have q6 : v5 = nI (5 * j + 2) := by rw [ev5]; exact tw_s2 _
  rw [q6]
  obtain ⟨y7, ey7⟩ : ∃ y : Int32, Int32.ofNat (d.2 (1000 + (nI (5 * j + 2)).toNatClampNeg)) = y := ⟨_, rfl⟩
  refine tw_ti (v := .int y7) (fun _ _ z => z.xs.2.2.2.2.2) dL_law__832 (vp_in_nI (by omega) (by omega)) (congrArg Value.int ey7) ?_
  refine tw_aload_n 0 dL_law__833 rfl rfl ?_
  refine tw_iload 4 dL_law__834 rfl ?_
  refine tw_iconst (v := 3) dL_law__836 (by decide) ?_
  refine tw_iadd dL_law__837 ?_
  refine tw_nmi (fun v8 ev8 => ?_)
  have q9 : v8 = nI (5 * j + 3) := by rw [ev8]; exact tw_s3 _
  rw [q9]
  obtain ⟨y10, ey10⟩ : ∃ y : Int32, Int32.ofNat (d.2 (1000 + (nI (5 * j + 3)).toNatClampNeg)) = y := ⟨_, rfl⟩
  refine tw_ti (v := .int y10) (fun _ _ z => z.xs.2.2.2.2.2) dL_law__838 (vp_in_nI (by omega) (by omega)) (congrArg Value.int ey10) ?_
  refine tw_aload_n 3 dL_law__839 rfl rfl ?_
  refine tw_bi (tw_callSH (M := mL_law_) (pc := 840) okL_till dL_law__840 w_754 [.ref x, .int y4, .int y7, .int y10, .ref o] [] rfl rfl ⟨by decide, by decide⟩ (Nat.le_of_ble_eq_true rfl) (c_L_till d g τ h sp1.1 x ok.2.2.1 y4 y7 y10 o ok.2.2.2.2) ((c + 900) - 20) ((n + 5000) - 120) (by omega) (by omega)) (fun r13 h12 q11 => ?_) (fun E h1 q => q.elim)
  rcases q11 with ⟨q11e, q11cI, q11cR, q11n, τc, q11s⟩ | ⟨q11e, q11cI, τc, q11s⟩ | ⟨q11e, q11cI, q11cR, τc, q11s⟩
  · rw [q11e]
    have h49 := (tw_b678 ok.1 ok.2.2.1).1
    obtain ⟨gL, egL⟩ : ∃ z : tw_G, z = (tw_g1 g (160 + 64 * tw_DN y4 + 32 + tw_DN y7) y10) := ⟨_, rfl⟩
    rw [← egL] at q11s
    have gl3 : gL.2 3 = g.2 3 := by rw [egL]; rfl
    have gl4 : gL.2 4 = g.2 4 := by rw [egL]; rfl
    have gl5 : gL.2 5 = g.2 5 := by rw [egL]; rfl
    have gl9 : gL.2 9 = g.2 9 := by rw [egL]; rfl
    have gl22 : gL.2 22 = g.2 22 := by rw [egL]; rfl
    have kx1 := q11s.2.1.k ok.2.2.1 (by decide)
    have km1 := q11s.2.1.k ok.2.2.2.1 (by decide)
    have ko1 := q11s.2.1.k ok.2.2.2.2 (by decide)
    refine tw_istore [(5, .int 0), (0, .ref (d.2 98)), (1, .ref x), (2, .ref m), (3, .ref o), (4, .int (nI (5 * j)))] dL_law__843 (by decide) rfl ?_
    refine tw_aload_n 3 dL_law__845 rfl rfl ?_
    refine tw_aload_n 1 dL_law__846 rfl rfl ?_
    refine tw_iload 5 dL_law__847 rfl ?_
    refine tw_iconst (v := 1) dL_law__849 (by decide) ?_
    refine tw_iadd dL_law__850 ?_
    refine tw_nmi (fun v14 ev14 => ?_)
    have q15 : v14 = nI (5 * j + 1) := by rw [ev14]; exact tw_s1 _
    rw [q15]
    refine tw_ti (v := .int y4) (fun _ _ z => z.xs.2.2.2.2.2) dL_law__851 (vp_in_nI (by omega) (by omega)) (congrArg Value.int ey4) ?_
    refine tw_aload_n 1 dL_law__852 rfl rfl ?_
    refine tw_iload 5 dL_law__853 rfl ?_
    refine tw_iconst (v := 2) dL_law__855 (by decide) ?_
    refine tw_iadd dL_law__856 ?_
    refine tw_nmi (fun v16 ev16 => ?_)
    have q17 : v16 = nI (5 * j + 2) := by rw [ev16]; exact tw_s2 _
    rw [q17]
    refine tw_ti (v := .int y7) (fun _ _ z => z.xs.2.2.2.2.2) dL_law__857 (vp_in_nI (by omega) (by omega)) (congrArg Value.int ey7) ?_
    refine tw_aload_n 1 dL_law__858 rfl rfl ?_
    refine tw_iload 5 dL_law__859 rfl ?_
    refine tw_iconst (v := 3) dL_law__861 (by decide) ?_
    refine tw_iadd dL_law__862 ?_
    refine tw_nmi (fun v18 ev18 => ?_)
    have q19 : v18 = nI (5 * j + 3) := by rw [ev18]; exact tw_s3 _
    rw [q19]
    refine tw_ti (v := .int y10) (fun _ _ z => z.xs.2.2.2.2.2) dL_law__863 (vp_in_nI (by omega) (by omega)) (congrArg Value.int ey10) ?_
    obtain ⟨e20, f21, th_22, td_23, ds_24, fr_25, ca_26, us_27, wo_28, cm_29, lc_30, lh_31, ld_32, rfl, k33, k34, k35, k36, k37, k38, k39, k40, k41, k42, k43, k44, k45, k46, k47, k48, k49, k50⟩ := (tw_sp.rf q11s.1).1 m 36 km1 (by decide)
    refine tw_bi (tw_callV (M := mL_law_) (pc := 864) okX10_till dL_law__864 w_1476 rfl f21 [.int y4, .int y7, .int y10] [] rfl rfl ⟨by decide, by decide⟩ (Nat.le_of_ble_eq_true rfl) (c2_X10_till d gL τc h12 (tw_sp.rf q11s.1).1 m km1 y4 y7 y10 o ko1) ((c + 900) - 20) ((n + 5000) - 120) (by omega) (by omega)) (fun r53 h52 q51 => ?_) (fun E h1 q => q.elim)
    obtain ⟨g9, τ9, s9, oq9, q51a⟩ := q51
    have kx2 := s9.2.1.k kx1 (by decide)
    have km2 := s9.2.1.k km1 (by decide)
    have ko2 := s9.2.1.k ko1 (by decide)
    have q11cI3 : (tw_ix (gL.2 3) y4 ∧ tw_ix 5 y7) := by rw [gl3, ← ok.2.1.2.2.2.1.trans ok.2.1.1]; exact q11cI
    rcases q51a with ⟨z, -⟩ | ⟨-, z, -⟩ | ⟨-, -, hr2, ht, gk9⟩
    · exact absurd q11cI3 z
    · exact absurd q11cR z
    · rw [hr2]
      have ok9 : tw_ok5 d x m o g9 τ9 h52 := ⟨s9.1, (by rw [gk9, egL]; exact ok.2.1.till q11cI q11cR h49), kx2, km2, ko2⟩
      have hlg : tw_lg (h52 o) = (g.1 (160 + 64 * tw_DN y4 + 32 + tw_DN y7)).toInt64 := by rw [oq9]; exact q11n
      have sp54 := tw_sp.rf ok9.1
      refine tw_istore [(6, .int (gL.1 (480 + 64 * tw_DN y4 + 24 + tw_DN y7))), (5, .int 0), (0, .ref (d.2 98)), (1, .ref x), (2, .ref m), (3, .ref o), (4, .int (nI (5 * j)))] dL_law__867 (by decide) rfl ?_
      refine tw_goto 1391 dL_law__869 (by decide) ?_
      refine tw_lv [2, 3, 4, 5, 6] rfl ?_
      refine tw_less (c2 := c) (n2 := n) (by omega) (by omega) ?_
      exact J _ _ _ ok9
  · rw [q11e]
    have h49 := (tw_b678 ok.1 ok.2.2.1).1
    have kx1 := q11s.2.1.k ok.2.2.1 (by decide)
    have km1 := q11s.2.1.k ok.2.2.2.1 (by decide)
    have ko1 := q11s.2.1.k ok.2.2.2.2 (by decide)
    refine tw_istore [(5, .int 1), (0, .ref (d.2 98)), (1, .ref x), (2, .ref m), (3, .ref o), (4, .int (nI (5 * j)))] dL_law__843 (by decide) rfl ?_
    refine tw_aload_n 3 dL_law__845 rfl rfl ?_
    refine tw_aload_n 1 dL_law__846 rfl rfl ?_
    refine tw_iload 5 dL_law__847 rfl ?_
    refine tw_iconst (v := 1) dL_law__849 (by decide) ?_
    refine tw_iadd dL_law__850 ?_
    refine tw_nmi (fun v55 ev55 => ?_)
    have q56 : v55 = nI (5 * j + 1) := by rw [ev55]; exact tw_s1 _
    rw [q56]
    refine tw_ti (v := .int y4) (fun _ _ z => z.xs.2.2.2.2.2) dL_law__851 (vp_in_nI (by omega) (by omega)) (congrArg Value.int ey4) ?_
    refine tw_aload_n 1 dL_law__852 rfl rfl ?_
    refine tw_iload 5 dL_law__853 rfl ?_
    refine tw_iconst (v := 2) dL_law__855 (by decide) ?_
    refine tw_iadd dL_law__856 ?_
    refine tw_nmi (fun v57 ev57 => ?_)
    have q58 : v57 = nI (5 * j + 2) := by rw [ev57]; exact tw_s2 _
    rw [q58]
    refine tw_ti (v := .int y7) (fun _ _ z => z.xs.2.2.2.2.2) dL_law__857 (vp_in_nI (by omega) (by omega)) (congrArg Value.int ey7) ?_
    refine tw_aload_n 1 dL_law__858 rfl rfl ?_
    refine tw_iload 5 dL_law__859 rfl ?_
    refine tw_iconst (v := 3) dL_law__861 (by decide) ?_
    refine tw_iadd dL_law__862 ?_
    refine tw_nmi (fun v59 ev59 => ?_)
    have q60 : v59 = nI (5 * j + 3) := by rw [ev59]; exact tw_s3 _
    rw [q60]
    refine tw_ti (v := .int y10) (fun _ _ z => z.xs.2.2.2.2.2) dL_law__863 (vp_in_nI (by omega) (by omega)) (congrArg Value.int ey10) ?_
    obtain ⟨e61, f62, th_63, td_64, ds_65, fr_66, ca_67, us_68, wo_69, cm_70, lc_71, lh_72, ld_73, rfl, k74, k75, k76, k77, k78, k79, k80, k81, k82, k83, k84, k85, k86, k87, k88, k89, k90, k91⟩ := (tw_sp.rf q11s.1).1 m 36 km1 (by decide)
    refine tw_bi (tw_callV (M := mL_law_) (pc := 864) okX10_till dL_law__864 w_1476 rfl f62 [.int y4, .int y7, .int y10] [] rfl rfl ⟨by decide, by decide⟩ (Nat.le_of_ble_eq_true rfl) (c2_X10_till d g τc h12 (tw_sp.rf q11s.1).1 m km1 y4 y7 y10 o ko1) ((c + 900) - 20) ((n + 5000) - 120) (by omega) (by omega)) (fun r94 h93 q92 => ?_) (fun E h1 q => q.elim)
    obtain ⟨g9, τ9, s9, oq9, q92a⟩ := q92
    have kx2 := s9.2.1.k kx1 (by decide)
    have km2 := s9.2.1.k km1 (by decide)
    have ko2 := s9.2.1.k ko1 (by decide)
    have q11cI3 : ¬ (tw_ix (g.2 3) y4 ∧ tw_ix 5 y7) := by rw [← ok.2.1.2.2.2.1.trans ok.2.1.1]; exact q11cI
    rcases q92a with ⟨-, ht, eg9⟩ | ⟨z, -⟩ | ⟨z, -⟩
    · rw [eg9] at s9
      have ok9 : tw_ok5 d x m o g τ9 h93 := ⟨s9.1, ok.2.1, kx2, km2, ko2⟩
      have sp95 := tw_sp.rf ok9.1
      refine tw_istore [(6, .int r94), (5, .int 1), (0, .ref (d.2 98)), (1, .ref x), (2, .ref m), (3, .ref o), (4, .int (nI (5 * j)))] dL_law__867 (by decide) rfl ?_
      refine tw_goto 1391 dL_law__869 (by decide) ?_
      refine tw_lv [2, 3, 4, 5, 6] rfl ?_
      refine tw_less (c2 := c) (n2 := n) (by omega) (by omega) ?_
      exact J _ _ _ ok9
    · exact absurd z q11cI3
    · exact absurd z q11cI3
  · rw [q11e]
    have h49 := (tw_b678 ok.1 ok.2.2.1).1
    have kx1 := q11s.2.1.k ok.2.2.1 (by decide)
    have km1 := q11s.2.1.k ok.2.2.2.1 (by decide)
    have ko1 := q11s.2.1.k ok.2.2.2.2 (by decide)
    refine tw_istore [(5, .int 2), (0, .ref (d.2 98)), (1, .ref x), (2, .ref m), (3, .ref o), (4, .int (nI (5 * j)))] dL_law__843 (by decide) rfl ?_
    refine tw_aload_n 3 dL_law__845 rfl rfl ?_
    refine tw_aload_n 1 dL_law__846 rfl rfl ?_
    refine tw_iload 5 dL_law__847 rfl ?_
    refine tw_iconst (v := 1) dL_law__849 (by decide) ?_
    refine tw_iadd dL_law__850 ?_
    refine tw_nmi (fun v96 ev96 => ?_)
    have q97 : v96 = nI (5 * j + 1) := by rw [ev96]; exact tw_s1 _
    rw [q97]
    refine tw_ti (v := .int y4) (fun _ _ z => z.xs.2.2.2.2.2) dL_law__851 (vp_in_nI (by omega) (by omega)) (congrArg Value.int ey4) ?_
    refine tw_aload_n 1 dL_law__852 rfl rfl ?_
    refine tw_iload 5 dL_law__853 rfl ?_
    refine tw_iconst (v := 2) dL_law__855 (by decide) ?_
    refine tw_iadd dL_law__856 ?_
    refine tw_nmi (fun v98 ev98 => ?_)
    have q99 : v98 = nI (5 * j + 2) := by rw [ev98]; exact tw_s2 _
    rw [q99]
    refine tw_ti (v := .int y7) (fun _ _ z => z.xs.2.2.2.2.2) dL_law__857 (vp_in_nI (by omega) (by omega)) (congrArg Value.int ey7) ?_
    refine tw_aload_n 1 dL_law__858 rfl rfl ?_
    refine tw_iload 5 dL_law__859 rfl ?_
    refine tw_iconst (v := 3) dL_law__861 (by decide) ?_
    refine tw_iadd dL_law__862 ?_
    refine tw_nmi (fun v100 ev100 => ?_)
    have q101 : v100 = nI (5 * j + 3) := by rw [ev100]; exact tw_s3 _
    rw [q101]
    refine tw_ti (v := .int y10) (fun _ _ z => z.xs.2.2.2.2.2) dL_law__863 (vp_in_nI (by omega) (by omega)) (congrArg Value.int ey10) ?_
    obtain ⟨e102, f103, th_104, td_105, ds_106, fr_107, ca_108, us_109, wo_110, cm_111, lc_112, lh_113, ld_114, rfl, k115, k116, k117, k118, k119, k120, k121, k122, k123, k124, k125, k126, k127, k128, k129, k130, k131, k132⟩ := (tw_sp.rf q11s.1).1 m 36 km1 (by decide)
    refine tw_bi (tw_callV (M := mL_law_) (pc := 864) okX10_till dL_law__864 w_1476 rfl f103 [.int y4, .int y7, .int y10] [] rfl rfl ⟨by decide, by decide⟩ (Nat.le_of_ble_eq_true rfl) (c2_X10_till d g τc h12 (tw_sp.rf q11s.1).1 m km1 y4 y7 y10 o ko1) ((c + 900) - 20) ((n + 5000) - 120) (by omega) (by omega)) (fun r135 h134 q133 => ?_) (fun E h1 q => q.elim)
    obtain ⟨g9, τ9, s9, oq9, q133a⟩ := q133
    have kx2 := s9.2.1.k kx1 (by decide)
    have km2 := s9.2.1.k km1 (by decide)
    have ko2 := s9.2.1.k ko1 (by decide)
    have q11cI3 : (tw_ix (g.2 3) y4 ∧ tw_ix 5 y7) := by rw [← ok.2.1.2.2.2.1.trans ok.2.1.1]; exact q11cI
    rcases q133a with ⟨z, -⟩ | ⟨-, -, ht, eg9⟩ | ⟨-, z, -⟩
    · exact absurd q11cI3 z
    · rw [eg9] at s9
      have ok9 : tw_ok5 d x m o g τ9 h134 := ⟨s9.1, ok.2.1, kx2, km2, ko2⟩
      have sp136 := tw_sp.rf ok9.1
      refine tw_istore [(6, .int r135), (5, .int 2), (0, .ref (d.2 98)), (1, .ref x), (2, .ref m), (3, .ref o), (4, .int (nI (5 * j)))] dL_law__867 (by decide) rfl ?_
      refine tw_goto 1391 dL_law__869 (by decide) ?_
      refine tw_lv [2, 3, 4, 5, 6] rfl ?_
      refine tw_less (c2 := c) (n2 := n) (by omega) (by omega) ?_
      exact J _ _ _ ok9
    · exact absurd z q11cR

set_option maxHeartbeats 4000000 in
set_option maxRecDepth 100000 in
theorem law_case_14 (d : tw_D) (x m o j c n : Nat) (Q : tw_O → tw_H → Prop) (hL : d.2 97 ≤ 2560) (hj : 5 * j + 5 ≤ d.2 97) (J : tw_J d x m o j Q c n) (g : tw_G) (τ : tw_K) (h : tw_H) (ok : tw_ok5 d x m o g τ h) : tw_W d mL_law_ Q 872 (tw_lv5 d x m o j) [] h (c + 900) (n + 5000) := by
  show tw_W d mL_law_ Q 872 [(0, .ref (d.2 98)), (1, .ref x), (2, .ref m), (3, .ref o), (4, .int (nI (5 * j)))] [] h (c + 900) (n + 5000)
  have sp1 := tw_sp.rf ok.1
  refine tw_aload_n 1 dL_law__872 rfl rfl ?_
  refine tw_aload_n 0 dL_law__873 rfl rfl ?_
  refine tw_iload 4 dL_law__874 rfl ?_
  refine tw_iconst (v := 1) dL_law__876 (by decide) ?_
  refine tw_iadd dL_law__877 ?_
  refine tw_nmi (fun v2 ev2 => ?_)
  have q3 : v2 = nI (5 * j + 1) := by rw [ev2]; exact tw_s1 _
  rw [q3]
  obtain ⟨y4, ey4⟩ : ∃ y : Int32, Int32.ofNat (d.2 (1000 + (nI (5 * j + 1)).toNatClampNeg)) = y := ⟨_, rfl⟩
  refine tw_ti (v := .int y4) (fun _ _ z => z.xs.2.2.2.2.2) dL_law__878 (vp_in_nI (by omega) (by omega)) (congrArg Value.int ey4) ?_
  refine tw_aload_n 0 dL_law__879 rfl rfl ?_
  refine tw_iload 4 dL_law__880 rfl ?_
  refine tw_iconst (v := 2) dL_law__882 (by decide) ?_
  refine tw_iadd dL_law__883 ?_
  refine tw_nmi (fun v5 ev5 => ?_)
  have q6 : v5 = nI (5 * j + 2) := by rw [ev5]; exact tw_s2 _
  rw [q6]
  obtain ⟨y7, ey7⟩ : ∃ y : Int32, Int32.ofNat (d.2 (1000 + (nI (5 * j + 2)).toNatClampNeg)) = y := ⟨_, rfl⟩
  refine tw_ti (v := .int y7) (fun _ _ z => z.xs.2.2.2.2.2) dL_law__884 (vp_in_nI (by omega) (by omega)) (congrArg Value.int ey7) ?_
  refine tw_aload_n 3 dL_law__885 rfl rfl ?_
  refine tw_bi (tw_callSH (M := mL_law_) (pc := 886) okL_give dL_law__886 w_767 [.ref x, .int y4, .int y7, .ref o] [] rfl rfl ⟨by decide, by decide⟩ (Nat.le_of_ble_eq_true rfl) (c_L_give d g τ h sp1.1 x ok.2.2.1 y4 y7 o ok.2.2.2.2 (ok.2.1.tc (tw_b678 ok.1 ok.2.2.1).1)) ((c + 900) - 20) ((n + 5000) - 120) (by omega) (by omega)) (fun r10 h9 q8 => ?_) (fun E h1 q => q.elim)
  rcases q8 with ⟨q8e, q8cI, q8cR, q8cL, q8n, τc, q8s⟩ | ⟨q8e, q8cI, τc, q8s⟩ | ⟨q8e, q8cI, q8cR, τc, q8s⟩ | ⟨q8e, q8cI, q8cR, q8cL, τc, q8s⟩
  · rw [q8e]
    have h49 := (tw_b678 ok.1 ok.2.2.1).1
    obtain ⟨gL, egL⟩ : ∃ z : tw_G, z = (tw_gT g (160 + 64 * tw_DN y4 + 32) (tw_gF (tw_chC g y4 y7))) := ⟨_, rfl⟩
    rw [← egL] at q8s
    have gl3 : gL.2 3 = g.2 3 := by rw [egL]; rfl
    have gl4 : gL.2 4 = g.2 4 := by rw [egL]; rfl
    have gl5 : gL.2 5 = g.2 5 := by rw [egL]; rfl
    have gl9 : gL.2 9 = g.2 9 := by rw [egL]; rfl
    have gl22 : gL.2 22 = g.2 22 := by rw [egL]; rfl
    have kx1 := q8s.2.1.k ok.2.2.1 (by decide)
    have km1 := q8s.2.1.k ok.2.2.2.1 (by decide)
    have ko1 := q8s.2.1.k ok.2.2.2.2 (by decide)
    refine tw_istore [(5, .int 0), (0, .ref (d.2 98)), (1, .ref x), (2, .ref m), (3, .ref o), (4, .int (nI (5 * j)))] dL_law__889 (by decide) rfl ?_
    refine tw_aload_n 3 dL_law__891 rfl rfl ?_
    refine tw_aload_n 1 dL_law__892 rfl rfl ?_
    refine tw_iload 5 dL_law__893 rfl ?_
    refine tw_iconst (v := 1) dL_law__895 (by decide) ?_
    refine tw_iadd dL_law__896 ?_
    refine tw_nmi (fun v11 ev11 => ?_)
    have q12 : v11 = nI (5 * j + 1) := by rw [ev11]; exact tw_s1 _
    rw [q12]
    refine tw_ti (v := .int y4) (fun _ _ z => z.xs.2.2.2.2.2) dL_law__897 (vp_in_nI (by omega) (by omega)) (congrArg Value.int ey4) ?_
    refine tw_aload_n 1 dL_law__898 rfl rfl ?_
    refine tw_iload 5 dL_law__899 rfl ?_
    refine tw_iconst (v := 2) dL_law__901 (by decide) ?_
    refine tw_iadd dL_law__902 ?_
    refine tw_nmi (fun v13 ev13 => ?_)
    have q14 : v13 = nI (5 * j + 2) := by rw [ev13]; exact tw_s2 _
    rw [q14]
    refine tw_ti (v := .int y7) (fun _ _ z => z.xs.2.2.2.2.2) dL_law__903 (vp_in_nI (by omega) (by omega)) (congrArg Value.int ey7) ?_
    obtain ⟨e15, f16, th_17, td_18, ds_19, fr_20, ca_21, us_22, wo_23, cm_24, lc_25, lh_26, ld_27, rfl, k28, k29, k30, k31, k32, k33, k34, k35, k36, k37, k38, k39, k40, k41, k42, k43, k44, k45⟩ := (tw_sp.rf q8s.1).1 m 36 km1 (by decide)
    refine tw_bi (tw_callV (M := mL_law_) (pc := 904) okX10_give dL_law__904 w_1480 rfl f16 [.int y4, .int y7] [] rfl rfl ⟨by decide, by decide⟩ (Nat.le_of_ble_eq_true rfl) (c2_X10_give d gL τc h9 (tw_sp.rf q8s.1).1 m km1 y4 y7 o ko1) (((c + 900) - 20) - 500) (((n + 5000) - 120) - 2500) (by omega) (by omega)) (fun r48 h47 q46 => ?_) (fun E h1 q => q.elim)
    obtain ⟨g9, τ9, s9, oq9, q46a⟩ := q46
    have kx2 := s9.2.1.k kx1 (by decide)
    have km2 := s9.2.1.k km1 (by decide)
    have ko2 := s9.2.1.k ko1 (by decide)
    have q8cI3 : tw_ix (gL.2 3) y4 := by rw [gl3, ← ok.2.1.2.2.2.1.trans ok.2.1.1]; exact q8cI
    have q8cL3 : (tw_chM gL y4 y7 ≠ none) := by rw [egL, tw_chM_L (Nat.lt_of_lt_of_le (tw_ix_DN q8cI (Nat.le_trans h49 (by decide))) h49), ← tw_I9.ch ok.2.1 q8cI h49]; exact q8cL
    rcases q46a with ⟨z, -⟩ | ⟨-, z, -⟩ | ⟨-, -, z, -⟩ | ⟨-, -, -, hr2, ht, gk9⟩
    · exact absurd q8cI3 z
    · exact absurd q8cR z
    · exact absurd q8cL3 z
    · rw [hr2]
      have ok9 : tw_ok5 d x m o g9 τ9 h47 := ⟨s9.1, (by rw [gk9, egL]; exact ok.2.1.give q8cI q8cR h49), kx2, km2, ko2⟩
      have hlg : tw_lg (h47 o) = (nI (tw_sum5 (tw_gF (tw_chC g y4 y7)))).toInt64 := by rw [oq9]; exact q8n
      have sp49 := tw_sp.rf ok9.1
      refine tw_istore [(6, .int (nI (tw_sum5 (tw_gF (tw_chM gL y4 y7))))), (5, .int 0), (0, .ref (d.2 98)), (1, .ref x), (2, .ref m), (3, .ref o), (4, .int (nI (5 * j)))] dL_law__907 (by decide) rfl ?_
      refine tw_goto 1391 dL_law__909 (by decide) ?_
      refine tw_lv [2, 3, 4, 5, 6] rfl ?_
      refine tw_less (c2 := c) (n2 := n) (by omega) (by omega) ?_
      exact J _ _ _ ok9
  · rw [q8e]
    have h49 := (tw_b678 ok.1 ok.2.2.1).1
    have kx1 := q8s.2.1.k ok.2.2.1 (by decide)
    have km1 := q8s.2.1.k ok.2.2.2.1 (by decide)
    have ko1 := q8s.2.1.k ok.2.2.2.2 (by decide)
    refine tw_istore [(5, .int 1), (0, .ref (d.2 98)), (1, .ref x), (2, .ref m), (3, .ref o), (4, .int (nI (5 * j)))] dL_law__889 (by decide) rfl ?_
    refine tw_aload_n 3 dL_law__891 rfl rfl ?_
    refine tw_aload_n 1 dL_law__892 rfl rfl ?_
    refine tw_iload 5 dL_law__893 rfl ?_
    refine tw_iconst (v := 1) dL_law__895 (by decide) ?_
    refine tw_iadd dL_law__896 ?_
    refine tw_nmi (fun v50 ev50 => ?_)
    have q51 : v50 = nI (5 * j + 1) := by rw [ev50]; exact tw_s1 _
    rw [q51]
    refine tw_ti (v := .int y4) (fun _ _ z => z.xs.2.2.2.2.2) dL_law__897 (vp_in_nI (by omega) (by omega)) (congrArg Value.int ey4) ?_
    refine tw_aload_n 1 dL_law__898 rfl rfl ?_
    refine tw_iload 5 dL_law__899 rfl ?_
    refine tw_iconst (v := 2) dL_law__901 (by decide) ?_
    refine tw_iadd dL_law__902 ?_
    refine tw_nmi (fun v52 ev52 => ?_)
    have q53 : v52 = nI (5 * j + 2) := by rw [ev52]; exact tw_s2 _
    rw [q53]
    refine tw_ti (v := .int y7) (fun _ _ z => z.xs.2.2.2.2.2) dL_law__903 (vp_in_nI (by omega) (by omega)) (congrArg Value.int ey7) ?_
    obtain ⟨e54, f55, th_56, td_57, ds_58, fr_59, ca_60, us_61, wo_62, cm_63, lc_64, lh_65, ld_66, rfl, k67, k68, k69, k70, k71, k72, k73, k74, k75, k76, k77, k78, k79, k80, k81, k82, k83, k84⟩ := (tw_sp.rf q8s.1).1 m 36 km1 (by decide)
    refine tw_bi (tw_callV (M := mL_law_) (pc := 904) okX10_give dL_law__904 w_1480 rfl f55 [.int y4, .int y7] [] rfl rfl ⟨by decide, by decide⟩ (Nat.le_of_ble_eq_true rfl) (c2_X10_give d g τc h9 (tw_sp.rf q8s.1).1 m km1 y4 y7 o ko1) (((c + 900) - 20) - 500) (((n + 5000) - 120) - 2500) (by omega) (by omega)) (fun r87 h86 q85 => ?_) (fun E h1 q => q.elim)
    obtain ⟨g9, τ9, s9, oq9, q85a⟩ := q85
    have kx2 := s9.2.1.k kx1 (by decide)
    have km2 := s9.2.1.k km1 (by decide)
    have ko2 := s9.2.1.k ko1 (by decide)
    have q8cI3 : ¬ tw_ix (g.2 3) y4 := by rw [← ok.2.1.2.2.2.1.trans ok.2.1.1]; exact q8cI
    rcases q85a with ⟨-, ht, eg9⟩ | ⟨z, -⟩ | ⟨z, -⟩ | ⟨z, -⟩
    · rw [eg9] at s9
      have ok9 : tw_ok5 d x m o g τ9 h86 := ⟨s9.1, ok.2.1, kx2, km2, ko2⟩
      have sp88 := tw_sp.rf ok9.1
      refine tw_istore [(6, .int r87), (5, .int 1), (0, .ref (d.2 98)), (1, .ref x), (2, .ref m), (3, .ref o), (4, .int (nI (5 * j)))] dL_law__907 (by decide) rfl ?_
      refine tw_goto 1391 dL_law__909 (by decide) ?_
      refine tw_lv [2, 3, 4, 5, 6] rfl ?_
      refine tw_less (c2 := c) (n2 := n) (by omega) (by omega) ?_
      exact J _ _ _ ok9
    · exact absurd z q8cI3
    · exact absurd z q8cI3
    · exact absurd z q8cI3
  · rw [q8e]
    have h49 := (tw_b678 ok.1 ok.2.2.1).1
    have kx1 := q8s.2.1.k ok.2.2.1 (by decide)
    have km1 := q8s.2.1.k ok.2.2.2.1 (by decide)
    have ko1 := q8s.2.1.k ok.2.2.2.2 (by decide)
    refine tw_istore [(5, .int 2), (0, .ref (d.2 98)), (1, .ref x), (2, .ref m), (3, .ref o), (4, .int (nI (5 * j)))] dL_law__889 (by decide) rfl ?_
    refine tw_aload_n 3 dL_law__891 rfl rfl ?_
    refine tw_aload_n 1 dL_law__892 rfl rfl ?_
    refine tw_iload 5 dL_law__893 rfl ?_
    refine tw_iconst (v := 1) dL_law__895 (by decide) ?_
    refine tw_iadd dL_law__896 ?_
    refine tw_nmi (fun v89 ev89 => ?_)
    have q90 : v89 = nI (5 * j + 1) := by rw [ev89]; exact tw_s1 _
    rw [q90]
    refine tw_ti (v := .int y4) (fun _ _ z => z.xs.2.2.2.2.2) dL_law__897 (vp_in_nI (by omega) (by omega)) (congrArg Value.int ey4) ?_
    refine tw_aload_n 1 dL_law__898 rfl rfl ?_
    refine tw_iload 5 dL_law__899 rfl ?_
    refine tw_iconst (v := 2) dL_law__901 (by decide) ?_
    refine tw_iadd dL_law__902 ?_
    refine tw_nmi (fun v91 ev91 => ?_)
    have q92 : v91 = nI (5 * j + 2) := by rw [ev91]; exact tw_s2 _
    rw [q92]
    refine tw_ti (v := .int y7) (fun _ _ z => z.xs.2.2.2.2.2) dL_law__903 (vp_in_nI (by omega) (by omega)) (congrArg Value.int ey7) ?_
    obtain ⟨e93, f94, th_95, td_96, ds_97, fr_98, ca_99, us_100, wo_101, cm_102, lc_103, lh_104, ld_105, rfl, k106, k107, k108, k109, k110, k111, k112, k113, k114, k115, k116, k117, k118, k119, k120, k121, k122, k123⟩ := (tw_sp.rf q8s.1).1 m 36 km1 (by decide)
    refine tw_bi (tw_callV (M := mL_law_) (pc := 904) okX10_give dL_law__904 w_1480 rfl f94 [.int y4, .int y7] [] rfl rfl ⟨by decide, by decide⟩ (Nat.le_of_ble_eq_true rfl) (c2_X10_give d g τc h9 (tw_sp.rf q8s.1).1 m km1 y4 y7 o ko1) (((c + 900) - 20) - 500) (((n + 5000) - 120) - 2500) (by omega) (by omega)) (fun r126 h125 q124 => ?_) (fun E h1 q => q.elim)
    obtain ⟨g9, τ9, s9, oq9, q124a⟩ := q124
    have kx2 := s9.2.1.k kx1 (by decide)
    have km2 := s9.2.1.k km1 (by decide)
    have ko2 := s9.2.1.k ko1 (by decide)
    have q8cI3 : tw_ix (g.2 3) y4 := by rw [← ok.2.1.2.2.2.1.trans ok.2.1.1]; exact q8cI
    rcases q124a with ⟨z, -⟩ | ⟨-, -, ht, eg9⟩ | ⟨-, z, -⟩ | ⟨-, z, -⟩
    · exact absurd q8cI3 z
    · rw [eg9] at s9
      have ok9 : tw_ok5 d x m o g τ9 h125 := ⟨s9.1, ok.2.1, kx2, km2, ko2⟩
      have sp127 := tw_sp.rf ok9.1
      refine tw_istore [(6, .int r126), (5, .int 2), (0, .ref (d.2 98)), (1, .ref x), (2, .ref m), (3, .ref o), (4, .int (nI (5 * j)))] dL_law__907 (by decide) rfl ?_
      refine tw_goto 1391 dL_law__909 (by decide) ?_
      refine tw_lv [2, 3, 4, 5, 6] rfl ?_
      refine tw_less (c2 := c) (n2 := n) (by omega) (by omega) ?_
      exact J _ _ _ ok9
    · exact absurd z q8cR
    · exact absurd z q8cR
  · rw [q8e]
    have h49 := (tw_b678 ok.1 ok.2.2.1).1
    have kx1 := q8s.2.1.k ok.2.2.1 (by decide)
    have km1 := q8s.2.1.k ok.2.2.2.1 (by decide)
    have ko1 := q8s.2.1.k ok.2.2.2.2 (by decide)
    refine tw_istore [(5, .int 3), (0, .ref (d.2 98)), (1, .ref x), (2, .ref m), (3, .ref o), (4, .int (nI (5 * j)))] dL_law__889 (by decide) rfl ?_
    refine tw_aload_n 3 dL_law__891 rfl rfl ?_
    refine tw_aload_n 1 dL_law__892 rfl rfl ?_
    refine tw_iload 5 dL_law__893 rfl ?_
    refine tw_iconst (v := 1) dL_law__895 (by decide) ?_
    refine tw_iadd dL_law__896 ?_
    refine tw_nmi (fun v128 ev128 => ?_)
    have q129 : v128 = nI (5 * j + 1) := by rw [ev128]; exact tw_s1 _
    rw [q129]
    refine tw_ti (v := .int y4) (fun _ _ z => z.xs.2.2.2.2.2) dL_law__897 (vp_in_nI (by omega) (by omega)) (congrArg Value.int ey4) ?_
    refine tw_aload_n 1 dL_law__898 rfl rfl ?_
    refine tw_iload 5 dL_law__899 rfl ?_
    refine tw_iconst (v := 2) dL_law__901 (by decide) ?_
    refine tw_iadd dL_law__902 ?_
    refine tw_nmi (fun v130 ev130 => ?_)
    have q131 : v130 = nI (5 * j + 2) := by rw [ev130]; exact tw_s2 _
    rw [q131]
    refine tw_ti (v := .int y7) (fun _ _ z => z.xs.2.2.2.2.2) dL_law__903 (vp_in_nI (by omega) (by omega)) (congrArg Value.int ey7) ?_
    obtain ⟨e132, f133, th_134, td_135, ds_136, fr_137, ca_138, us_139, wo_140, cm_141, lc_142, lh_143, ld_144, rfl, k145, k146, k147, k148, k149, k150, k151, k152, k153, k154, k155, k156, k157, k158, k159, k160, k161, k162⟩ := (tw_sp.rf q8s.1).1 m 36 km1 (by decide)
    refine tw_bi (tw_callV (M := mL_law_) (pc := 904) okX10_give dL_law__904 w_1480 rfl f133 [.int y4, .int y7] [] rfl rfl ⟨by decide, by decide⟩ (Nat.le_of_ble_eq_true rfl) (c2_X10_give d g τc h9 (tw_sp.rf q8s.1).1 m km1 y4 y7 o ko1) (((c + 900) - 20) - 500) (((n + 5000) - 120) - 2500) (by omega) (by omega)) (fun r165 h164 q163 => ?_) (fun E h1 q => q.elim)
    obtain ⟨g9, τ9, s9, oq9, q163a⟩ := q163
    have kx2 := s9.2.1.k kx1 (by decide)
    have km2 := s9.2.1.k km1 (by decide)
    have ko2 := s9.2.1.k ko1 (by decide)
    have q8cI3 : tw_ix (g.2 3) y4 := by rw [← ok.2.1.2.2.2.1.trans ok.2.1.1]; exact q8cI
    have q8cL3 : ¬(tw_chM g y4 y7 ≠ none) := by rw [← tw_I9.ch ok.2.1 q8cI h49]; exact q8cL
    rcases q163a with ⟨z, -⟩ | ⟨-, z, -⟩ | ⟨-, -, -, ht, eg9⟩ | ⟨-, -, z, -⟩
    · exact absurd q8cI3 z
    · exact absurd q8cR z
    · rw [eg9] at s9
      have ok9 : tw_ok5 d x m o g τ9 h164 := ⟨s9.1, ok.2.1, kx2, km2, ko2⟩
      have sp166 := tw_sp.rf ok9.1
      refine tw_istore [(6, .int r165), (5, .int 3), (0, .ref (d.2 98)), (1, .ref x), (2, .ref m), (3, .ref o), (4, .int (nI (5 * j)))] dL_law__907 (by decide) rfl ?_
      refine tw_goto 1391 dL_law__909 (by decide) ?_
      refine tw_lv [2, 3, 4, 5, 6] rfl ?_
      refine tw_less (c2 := c) (n2 := n) (by omega) (by omega) ?_
      exact J _ _ _ ok9
    · exact absurd z q8cL3

set_option maxHeartbeats 4000000 in
set_option maxRecDepth 100000 in
theorem law_case_15 (d : tw_D) (x m o j c n : Nat) (Q : tw_O → tw_H → Prop) (hL : d.2 97 ≤ 2560) (hj : 5 * j + 5 ≤ d.2 97) (J : tw_J d x m o j Q c n) (g : tw_G) (τ : tw_K) (h : tw_H) (ok : tw_ok5 d x m o g τ h) : tw_W d mL_law_ Q 912 (tw_lv5 d x m o j) [] h (c + 900) (n + 5000) := by
  show tw_W d mL_law_ Q 912 [(0, .ref (d.2 98)), (1, .ref x), (2, .ref m), (3, .ref o), (4, .int (nI (5 * j)))] [] h (c + 900) (n + 5000)
  have sp1 := tw_sp.rf ok.1
  refine tw_aload_n 1 dL_law__912 rfl rfl ?_
  refine tw_aload_n 0 dL_law__913 rfl rfl ?_
  refine tw_iload 4 dL_law__914 rfl ?_
  refine tw_iconst (v := 1) dL_law__916 (by decide) ?_
  refine tw_iadd dL_law__917 ?_
  refine tw_nmi (fun v2 ev2 => ?_)
  have q3 : v2 = nI (5 * j + 1) := by rw [ev2]; exact tw_s1 _
  rw [q3]
  obtain ⟨y4, ey4⟩ : ∃ y : Int32, Int32.ofNat (d.2 (1000 + (nI (5 * j + 1)).toNatClampNeg)) = y := ⟨_, rfl⟩
  refine tw_ti (v := .int y4) (fun _ _ z => z.xs.2.2.2.2.2) dL_law__918 (vp_in_nI (by omega) (by omega)) (congrArg Value.int ey4) ?_
  refine tw_aload_n 0 dL_law__919 rfl rfl ?_
  refine tw_iload 4 dL_law__920 rfl ?_
  refine tw_iconst (v := 2) dL_law__922 (by decide) ?_
  refine tw_iadd dL_law__923 ?_
  refine tw_nmi (fun v5 ev5 => ?_)
  have q6 : v5 = nI (5 * j + 2) := by rw [ev5]; exact tw_s2 _
  rw [q6]
  obtain ⟨y7, ey7⟩ : ∃ y : Int32, Int32.ofNat (d.2 (1000 + (nI (5 * j + 2)).toNatClampNeg)) = y := ⟨_, rfl⟩
  refine tw_ti (v := .int y7) (fun _ _ z => z.xs.2.2.2.2.2) dL_law__924 (vp_in_nI (by omega) (by omega)) (congrArg Value.int ey7) ?_
  refine tw_aload_n 3 dL_law__925 rfl rfl ?_
  refine tw_bi (tw_callSH (M := mL_law_) (pc := 926) okL_coins dL_law__926 w_780 [.ref x, .int y4, .int y7, .ref o] [] rfl rfl ⟨by decide, by decide⟩ (Nat.le_of_ble_eq_true rfl) (c_L_coins d g τ h sp1.1 x ok.2.2.1 y4 y7 o ok.2.2.2.2 (ok.2.1.tc (tw_b678 ok.1 ok.2.2.1).1)) ((c + 900) - 20) ((n + 5000) - 120) (by omega) (by omega)) (fun r10 h9 q8 => ?_) (fun E h1 q => q.elim)
  rcases q8 with ⟨q8e, q8cI, q8cR, q8n, τc, q8s⟩ | ⟨q8e, q8cI, τc, q8s⟩ | ⟨q8e, q8cI, q8cR, τc, q8s⟩
  · rw [q8e]
    have h49 := (tw_b678 ok.1 ok.2.2.1).1
    obtain ⟨gL, egL⟩ : ∃ z : tw_G, z = (g) := ⟨_, rfl⟩
    rw [← egL] at q8s
    have gl3 : gL.2 3 = g.2 3 := by rw [egL]
    have gl4 : gL.2 4 = g.2 4 := by rw [egL]
    have gl5 : gL.2 5 = g.2 5 := by rw [egL]
    have gl9 : gL.2 9 = g.2 9 := by rw [egL]
    have gl22 : gL.2 22 = g.2 22 := by rw [egL]
    have kx1 := q8s.2.1.k ok.2.2.1 (by decide)
    have km1 := q8s.2.1.k ok.2.2.2.1 (by decide)
    have ko1 := q8s.2.1.k ok.2.2.2.2 (by decide)
    refine tw_istore [(5, .int 0), (0, .ref (d.2 98)), (1, .ref x), (2, .ref m), (3, .ref o), (4, .int (nI (5 * j)))] dL_law__929 (by decide) rfl ?_
    refine tw_aload_n 3 dL_law__931 rfl rfl ?_
    refine tw_aload_n 1 dL_law__932 rfl rfl ?_
    refine tw_iload 5 dL_law__933 rfl ?_
    refine tw_iconst (v := 1) dL_law__935 (by decide) ?_
    refine tw_iadd dL_law__936 ?_
    refine tw_nmi (fun v11 ev11 => ?_)
    have q12 : v11 = nI (5 * j + 1) := by rw [ev11]; exact tw_s1 _
    rw [q12]
    refine tw_ti (v := .int y4) (fun _ _ z => z.xs.2.2.2.2.2) dL_law__937 (vp_in_nI (by omega) (by omega)) (congrArg Value.int ey4) ?_
    refine tw_aload_n 1 dL_law__938 rfl rfl ?_
    refine tw_iload 5 dL_law__939 rfl ?_
    refine tw_iconst (v := 2) dL_law__941 (by decide) ?_
    refine tw_iadd dL_law__942 ?_
    refine tw_nmi (fun v13 ev13 => ?_)
    have q14 : v13 = nI (5 * j + 2) := by rw [ev13]; exact tw_s2 _
    rw [q14]
    refine tw_ti (v := .int y7) (fun _ _ z => z.xs.2.2.2.2.2) dL_law__943 (vp_in_nI (by omega) (by omega)) (congrArg Value.int ey7) ?_
    obtain ⟨e15, f16, th_17, td_18, ds_19, fr_20, ca_21, us_22, wo_23, cm_24, lc_25, lh_26, ld_27, rfl, k28, k29, k30, k31, k32, k33, k34, k35, k36, k37, k38, k39, k40, k41, k42, k43, k44, k45⟩ := (tw_sp.rf q8s.1).1 m 36 km1 (by decide)
    refine tw_bi (tw_callV (M := mL_law_) (pc := 944) okX10_coins dL_law__944 w_1493 rfl f16 [.int y4, .int y7] [] rfl rfl ⟨by decide, by decide⟩ (Nat.le_of_ble_eq_true rfl) (c2_X10_coins d gL τc h9 (tw_sp.rf q8s.1).1 m km1 y4 y7 o ko1) (((c + 900) - 20) - 500) (((n + 5000) - 120) - 2500) (by omega) (by omega)) (fun r48 h47 q46 => ?_) (fun E h1 q => q.elim)
    obtain ⟨g9, τ9, s9, oq9, q46a⟩ := q46
    have kx2 := s9.2.1.k kx1 (by decide)
    have km2 := s9.2.1.k km1 (by decide)
    have ko2 := s9.2.1.k ko1 (by decide)
    have q8cI3 : tw_ix (gL.2 3) y4 := by rw [gl3, ← ok.2.1.2.2.2.1.trans ok.2.1.1]; exact q8cI
    rcases q46a with ⟨z, -⟩ | ⟨-, z, -⟩ | ⟨-, -, hr2, ht, gk9⟩
    · exact absurd q8cI3 z
    · exact absurd q8cR z
    · rw [hr2]
      have ok9 : tw_ok5 d x m o g9 τ9 h47 := ⟨s9.1, (by rw [gk9, egL]; exact ok.2.1), kx2, km2, ko2⟩
      have hlg : tw_lg (h47 o) = (tw_cd (tw_chC g y4 y7)).toInt64 := by rw [oq9]; exact q8n
      have sp49 := tw_sp.rf ok9.1
      refine tw_istore [(6, .int (tw_cd (tw_chM gL y4 y7))), (5, .int 0), (0, .ref (d.2 98)), (1, .ref x), (2, .ref m), (3, .ref o), (4, .int (nI (5 * j)))] dL_law__947 (by decide) rfl ?_
      refine tw_aload_n 4 dL_law__949 rfl rfl ?_
      obtain ⟨e50, f51, th_52, td_53, ds_54, fr_55, ca_56, us_57, wo_58, cm_59, lc_60, lh_61, ld_62, rfl, k63, k64, k65, k66, k67, k68, k69, k70, k71, k72, k73, k74, k75, k76, k77, k78, k79, k80⟩ := sp49.1 m 36 ok9.2.2.2.1 (by decide)
      refine tw_bi (tw_callV (M := mL_law_) (pc := 950) okX10_thrown dL_law__950 w_1188 rfl f51 [] [] rfl rfl ⟨by decide, by decide⟩ (Nat.le_of_ble_eq_true rfl) (c_X10_thrown d g9 τ9 h47 sp49.1 m ok9.2.2.2.1) (((c + 900) - 20) - 500) (((n + 5000) - 120) - 2500) (by omega) (by omega)) (fun r83 h82 q81 => ?_) (fun E h1 q => q.elim)
      obtain ⟨q81a, q81b⟩ := q81
      rw [q81b, ht, q81a]
      refine tw_iload 1 dL_law__953 rfl ?_
      refine tw_icmp_eq 960 dL_law__955 (by decide) (fun _ => ?_) (fun c84 => absurd (by decide) c84)
      refine tw_iload 1 dL_law__960 rfl ?_
      refine tw_if_ne 978 dL_law__962 (by decide) (fun c85 => absurd (by decide) c85) (fun _ => ?_)
      refine tw_aload_n 5 dL_law__965 rfl rfl ?_
      obtain ⟨e86, f87, n_88, s_89, rfl⟩ := sp49.1 o 12 ok9.2.2.2.2 (by decide)
      refine tw_getN (v := .long n_88) rfl in_10 0 dL_law__966 w_380 rfl (by decide) f87 rfl ?_
      refine tw_iload 0 dL_law__969 rfl ?_
      refine tw_i2l dL_law__971 ?_
      refine tw_nml (fun v90 ev90 => ?_)
      refine tw_lcmp dL_law__972 ?_
      refine tw_nmi (fun v91 ev91 => ?_)
      refine tw_if_eq 978 dL_law__973 (by decide) (fun _ => ?_) (fun c92 => absurd (by rw [ev91, ev90]; exact tw_cmpe (by have z := hlg; rw [f87] at z; exact z.trans (congrArg Int32.toInt64 (by rw [egL]; exact tw_V_coins ok.2.1 q8cI h49)))) c92)
      refine tw_goto 1391 dL_law__978 (by decide) ?_
      refine tw_lv [2, 3, 4, 5, 6] rfl ?_
      refine tw_less (c2 := c) (n2 := n) (by omega) (by omega) ?_
      exact J _ _ _ ok9
  · rw [q8e]
    have h49 := (tw_b678 ok.1 ok.2.2.1).1
    have kx1 := q8s.2.1.k ok.2.2.1 (by decide)
    have km1 := q8s.2.1.k ok.2.2.2.1 (by decide)
    have ko1 := q8s.2.1.k ok.2.2.2.2 (by decide)
    refine tw_istore [(5, .int 1), (0, .ref (d.2 98)), (1, .ref x), (2, .ref m), (3, .ref o), (4, .int (nI (5 * j)))] dL_law__929 (by decide) rfl ?_
    refine tw_aload_n 3 dL_law__931 rfl rfl ?_
    refine tw_aload_n 1 dL_law__932 rfl rfl ?_
    refine tw_iload 5 dL_law__933 rfl ?_
    refine tw_iconst (v := 1) dL_law__935 (by decide) ?_
    refine tw_iadd dL_law__936 ?_
    refine tw_nmi (fun v93 ev93 => ?_)
    have q94 : v93 = nI (5 * j + 1) := by rw [ev93]; exact tw_s1 _
    rw [q94]
    refine tw_ti (v := .int y4) (fun _ _ z => z.xs.2.2.2.2.2) dL_law__937 (vp_in_nI (by omega) (by omega)) (congrArg Value.int ey4) ?_
    refine tw_aload_n 1 dL_law__938 rfl rfl ?_
    refine tw_iload 5 dL_law__939 rfl ?_
    refine tw_iconst (v := 2) dL_law__941 (by decide) ?_
    refine tw_iadd dL_law__942 ?_
    refine tw_nmi (fun v95 ev95 => ?_)
    have q96 : v95 = nI (5 * j + 2) := by rw [ev95]; exact tw_s2 _
    rw [q96]
    refine tw_ti (v := .int y7) (fun _ _ z => z.xs.2.2.2.2.2) dL_law__943 (vp_in_nI (by omega) (by omega)) (congrArg Value.int ey7) ?_
    obtain ⟨e97, f98, th_99, td_100, ds_101, fr_102, ca_103, us_104, wo_105, cm_106, lc_107, lh_108, ld_109, rfl, k110, k111, k112, k113, k114, k115, k116, k117, k118, k119, k120, k121, k122, k123, k124, k125, k126, k127⟩ := (tw_sp.rf q8s.1).1 m 36 km1 (by decide)
    refine tw_bi (tw_callV (M := mL_law_) (pc := 944) okX10_coins dL_law__944 w_1493 rfl f98 [.int y4, .int y7] [] rfl rfl ⟨by decide, by decide⟩ (Nat.le_of_ble_eq_true rfl) (c2_X10_coins d g τc h9 (tw_sp.rf q8s.1).1 m km1 y4 y7 o ko1) (((c + 900) - 20) - 500) (((n + 5000) - 120) - 2500) (by omega) (by omega)) (fun r130 h129 q128 => ?_) (fun E h1 q => q.elim)
    obtain ⟨g9, τ9, s9, oq9, q128a⟩ := q128
    have kx2 := s9.2.1.k kx1 (by decide)
    have km2 := s9.2.1.k km1 (by decide)
    have ko2 := s9.2.1.k ko1 (by decide)
    have q8cI3 : ¬ tw_ix (g.2 3) y4 := by rw [← ok.2.1.2.2.2.1.trans ok.2.1.1]; exact q8cI
    rcases q128a with ⟨-, ht, eg9⟩ | ⟨z, -⟩ | ⟨z, -⟩
    · rw [eg9] at s9
      have ok9 : tw_ok5 d x m o g τ9 h129 := ⟨s9.1, ok.2.1, kx2, km2, ko2⟩
      have sp131 := tw_sp.rf ok9.1
      refine tw_istore [(6, .int r130), (5, .int 1), (0, .ref (d.2 98)), (1, .ref x), (2, .ref m), (3, .ref o), (4, .int (nI (5 * j)))] dL_law__947 (by decide) rfl ?_
      refine tw_aload_n 4 dL_law__949 rfl rfl ?_
      obtain ⟨e132, f133, th_134, td_135, ds_136, fr_137, ca_138, us_139, wo_140, cm_141, lc_142, lh_143, ld_144, rfl, k145, k146, k147, k148, k149, k150, k151, k152, k153, k154, k155, k156, k157, k158, k159, k160, k161, k162⟩ := sp131.1 m 36 ok9.2.2.2.1 (by decide)
      refine tw_bi (tw_callV (M := mL_law_) (pc := 950) okX10_thrown dL_law__950 w_1188 rfl f133 [] [] rfl rfl ⟨by decide, by decide⟩ (Nat.le_of_ble_eq_true rfl) (c_X10_thrown d g τ9 h129 sp131.1 m ok9.2.2.2.1) (((c + 900) - 20) - 500) (((n + 5000) - 120) - 2500) (by omega) (by omega)) (fun r165 h164 q163 => ?_) (fun E h1 q => q.elim)
      obtain ⟨q163a, q163b⟩ := q163
      rw [q163b, ht, q163a]
      refine tw_iload 1 dL_law__953 rfl ?_
      refine tw_icmp_eq 960 dL_law__955 (by decide) (fun _ => ?_) (fun c166 => absurd (by decide) c166)
      refine tw_iload 1 dL_law__960 rfl ?_
      refine tw_if_ne 978 dL_law__962 (by decide) (fun _ => ?_) (fun c167 => absurd c167 (by decide))
      refine tw_goto 1391 dL_law__978 (by decide) ?_
      refine tw_lv [2, 3, 4, 5, 6] rfl ?_
      refine tw_less (c2 := c) (n2 := n) (by omega) (by omega) ?_
      exact J _ _ _ ok9
    · exact absurd z q8cI3
    · exact absurd z q8cI3
  · rw [q8e]
    have h49 := (tw_b678 ok.1 ok.2.2.1).1
    have kx1 := q8s.2.1.k ok.2.2.1 (by decide)
    have km1 := q8s.2.1.k ok.2.2.2.1 (by decide)
    have ko1 := q8s.2.1.k ok.2.2.2.2 (by decide)
    refine tw_istore [(5, .int 2), (0, .ref (d.2 98)), (1, .ref x), (2, .ref m), (3, .ref o), (4, .int (nI (5 * j)))] dL_law__929 (by decide) rfl ?_
    refine tw_aload_n 3 dL_law__931 rfl rfl ?_
    refine tw_aload_n 1 dL_law__932 rfl rfl ?_
    refine tw_iload 5 dL_law__933 rfl ?_
    refine tw_iconst (v := 1) dL_law__935 (by decide) ?_
    refine tw_iadd dL_law__936 ?_
    refine tw_nmi (fun v168 ev168 => ?_)
    have q169 : v168 = nI (5 * j + 1) := by rw [ev168]; exact tw_s1 _
    rw [q169]
    refine tw_ti (v := .int y4) (fun _ _ z => z.xs.2.2.2.2.2) dL_law__937 (vp_in_nI (by omega) (by omega)) (congrArg Value.int ey4) ?_
    refine tw_aload_n 1 dL_law__938 rfl rfl ?_
    refine tw_iload 5 dL_law__939 rfl ?_
    refine tw_iconst (v := 2) dL_law__941 (by decide) ?_
    refine tw_iadd dL_law__942 ?_
    refine tw_nmi (fun v170 ev170 => ?_)
    have q171 : v170 = nI (5 * j + 2) := by rw [ev170]; exact tw_s2 _
    rw [q171]
    refine tw_ti (v := .int y7) (fun _ _ z => z.xs.2.2.2.2.2) dL_law__943 (vp_in_nI (by omega) (by omega)) (congrArg Value.int ey7) ?_
    obtain ⟨e172, f173, th_174, td_175, ds_176, fr_177, ca_178, us_179, wo_180, cm_181, lc_182, lh_183, ld_184, rfl, k185, k186, k187, k188, k189, k190, k191, k192, k193, k194, k195, k196, k197, k198, k199, k200, k201, k202⟩ := (tw_sp.rf q8s.1).1 m 36 km1 (by decide)
    refine tw_bi (tw_callV (M := mL_law_) (pc := 944) okX10_coins dL_law__944 w_1493 rfl f173 [.int y4, .int y7] [] rfl rfl ⟨by decide, by decide⟩ (Nat.le_of_ble_eq_true rfl) (c2_X10_coins d g τc h9 (tw_sp.rf q8s.1).1 m km1 y4 y7 o ko1) (((c + 900) - 20) - 500) (((n + 5000) - 120) - 2500) (by omega) (by omega)) (fun r205 h204 q203 => ?_) (fun E h1 q => q.elim)
    obtain ⟨g9, τ9, s9, oq9, q203a⟩ := q203
    have kx2 := s9.2.1.k kx1 (by decide)
    have km2 := s9.2.1.k km1 (by decide)
    have ko2 := s9.2.1.k ko1 (by decide)
    have q8cI3 : tw_ix (g.2 3) y4 := by rw [← ok.2.1.2.2.2.1.trans ok.2.1.1]; exact q8cI
    rcases q203a with ⟨z, -⟩ | ⟨-, -, ht, eg9⟩ | ⟨-, z, -⟩
    · exact absurd q8cI3 z
    · rw [eg9] at s9
      have ok9 : tw_ok5 d x m o g τ9 h204 := ⟨s9.1, ok.2.1, kx2, km2, ko2⟩
      have sp206 := tw_sp.rf ok9.1
      refine tw_istore [(6, .int r205), (5, .int 2), (0, .ref (d.2 98)), (1, .ref x), (2, .ref m), (3, .ref o), (4, .int (nI (5 * j)))] dL_law__947 (by decide) rfl ?_
      refine tw_aload_n 4 dL_law__949 rfl rfl ?_
      obtain ⟨e207, f208, th_209, td_210, ds_211, fr_212, ca_213, us_214, wo_215, cm_216, lc_217, lh_218, ld_219, rfl, k220, k221, k222, k223, k224, k225, k226, k227, k228, k229, k230, k231, k232, k233, k234, k235, k236, k237⟩ := sp206.1 m 36 ok9.2.2.2.1 (by decide)
      refine tw_bi (tw_callV (M := mL_law_) (pc := 950) okX10_thrown dL_law__950 w_1188 rfl f208 [] [] rfl rfl ⟨by decide, by decide⟩ (Nat.le_of_ble_eq_true rfl) (c_X10_thrown d g τ9 h204 sp206.1 m ok9.2.2.2.1) (((c + 900) - 20) - 500) (((n + 5000) - 120) - 2500) (by omega) (by omega)) (fun r240 h239 q238 => ?_) (fun E h1 q => q.elim)
      obtain ⟨q238a, q238b⟩ := q238
      rw [q238b, ht, q238a]
      refine tw_iload 1 dL_law__953 rfl ?_
      refine tw_icmp_eq 960 dL_law__955 (by decide) (fun _ => ?_) (fun c241 => absurd (by decide) c241)
      refine tw_iload 1 dL_law__960 rfl ?_
      refine tw_if_ne 978 dL_law__962 (by decide) (fun _ => ?_) (fun c242 => absurd c242 (by decide))
      refine tw_goto 1391 dL_law__978 (by decide) ?_
      refine tw_lv [2, 3, 4, 5, 6] rfl ?_
      refine tw_less (c2 := c) (n2 := n) (by omega) (by omega) ?_
      exact J _ _ _ ok9
    · exact absurd z q8cR

set_option maxHeartbeats 4000000 in
set_option maxRecDepth 100000 in
theorem law_case_16 (d : tw_D) (x m o j c n : Nat) (Q : tw_O → tw_H → Prop) (hL : d.2 97 ≤ 2560) (hj : 5 * j + 5 ≤ d.2 97) (J : tw_J d x m o j Q c n) (g : tw_G) (τ : tw_K) (h : tw_H) (ok : tw_ok5 d x m o g τ h) : tw_W d mL_law_ Q 981 (tw_lv5 d x m o j) [] h (c + 900) (n + 5000) := by
  show tw_W d mL_law_ Q 981 [(0, .ref (d.2 98)), (1, .ref x), (2, .ref m), (3, .ref o), (4, .int (nI (5 * j)))] [] h (c + 900) (n + 5000)
  have sp1 := tw_sp.rf ok.1
  refine tw_aload_n 1 dL_law__981 rfl rfl ?_
  refine tw_aload_n 0 dL_law__982 rfl rfl ?_
  refine tw_iload 4 dL_law__983 rfl ?_
  refine tw_iconst (v := 1) dL_law__985 (by decide) ?_
  refine tw_iadd dL_law__986 ?_
  refine tw_nmi (fun v2 ev2 => ?_)
  have q3 : v2 = nI (5 * j + 1) := by rw [ev2]; exact tw_s1 _
  rw [q3]
  obtain ⟨y4, ey4⟩ : ∃ y : Int32, Int32.ofNat (d.2 (1000 + (nI (5 * j + 1)).toNatClampNeg)) = y := ⟨_, rfl⟩
  refine tw_ti (v := .int y4) (fun _ _ z => z.xs.2.2.2.2.2) dL_law__987 (vp_in_nI (by omega) (by omega)) (congrArg Value.int ey4) ?_
  refine tw_aload_n 0 dL_law__988 rfl rfl ?_
  refine tw_iload 4 dL_law__989 rfl ?_
  refine tw_iconst (v := 2) dL_law__991 (by decide) ?_
  refine tw_iadd dL_law__992 ?_
  refine tw_nmi (fun v5 ev5 => ?_)
  have q6 : v5 = nI (5 * j + 2) := by rw [ev5]; exact tw_s2 _
  rw [q6]
  obtain ⟨y7, ey7⟩ : ∃ y : Int32, Int32.ofNat (d.2 (1000 + (nI (5 * j + 2)).toNatClampNeg)) = y := ⟨_, rfl⟩
  refine tw_ti (v := .int y7) (fun _ _ z => z.xs.2.2.2.2.2) dL_law__993 (vp_in_nI (by omega) (by omega)) (congrArg Value.int ey7) ?_
  refine tw_aload_n 3 dL_law__994 rfl rfl ?_
  refine tw_bi (tw_callSH (M := mL_law_) (pc := 995) okL_ofCountry dL_law__995 w_787 [.ref x, .int y4, .int y7, .ref o] [] rfl rfl ⟨by decide, by decide⟩ (Nat.le_of_ble_eq_true rfl) (c_L_ofCountry d g τ h sp1.1 x ok.2.2.1 y4 y7 o ok.2.2.2.2) ((c + 900) - 20) ((n + 5000) - 120) (by omega) (by omega)) (fun r10 h9 q8 => ?_) (fun E h1 q => q.elim)
  obtain ⟨g11, τ12, q8g, q8s⟩ := q8
  have ok13 := ok.go (by rw [q8g]; exact ok.2.1) q8s
  have sp14 := tw_sp.rf ok13.1
  refine tw_istore [(5, .int r10), (0, .ref (d.2 98)), (1, .ref x), (2, .ref m), (3, .ref o), (4, .int (nI (5 * j)))] dL_law__998 (by decide) rfl ?_
  refine tw_aload_n 3 dL_law__1000 rfl rfl ?_
  refine tw_aload_n 1 dL_law__1001 rfl rfl ?_
  refine tw_iload 5 dL_law__1002 rfl ?_
  refine tw_iconst (v := 1) dL_law__1004 (by decide) ?_
  refine tw_iadd dL_law__1005 ?_
  refine tw_nmi (fun v15 ev15 => ?_)
  have q16 : v15 = nI (5 * j + 1) := by rw [ev15]; exact tw_s1 _
  rw [q16]
  refine tw_ti (v := .int y4) (fun _ _ z => z.xs.2.2.2.2.2) dL_law__1006 (vp_in_nI (by omega) (by omega)) (congrArg Value.int ey4) ?_
  refine tw_aload_n 1 dL_law__1007 rfl rfl ?_
  refine tw_iload 5 dL_law__1008 rfl ?_
  refine tw_iconst (v := 2) dL_law__1010 (by decide) ?_
  refine tw_iadd dL_law__1011 ?_
  refine tw_nmi (fun v17 ev17 => ?_)
  have q18 : v17 = nI (5 * j + 2) := by rw [ev17]; exact tw_s2 _
  rw [q18]
  refine tw_ti (v := .int y7) (fun _ _ z => z.xs.2.2.2.2.2) dL_law__1012 (vp_in_nI (by omega) (by omega)) (congrArg Value.int ey7) ?_
  obtain ⟨e19, f20, th_21, td_22, ds_23, fr_24, ca_25, us_26, wo_27, cm_28, lc_29, lh_30, ld_31, rfl, k32, k33, k34, k35, k36, k37, k38, k39, k40, k41, k42, k43, k44, k45, k46, k47, k48, k49⟩ := sp14.1 m 36 ok13.2.2.2.1 (by decide)
  refine tw_bi (tw_callV (M := mL_law_) (pc := 1013) okX10_ofCountry dL_law__1013 w_1501 rfl f20 [.int y4, .int y7] [] rfl rfl ⟨by decide, by decide⟩ (Nat.le_of_ble_eq_true rfl) (c_X10_ofCountry d g11 τ12 h9 sp14.1 m ok13.2.2.2.1 y4 y7) (((c + 900) - 20) - 3) (((n + 5000) - 120) - 17) (by omega) (by omega)) (fun r52 h51 q50 => ?_) (fun E h1 q => q.elim)
  have q50s := q50
  have ok53 := ok13.go ok13.2.1 q50s
  have sp54 := tw_sp.rf ok53.1
  refine tw_istore [(6, .int r52), (5, .int r10), (0, .ref (d.2 98)), (1, .ref x), (2, .ref m), (3, .ref o), (4, .int (nI (5 * j)))] dL_law__1016 (by decide) rfl ?_
  refine tw_goto 1391 dL_law__1018 (by decide) ?_
  refine tw_lv [2, 3, 4, 5, 6] rfl ?_
  refine tw_less (c2 := c) (n2 := n) (by omega) (by omega) ?_
  exact J _ _ _ ok53

set_option maxHeartbeats 4000000 in
set_option maxRecDepth 100000 in
theorem law_case_17 (d : tw_D) (x m o j c n : Nat) (Q : tw_O → tw_H → Prop) (hL : d.2 97 ≤ 2560) (hj : 5 * j + 5 ≤ d.2 97) (J : tw_J d x m o j Q c n) (g : tw_G) (τ : tw_K) (h : tw_H) (ok : tw_ok5 d x m o g τ h) : tw_W d mL_law_ Q 1021 (tw_lv5 d x m o j) [] h (c + 900) (n + 5000) := by
  show tw_W d mL_law_ Q 1021 [(0, .ref (d.2 98)), (1, .ref x), (2, .ref m), (3, .ref o), (4, .int (nI (5 * j)))] [] h (c + 900) (n + 5000)
  have sp1 := tw_sp.rf ok.1
  refine tw_aload_n 1 dL_law__1021 rfl rfl ?_
  refine tw_aload_n 0 dL_law__1022 rfl rfl ?_
  refine tw_iload 4 dL_law__1023 rfl ?_
  refine tw_iconst (v := 1) dL_law__1025 (by decide) ?_
  refine tw_iadd dL_law__1026 ?_
  refine tw_nmi (fun v2 ev2 => ?_)
  have q3 : v2 = nI (5 * j + 1) := by rw [ev2]; exact tw_s1 _
  rw [q3]
  obtain ⟨y4, ey4⟩ : ∃ y : Int32, Int32.ofNat (d.2 (1000 + (nI (5 * j + 1)).toNatClampNeg)) = y := ⟨_, rfl⟩
  refine tw_ti (v := .int y4) (fun _ _ z => z.xs.2.2.2.2.2) dL_law__1027 (vp_in_nI (by omega) (by omega)) (congrArg Value.int ey4) ?_
  refine tw_aload_n 0 dL_law__1028 rfl rfl ?_
  refine tw_iload 4 dL_law__1029 rfl ?_
  refine tw_iconst (v := 2) dL_law__1031 (by decide) ?_
  refine tw_iadd dL_law__1032 ?_
  refine tw_nmi (fun v5 ev5 => ?_)
  have q6 : v5 = nI (5 * j + 2) := by rw [ev5]; exact tw_s2 _
  rw [q6]
  obtain ⟨y7, ey7⟩ : ∃ y : Int32, Int32.ofNat (d.2 (1000 + (nI (5 * j + 2)).toNatClampNeg)) = y := ⟨_, rfl⟩
  refine tw_ti (v := .int y7) (fun _ _ z => z.xs.2.2.2.2.2) dL_law__1033 (vp_in_nI (by omega) (by omega)) (congrArg Value.int ey7) ?_
  refine tw_aload_n 3 dL_law__1034 rfl rfl ?_
  refine tw_bi (tw_callSH (M := mL_law_) (pc := 1035) okL_ofHouse dL_law__1035 w_794 [.ref x, .int y4, .int y7, .ref o] [] rfl rfl ⟨by decide, by decide⟩ (Nat.le_of_ble_eq_true rfl) (c_L_ofHouse d g τ h sp1.1 x ok.2.2.1 y4 y7 o ok.2.2.2.2) ((c + 900) - 20) ((n + 5000) - 120) (by omega) (by omega)) (fun r10 h9 q8 => ?_) (fun E h1 q => q.elim)
  obtain ⟨g11, τ12, q8g, q8s⟩ := q8
  have ok13 := ok.go (by rw [q8g]; exact ok.2.1) q8s
  have sp14 := tw_sp.rf ok13.1
  refine tw_istore [(5, .int r10), (0, .ref (d.2 98)), (1, .ref x), (2, .ref m), (3, .ref o), (4, .int (nI (5 * j)))] dL_law__1038 (by decide) rfl ?_
  refine tw_aload_n 3 dL_law__1040 rfl rfl ?_
  refine tw_aload_n 1 dL_law__1041 rfl rfl ?_
  refine tw_iload 5 dL_law__1042 rfl ?_
  refine tw_iconst (v := 1) dL_law__1044 (by decide) ?_
  refine tw_iadd dL_law__1045 ?_
  refine tw_nmi (fun v15 ev15 => ?_)
  have q16 : v15 = nI (5 * j + 1) := by rw [ev15]; exact tw_s1 _
  rw [q16]
  refine tw_ti (v := .int y4) (fun _ _ z => z.xs.2.2.2.2.2) dL_law__1046 (vp_in_nI (by omega) (by omega)) (congrArg Value.int ey4) ?_
  refine tw_aload_n 1 dL_law__1047 rfl rfl ?_
  refine tw_iload 5 dL_law__1048 rfl ?_
  refine tw_iconst (v := 2) dL_law__1050 (by decide) ?_
  refine tw_iadd dL_law__1051 ?_
  refine tw_nmi (fun v17 ev17 => ?_)
  have q18 : v17 = nI (5 * j + 2) := by rw [ev17]; exact tw_s2 _
  rw [q18]
  refine tw_ti (v := .int y7) (fun _ _ z => z.xs.2.2.2.2.2) dL_law__1052 (vp_in_nI (by omega) (by omega)) (congrArg Value.int ey7) ?_
  obtain ⟨e19, f20, th_21, td_22, ds_23, fr_24, ca_25, us_26, wo_27, cm_28, lc_29, lh_30, ld_31, rfl, k32, k33, k34, k35, k36, k37, k38, k39, k40, k41, k42, k43, k44, k45, k46, k47, k48, k49⟩ := sp14.1 m 36 ok13.2.2.2.1 (by decide)
  refine tw_bi (tw_callV (M := mL_law_) (pc := 1053) okX10_ofHouse dL_law__1053 w_1513 rfl f20 [.int y4, .int y7] [] rfl rfl ⟨by decide, by decide⟩ (Nat.le_of_ble_eq_true rfl) (c_X10_ofHouse d g11 τ12 h9 sp14.1 m ok13.2.2.2.1 y4 y7) (((c + 900) - 20) - 2) (((n + 5000) - 120) - 12) (by omega) (by omega)) (fun r52 h51 q50 => ?_) (fun E h1 q => q.elim)
  have q50s := q50
  have ok53 := ok13.go ok13.2.1 q50s
  have sp54 := tw_sp.rf ok53.1
  refine tw_istore [(6, .int r52), (5, .int r10), (0, .ref (d.2 98)), (1, .ref x), (2, .ref m), (3, .ref o), (4, .int (nI (5 * j)))] dL_law__1056 (by decide) rfl ?_
  refine tw_goto 1391 dL_law__1058 (by decide) ?_
  refine tw_lv [2, 3, 4, 5, 6] rfl ?_
  refine tw_less (c2 := c) (n2 := n) (by omega) (by omega) ?_
  exact J _ _ _ ok53

set_option maxHeartbeats 4000000 in
set_option maxRecDepth 100000 in
theorem law_case_18 (d : tw_D) (x m o j c n : Nat) (Q : tw_O → tw_H → Prop) (hL : d.2 97 ≤ 2560) (hj : 5 * j + 5 ≤ d.2 97) (J : tw_J d x m o j Q c n) (g : tw_G) (τ : tw_K) (h : tw_H) (ok : tw_ok5 d x m o g τ h) : tw_W d mL_law_ Q 1061 (tw_lv5 d x m o j) [] h (c + 900) (n + 5000) := by
  show tw_W d mL_law_ Q 1061 [(0, .ref (d.2 98)), (1, .ref x), (2, .ref m), (3, .ref o), (4, .int (nI (5 * j)))] [] h (c + 900) (n + 5000)
  have sp1 := tw_sp.rf ok.1
  refine tw_aload_n 1 dL_law__1061 rfl rfl ?_
  refine tw_aload_n 0 dL_law__1062 rfl rfl ?_
  refine tw_iload 4 dL_law__1063 rfl ?_
  refine tw_iconst (v := 1) dL_law__1065 (by decide) ?_
  refine tw_iadd dL_law__1066 ?_
  refine tw_nmi (fun v2 ev2 => ?_)
  have q3 : v2 = nI (5 * j + 1) := by rw [ev2]; exact tw_s1 _
  rw [q3]
  obtain ⟨y4, ey4⟩ : ∃ y : Int32, Int32.ofNat (d.2 (1000 + (nI (5 * j + 1)).toNatClampNeg)) = y := ⟨_, rfl⟩
  refine tw_ti (v := .int y4) (fun _ _ z => z.xs.2.2.2.2.2) dL_law__1067 (vp_in_nI (by omega) (by omega)) (congrArg Value.int ey4) ?_
  refine tw_aload_n 0 dL_law__1068 rfl rfl ?_
  refine tw_iload 4 dL_law__1069 rfl ?_
  refine tw_iconst (v := 2) dL_law__1071 (by decide) ?_
  refine tw_iadd dL_law__1072 ?_
  refine tw_nmi (fun v5 ev5 => ?_)
  have q6 : v5 = nI (5 * j + 2) := by rw [ev5]; exact tw_s2 _
  rw [q6]
  obtain ⟨y7, ey7⟩ : ∃ y : Int32, Int32.ofNat (d.2 (1000 + (nI (5 * j + 2)).toNatClampNeg)) = y := ⟨_, rfl⟩
  refine tw_ti (v := .int y7) (fun _ _ z => z.xs.2.2.2.2.2) dL_law__1073 (vp_in_nI (by omega) (by omega)) (congrArg Value.int ey7) ?_
  refine tw_aload_n 3 dL_law__1074 rfl rfl ?_
  refine tw_bi (tw_callSH (M := mL_law_) (pc := 1075) okL_ofDebt dL_law__1075 w_801 [.ref x, .int y4, .int y7, .ref o] [] rfl rfl ⟨by decide, by decide⟩ (Nat.le_of_ble_eq_true rfl) (c_L_ofDebt d g τ h sp1.1 x ok.2.2.1 y4 y7 o ok.2.2.2.2) ((c + 900) - 20) ((n + 5000) - 120) (by omega) (by omega)) (fun r10 h9 q8 => ?_) (fun E h1 q => q.elim)
  obtain ⟨g11, τ12, q8g, q8s⟩ := q8
  have ok13 := ok.go (by rw [q8g]; exact ok.2.1) q8s
  have sp14 := tw_sp.rf ok13.1
  refine tw_istore [(5, .int r10), (0, .ref (d.2 98)), (1, .ref x), (2, .ref m), (3, .ref o), (4, .int (nI (5 * j)))] dL_law__1078 (by decide) rfl ?_
  refine tw_aload_n 3 dL_law__1080 rfl rfl ?_
  refine tw_aload_n 1 dL_law__1081 rfl rfl ?_
  refine tw_iload 5 dL_law__1082 rfl ?_
  refine tw_iconst (v := 1) dL_law__1084 (by decide) ?_
  refine tw_iadd dL_law__1085 ?_
  refine tw_nmi (fun v15 ev15 => ?_)
  have q16 : v15 = nI (5 * j + 1) := by rw [ev15]; exact tw_s1 _
  rw [q16]
  refine tw_ti (v := .int y4) (fun _ _ z => z.xs.2.2.2.2.2) dL_law__1086 (vp_in_nI (by omega) (by omega)) (congrArg Value.int ey4) ?_
  refine tw_aload_n 1 dL_law__1087 rfl rfl ?_
  refine tw_iload 5 dL_law__1088 rfl ?_
  refine tw_iconst (v := 2) dL_law__1090 (by decide) ?_
  refine tw_iadd dL_law__1091 ?_
  refine tw_nmi (fun v17 ev17 => ?_)
  have q18 : v17 = nI (5 * j + 2) := by rw [ev17]; exact tw_s2 _
  rw [q18]
  refine tw_ti (v := .int y7) (fun _ _ z => z.xs.2.2.2.2.2) dL_law__1092 (vp_in_nI (by omega) (by omega)) (congrArg Value.int ey7) ?_
  obtain ⟨e19, f20, th_21, td_22, ds_23, fr_24, ca_25, us_26, wo_27, cm_28, lc_29, lh_30, ld_31, rfl, k32, k33, k34, k35, k36, k37, k38, k39, k40, k41, k42, k43, k44, k45, k46, k47, k48, k49⟩ := sp14.1 m 36 ok13.2.2.2.1 (by decide)
  refine tw_bi (tw_callV (M := mL_law_) (pc := 1093) okX10_ofDebt dL_law__1093 w_1521 rfl f20 [.int y4, .int y7] [] rfl rfl ⟨by decide, by decide⟩ (Nat.le_of_ble_eq_true rfl) (c_X10_ofDebt d g11 τ12 h9 sp14.1 m ok13.2.2.2.1 y4 y7) (((c + 900) - 20) - 1) (((n + 5000) - 120) - 7) (by omega) (by omega)) (fun r52 h51 q50 => ?_) (fun E h1 q => q.elim)
  have q50s := q50
  have ok53 := ok13.go ok13.2.1 q50s
  have sp54 := tw_sp.rf ok53.1
  refine tw_istore [(6, .int r52), (5, .int r10), (0, .ref (d.2 98)), (1, .ref x), (2, .ref m), (3, .ref o), (4, .int (nI (5 * j)))] dL_law__1096 (by decide) rfl ?_
  refine tw_goto 1391 dL_law__1098 (by decide) ?_
  refine tw_lv [2, 3, 4, 5, 6] rfl ?_
  refine tw_less (c2 := c) (n2 := n) (by omega) (by omega) ?_
  exact J _ _ _ ok53

set_option maxHeartbeats 4000000 in
set_option maxRecDepth 100000 in
theorem law_case_19 (d : tw_D) (x m o j c n : Nat) (Q : tw_O → tw_H → Prop) (hL : d.2 97 ≤ 2560) (hj : 5 * j + 5 ≤ d.2 97) (J : tw_J d x m o j Q c n) (g : tw_G) (τ : tw_K) (h : tw_H) (ok : tw_ok5 d x m o g τ h) : tw_W d mL_law_ Q 1101 (tw_lv5 d x m o j) [] h (c + 900) (n + 5000) := by
  show tw_W d mL_law_ Q 1101 [(0, .ref (d.2 98)), (1, .ref x), (2, .ref m), (3, .ref o), (4, .int (nI (5 * j)))] [] h (c + 900) (n + 5000)
  have sp1 := tw_sp.rf ok.1
  refine tw_aload_n 1 dL_law__1101 rfl rfl ?_
  refine tw_aload_n 0 dL_law__1102 rfl rfl ?_
  refine tw_iload 4 dL_law__1103 rfl ?_
  refine tw_iconst (v := 1) dL_law__1105 (by decide) ?_
  refine tw_iadd dL_law__1106 ?_
  refine tw_nmi (fun v2 ev2 => ?_)
  have q3 : v2 = nI (5 * j + 1) := by rw [ev2]; exact tw_s1 _
  rw [q3]
  obtain ⟨y4, ey4⟩ : ∃ y : Int32, Int32.ofNat (d.2 (1000 + (nI (5 * j + 1)).toNatClampNeg)) = y := ⟨_, rfl⟩
  refine tw_ti (v := .int y4) (fun _ _ z => z.xs.2.2.2.2.2) dL_law__1107 (vp_in_nI (by omega) (by omega)) (congrArg Value.int ey4) ?_
  refine tw_aload_n 0 dL_law__1108 rfl rfl ?_
  refine tw_iload 4 dL_law__1109 rfl ?_
  refine tw_iconst (v := 2) dL_law__1111 (by decide) ?_
  refine tw_iadd dL_law__1112 ?_
  refine tw_nmi (fun v5 ev5 => ?_)
  have q6 : v5 = nI (5 * j + 2) := by rw [ev5]; exact tw_s2 _
  rw [q6]
  obtain ⟨y7, ey7⟩ : ∃ y : Int32, Int32.ofNat (d.2 (1000 + (nI (5 * j + 2)).toNatClampNeg)) = y := ⟨_, rfl⟩
  refine tw_ti (v := .int y7) (fun _ _ z => z.xs.2.2.2.2.2) dL_law__1113 (vp_in_nI (by omega) (by omega)) (congrArg Value.int ey7) ?_
  refine tw_aload_n 3 dL_law__1114 rfl rfl ?_
  refine tw_bi (tw_callSH (M := mL_law_) (pc := 1115) okL_world dL_law__1115 w_808 [.ref x, .int y4, .int y7, .ref o] [] rfl rfl ⟨by decide, by decide⟩ (Nat.le_of_ble_eq_true rfl) (c_L_world d g τ h sp1.1 x ok.2.2.1 y4 y7 o ok.2.2.2.2) ((c + 900) - 20) ((n + 5000) - 120) (by omega) (by omega)) (fun r10 h9 q8 => ?_) (fun E h1 q => q.elim)
  obtain ⟨g11, τ12, q8g, q8s⟩ := q8
  have ok13 := ok.go (by rw [q8g]; exact ok.2.1) q8s
  have sp14 := tw_sp.rf ok13.1
  refine tw_istore [(5, .int r10), (0, .ref (d.2 98)), (1, .ref x), (2, .ref m), (3, .ref o), (4, .int (nI (5 * j)))] dL_law__1118 (by decide) rfl ?_
  refine tw_aload_n 3 dL_law__1120 rfl rfl ?_
  refine tw_aload_n 1 dL_law__1121 rfl rfl ?_
  refine tw_iload 5 dL_law__1122 rfl ?_
  refine tw_iconst (v := 1) dL_law__1124 (by decide) ?_
  refine tw_iadd dL_law__1125 ?_
  refine tw_nmi (fun v15 ev15 => ?_)
  have q16 : v15 = nI (5 * j + 1) := by rw [ev15]; exact tw_s1 _
  rw [q16]
  refine tw_ti (v := .int y4) (fun _ _ z => z.xs.2.2.2.2.2) dL_law__1126 (vp_in_nI (by omega) (by omega)) (congrArg Value.int ey4) ?_
  refine tw_aload_n 1 dL_law__1127 rfl rfl ?_
  refine tw_iload 5 dL_law__1128 rfl ?_
  refine tw_iconst (v := 2) dL_law__1130 (by decide) ?_
  refine tw_iadd dL_law__1131 ?_
  refine tw_nmi (fun v17 ev17 => ?_)
  have q18 : v17 = nI (5 * j + 2) := by rw [ev17]; exact tw_s2 _
  rw [q18]
  refine tw_ti (v := .int y7) (fun _ _ z => z.xs.2.2.2.2.2) dL_law__1132 (vp_in_nI (by omega) (by omega)) (congrArg Value.int ey7) ?_
  obtain ⟨e19, f20, th_21, td_22, ds_23, fr_24, ca_25, us_26, wo_27, cm_28, lc_29, lh_30, ld_31, rfl, k32, k33, k34, k35, k36, k37, k38, k39, k40, k41, k42, k43, k44, k45, k46, k47, k48, k49⟩ := sp14.1 m 36 ok13.2.2.2.1 (by decide)
  refine tw_bi (tw_callV (M := mL_law_) (pc := 1133) okX10_world dL_law__1133 w_1533 rfl f20 [.int y4, .int y7] [] rfl rfl ⟨by decide, by decide⟩ (Nat.le_of_ble_eq_true rfl) (c_X10_world d g11 τ12 h9 sp14.1 m ok13.2.2.2.1 y4 y7) (((c + 900) - 20) - 3) (((n + 5000) - 120) - 14) (by omega) (by omega)) (fun r52 h51 q50 => ?_) (fun E h1 q => q.elim)
  have q50s := q50
  have ok53 := ok13.go ok13.2.1 q50s
  have sp54 := tw_sp.rf ok53.1
  refine tw_istore [(6, .int r52), (5, .int r10), (0, .ref (d.2 98)), (1, .ref x), (2, .ref m), (3, .ref o), (4, .int (nI (5 * j)))] dL_law__1136 (by decide) rfl ?_
  refine tw_goto 1391 dL_law__1138 (by decide) ?_
  refine tw_lv [2, 3, 4, 5, 6] rfl ?_
  refine tw_less (c2 := c) (n2 := n) (by omega) (by omega) ?_
  exact J _ _ _ ok53

set_option maxHeartbeats 4000000 in
set_option maxRecDepth 100000 in
theorem law_case_20 (d : tw_D) (x m o j c n : Nat) (Q : tw_O → tw_H → Prop) (hL : d.2 97 ≤ 2560) (hj : 5 * j + 5 ≤ d.2 97) (J : tw_J d x m o j Q c n) (g : tw_G) (τ : tw_K) (h : tw_H) (ok : tw_ok5 d x m o g τ h) : tw_W d mL_law_ Q 1141 (tw_lv5 d x m o j) [] h (c + 900) (n + 5000) := by
  show tw_W d mL_law_ Q 1141 [(0, .ref (d.2 98)), (1, .ref x), (2, .ref m), (3, .ref o), (4, .int (nI (5 * j)))] [] h (c + 900) (n + 5000)
  have sp1 := tw_sp.rf ok.1
  refine tw_aload_n 1 dL_law__1141 rfl rfl ?_
  refine tw_aload_n 0 dL_law__1142 rfl rfl ?_
  refine tw_iload 4 dL_law__1143 rfl ?_
  refine tw_iconst (v := 1) dL_law__1145 (by decide) ?_
  refine tw_iadd dL_law__1146 ?_
  refine tw_nmi (fun v2 ev2 => ?_)
  have q3 : v2 = nI (5 * j + 1) := by rw [ev2]; exact tw_s1 _
  rw [q3]
  obtain ⟨y4, ey4⟩ : ∃ y : Int32, Int32.ofNat (d.2 (1000 + (nI (5 * j + 1)).toNatClampNeg)) = y := ⟨_, rfl⟩
  refine tw_ti (v := .int y4) (fun _ _ z => z.xs.2.2.2.2.2) dL_law__1147 (vp_in_nI (by omega) (by omega)) (congrArg Value.int ey4) ?_
  refine tw_aload_n 3 dL_law__1148 rfl rfl ?_
  refine tw_bi (tw_callSH (M := mL_law_) (pc := 1149) okL_sign dL_law__1149 w_815 [.ref x, .int y4, .ref o] [] rfl rfl ⟨by decide, by decide⟩ (Nat.le_of_ble_eq_true rfl) (c_L_sign d g τ h sp1.1 x ok.2.2.1 y4 o ok.2.2.2.2) ((c + 900) - 6) ((n + 5000) - 64) (by omega) (by omega)) (fun r7 h6 q5 => ?_) (fun E h1 q => q.elim)
  obtain ⟨g8, τ9, q5g, q5s⟩ := q5
  have ok10 := ok.go (by rw [q5g]; exact ok.2.1) q5s
  have sp11 := tw_sp.rf ok10.1
  refine tw_istore [(5, .int r7), (0, .ref (d.2 98)), (1, .ref x), (2, .ref m), (3, .ref o), (4, .int (nI (5 * j)))] dL_law__1152 (by decide) rfl ?_
  refine tw_aload_n 3 dL_law__1154 rfl rfl ?_
  refine tw_aload_n 1 dL_law__1155 rfl rfl ?_
  refine tw_iload 5 dL_law__1156 rfl ?_
  refine tw_iconst (v := 1) dL_law__1158 (by decide) ?_
  refine tw_iadd dL_law__1159 ?_
  refine tw_nmi (fun v12 ev12 => ?_)
  have q13 : v12 = nI (5 * j + 1) := by rw [ev12]; exact tw_s1 _
  rw [q13]
  refine tw_ti (v := .int y4) (fun _ _ z => z.xs.2.2.2.2.2) dL_law__1160 (vp_in_nI (by omega) (by omega)) (congrArg Value.int ey4) ?_
  obtain ⟨e14, f15, th_16, td_17, ds_18, fr_19, ca_20, us_21, wo_22, cm_23, lc_24, lh_25, ld_26, rfl, k27, k28, k29, k30, k31, k32, k33, k34, k35, k36, k37, k38, k39, k40, k41, k42, k43, k44⟩ := sp11.1 m 36 ok10.2.2.2.1 (by decide)
  refine tw_br (tw_callV (M := mL_law_) (pc := 1161) okX10_sign dL_law__1161 w_1541 rfl f15 [.int y4] [] rfl rfl ⟨by decide, by decide⟩ (Nat.le_of_ble_eq_true rfl) (c_X10_sign d g8 τ9 h6 sp11.1 m ok10.2.2.2.1 y4) (((c + 900) - 6) - 6) (((n + 5000) - 64) - 64) (by omega) (by omega)) (fun r47 h46 q45 => ?_) (fun E h1 q => q.elim)
  have q45s := q45
  have ok48 := ok10.go ok10.2.1 q45s
  have sp49 := tw_sp.rf ok48.1
  refine tw_astore [(6, .ref r47), (5, .int r7), (0, .ref (d.2 98)), (1, .ref x), (2, .ref m), (3, .ref o), (4, .int (nI (5 * j)))] dL_law__1164 (by decide) rfl ?_
  refine tw_goto 1391 dL_law__1166 (by decide) ?_
  refine tw_lv [2, 3, 4, 5, 6] rfl ?_
  refine tw_less (c2 := c) (n2 := n) (by omega) (by omega) ?_
  exact J _ _ _ ok48

set_option maxHeartbeats 4000000 in
set_option maxRecDepth 100000 in
theorem law_case_21 (d : tw_D) (x m o j c n : Nat) (Q : tw_O → tw_H → Prop) (hL : d.2 97 ≤ 2560) (hj : 5 * j + 5 ≤ d.2 97) (J : tw_J d x m o j Q c n) (g : tw_G) (τ : tw_K) (h : tw_H) (ok : tw_ok5 d x m o g τ h) : tw_W d mL_law_ Q 1169 (tw_lv5 d x m o j) [] h (c + 900) (n + 5000) := by
  show tw_W d mL_law_ Q 1169 [(0, .ref (d.2 98)), (1, .ref x), (2, .ref m), (3, .ref o), (4, .int (nI (5 * j)))] [] h (c + 900) (n + 5000)
  have sp1 := tw_sp.rf ok.1
  refine tw_aload_n 1 dL_law__1169 rfl rfl ?_
  refine tw_aload_n 0 dL_law__1170 rfl rfl ?_
  refine tw_iload 4 dL_law__1171 rfl ?_
  refine tw_iconst (v := 1) dL_law__1173 (by decide) ?_
  refine tw_iadd dL_law__1174 ?_
  refine tw_nmi (fun v2 ev2 => ?_)
  have q3 : v2 = nI (5 * j + 1) := by rw [ev2]; exact tw_s1 _
  rw [q3]
  obtain ⟨y4, ey4⟩ : ∃ y : Int32, Int32.ofNat (d.2 (1000 + (nI (5 * j + 1)).toNatClampNeg)) = y := ⟨_, rfl⟩
  refine tw_ti (v := .int y4) (fun _ _ z => z.xs.2.2.2.2.2) dL_law__1175 (vp_in_nI (by omega) (by omega)) (congrArg Value.int ey4) ?_
  refine tw_aload_n 0 dL_law__1176 rfl rfl ?_
  refine tw_iload 4 dL_law__1177 rfl ?_
  refine tw_iconst (v := 2) dL_law__1179 (by decide) ?_
  refine tw_iadd dL_law__1180 ?_
  refine tw_nmi (fun v5 ev5 => ?_)
  have q6 : v5 = nI (5 * j + 2) := by rw [ev5]; exact tw_s2 _
  rw [q6]
  obtain ⟨y7, ey7⟩ : ∃ y : Int32, Int32.ofNat (d.2 (1000 + (nI (5 * j + 2)).toNatClampNeg)) = y := ⟨_, rfl⟩
  refine tw_ti (v := .int y7) (fun _ _ z => z.xs.2.2.2.2.2) dL_law__1181 (vp_in_nI (by omega) (by omega)) (congrArg Value.int ey7) ?_
  refine tw_aload_n 0 dL_law__1182 rfl rfl ?_
  refine tw_iload 4 dL_law__1183 rfl ?_
  refine tw_iconst (v := 3) dL_law__1185 (by decide) ?_
  refine tw_iadd dL_law__1186 ?_
  refine tw_nmi (fun v8 ev8 => ?_)
  have q9 : v8 = nI (5 * j + 3) := by rw [ev8]; exact tw_s3 _
  rw [q9]
  obtain ⟨y10, ey10⟩ : ∃ y : Int32, Int32.ofNat (d.2 (1000 + (nI (5 * j + 3)).toNatClampNeg)) = y := ⟨_, rfl⟩
  refine tw_ti (v := .int y10) (fun _ _ z => z.xs.2.2.2.2.2) dL_law__1187 (vp_in_nI (by omega) (by omega)) (congrArg Value.int ey10) ?_
  refine tw_aload_n 0 dL_law__1188 rfl rfl ?_
  refine tw_iload 4 dL_law__1189 rfl ?_
  refine tw_iconst (v := 4) dL_law__1191 (by decide) ?_
  refine tw_iadd dL_law__1192 ?_
  refine tw_nmi (fun v11 ev11 => ?_)
  have q12 : v11 = nI (5 * j + 4) := by rw [ev11]; exact tw_s4 _
  rw [q12]
  obtain ⟨y13, ey13⟩ : ∃ y : Int32, Int32.ofNat (d.2 (1000 + (nI (5 * j + 4)).toNatClampNeg)) = y := ⟨_, rfl⟩
  refine tw_ti (v := .int y13) (fun _ _ z => z.xs.2.2.2.2.2) dL_law__1193 (vp_in_nI (by omega) (by omega)) (congrArg Value.int ey13) ?_
  refine tw_aload_n 3 dL_law__1194 rfl rfl ?_
  refine tw_bi (tw_callSH (M := mL_law_) (pc := 1195) okL_trip dL_law__1195 w_1085 [.ref x, .int y4, .int y7, .int y10, .int y13, .ref o] [] rfl rfl ⟨by decide, by decide⟩ (Nat.le_of_ble_eq_true rfl) (c_L_trip d g τ h sp1.1 x ok.2.2.1 y4 y7 y10 y13 o ok.2.2.2.2 (ok.2.1.ec (tw_b678 ok.1 ok.2.2.1).1)) ((c + 900) - 20) ((n + 5000) - 120) (by omega) (by omega)) (fun r16 h15 q14 => ?_) (fun E h1 q => q.elim)
  rcases q14 with ⟨q14e, q14cI, q14cR, q14n, τc, q14s⟩ | ⟨q14e, q14cI, τc, q14s⟩ | ⟨q14e, q14cI, q14cR, τc, q14s⟩
  · rw [q14e]
    have h49 := (tw_b678 ok.1 ok.2.2.1).1
    obtain ⟨gL, egL⟩ : ∃ z : tw_G, z = (g) := ⟨_, rfl⟩
    rw [← egL] at q14s
    have gl3 : gL.2 3 = g.2 3 := by rw [egL]
    have gl4 : gL.2 4 = g.2 4 := by rw [egL]
    have gl5 : gL.2 5 = g.2 5 := by rw [egL]
    have gl9 : gL.2 9 = g.2 9 := by rw [egL]
    have gl22 : gL.2 22 = g.2 22 := by rw [egL]
    have kx1 := q14s.2.1.k ok.2.2.1 (by decide)
    have km1 := q14s.2.1.k ok.2.2.2.1 (by decide)
    have ko1 := q14s.2.1.k ok.2.2.2.2 (by decide)
    refine tw_istore [(5, .int 0), (0, .ref (d.2 98)), (1, .ref x), (2, .ref m), (3, .ref o), (4, .int (nI (5 * j)))] dL_law__1198 (by decide) rfl ?_
    refine tw_aload_n 3 dL_law__1200 rfl rfl ?_
    refine tw_aload_n 1 dL_law__1201 rfl rfl ?_
    refine tw_iload 5 dL_law__1202 rfl ?_
    refine tw_iconst (v := 1) dL_law__1204 (by decide) ?_
    refine tw_iadd dL_law__1205 ?_
    refine tw_nmi (fun v17 ev17 => ?_)
    have q18 : v17 = nI (5 * j + 1) := by rw [ev17]; exact tw_s1 _
    rw [q18]
    refine tw_ti (v := .int y4) (fun _ _ z => z.xs.2.2.2.2.2) dL_law__1206 (vp_in_nI (by omega) (by omega)) (congrArg Value.int ey4) ?_
    refine tw_aload_n 1 dL_law__1207 rfl rfl ?_
    refine tw_iload 5 dL_law__1208 rfl ?_
    refine tw_iconst (v := 2) dL_law__1210 (by decide) ?_
    refine tw_iadd dL_law__1211 ?_
    refine tw_nmi (fun v19 ev19 => ?_)
    have q20 : v19 = nI (5 * j + 2) := by rw [ev19]; exact tw_s2 _
    rw [q20]
    refine tw_ti (v := .int y7) (fun _ _ z => z.xs.2.2.2.2.2) dL_law__1212 (vp_in_nI (by omega) (by omega)) (congrArg Value.int ey7) ?_
    refine tw_aload_n 1 dL_law__1213 rfl rfl ?_
    refine tw_iload 5 dL_law__1214 rfl ?_
    refine tw_iconst (v := 3) dL_law__1216 (by decide) ?_
    refine tw_iadd dL_law__1217 ?_
    refine tw_nmi (fun v21 ev21 => ?_)
    have q22 : v21 = nI (5 * j + 3) := by rw [ev21]; exact tw_s3 _
    rw [q22]
    refine tw_ti (v := .int y10) (fun _ _ z => z.xs.2.2.2.2.2) dL_law__1218 (vp_in_nI (by omega) (by omega)) (congrArg Value.int ey10) ?_
    refine tw_aload_n 1 dL_law__1219 rfl rfl ?_
    refine tw_iload 5 dL_law__1220 rfl ?_
    refine tw_iconst (v := 4) dL_law__1222 (by decide) ?_
    refine tw_iadd dL_law__1223 ?_
    refine tw_nmi (fun v23 ev23 => ?_)
    have q24 : v23 = nI (5 * j + 4) := by rw [ev23]; exact tw_s4 _
    rw [q24]
    refine tw_ti (v := .int y13) (fun _ _ z => z.xs.2.2.2.2.2) dL_law__1224 (vp_in_nI (by omega) (by omega)) (congrArg Value.int ey13) ?_
    obtain ⟨e25, f26, th_27, td_28, ds_29, fr_30, ca_31, us_32, wo_33, cm_34, lc_35, lh_36, ld_37, rfl, k38, k39, k40, k41, k42, k43, k44, k45, k46, k47, k48, k49, k50, k51, k52, k53, k54, k55⟩ := (tw_sp.rf q14s.1).1 m 36 km1 (by decide)
    refine tw_bi (tw_callV (M := mL_law_) (pc := 1225) okX10_trip dL_law__1225 w_1553 rfl f26 [.int y4, .int y7, .int y10, .int y13] [] rfl rfl ⟨by decide, by decide⟩ (Nat.le_of_ble_eq_true rfl) (c2_X10_trip d gL τc h15 (tw_sp.rf q14s.1).1 m km1 y4 y7 y10 y13 o ko1 (by rw [egL]; exact ok.2.1.em (by have z := h49; rw [ok.2.1.2.2.2.1, ok.2.1.1] at z; exact z))) ((c + 900) - 20) ((n + 5000) - 120) (by omega) (by omega)) (fun r58 h57 q56 => ?_) (fun E h1 q => q.elim)
    obtain ⟨g9, τ9, s9, oq9, q56a⟩ := q56
    have kx2 := s9.2.1.k kx1 (by decide)
    have km2 := s9.2.1.k km1 (by decide)
    have ko2 := s9.2.1.k ko1 (by decide)
    have q14cI3 : (tw_ix (gL.2 3) y4 ∧ tw_ix (gL.2 3) y7) := by rw [gl3, ← ok.2.1.2.2.2.1.trans ok.2.1.1]; exact q14cI
    rcases q56a with ⟨z, -⟩ | ⟨-, z, -⟩ | ⟨-, -, hr2, ht, gk9⟩
    · exact absurd q14cI3 z
    · exact absurd q14cR z
    · rw [hr2]
      have ok9 : tw_ok5 d x m o g9 τ9 h57 := ⟨s9.1, (by rw [gk9, egL]; exact ok.2.1), kx2, km2, ko2⟩
      have hlg : tw_lg (h57 o) = (nI (tw_tC g (tw_DN y4) (tw_DN y7) (tw_DN y10) (tw_DN y13))).toInt64 := by rw [oq9]; exact q14n
      have sp59 := tw_sp.rf ok9.1
      refine tw_istore [(6, .int (nI (tw_tM gL (tw_DN y4) (tw_DN y7) (tw_DN y10) (tw_DN y13)))), (5, .int 0), (0, .ref (d.2 98)), (1, .ref x), (2, .ref m), (3, .ref o), (4, .int (nI (5 * j)))] dL_law__1228 (by decide) rfl ?_
      refine tw_goto 1391 dL_law__1230 (by decide) ?_
      refine tw_lv [2, 3, 4, 5, 6] rfl ?_
      refine tw_less (c2 := c) (n2 := n) (by omega) (by omega) ?_
      exact J _ _ _ ok9
  · rw [q14e]
    have h49 := (tw_b678 ok.1 ok.2.2.1).1
    have kx1 := q14s.2.1.k ok.2.2.1 (by decide)
    have km1 := q14s.2.1.k ok.2.2.2.1 (by decide)
    have ko1 := q14s.2.1.k ok.2.2.2.2 (by decide)
    refine tw_istore [(5, .int 1), (0, .ref (d.2 98)), (1, .ref x), (2, .ref m), (3, .ref o), (4, .int (nI (5 * j)))] dL_law__1198 (by decide) rfl ?_
    refine tw_aload_n 3 dL_law__1200 rfl rfl ?_
    refine tw_aload_n 1 dL_law__1201 rfl rfl ?_
    refine tw_iload 5 dL_law__1202 rfl ?_
    refine tw_iconst (v := 1) dL_law__1204 (by decide) ?_
    refine tw_iadd dL_law__1205 ?_
    refine tw_nmi (fun v60 ev60 => ?_)
    have q61 : v60 = nI (5 * j + 1) := by rw [ev60]; exact tw_s1 _
    rw [q61]
    refine tw_ti (v := .int y4) (fun _ _ z => z.xs.2.2.2.2.2) dL_law__1206 (vp_in_nI (by omega) (by omega)) (congrArg Value.int ey4) ?_
    refine tw_aload_n 1 dL_law__1207 rfl rfl ?_
    refine tw_iload 5 dL_law__1208 rfl ?_
    refine tw_iconst (v := 2) dL_law__1210 (by decide) ?_
    refine tw_iadd dL_law__1211 ?_
    refine tw_nmi (fun v62 ev62 => ?_)
    have q63 : v62 = nI (5 * j + 2) := by rw [ev62]; exact tw_s2 _
    rw [q63]
    refine tw_ti (v := .int y7) (fun _ _ z => z.xs.2.2.2.2.2) dL_law__1212 (vp_in_nI (by omega) (by omega)) (congrArg Value.int ey7) ?_
    refine tw_aload_n 1 dL_law__1213 rfl rfl ?_
    refine tw_iload 5 dL_law__1214 rfl ?_
    refine tw_iconst (v := 3) dL_law__1216 (by decide) ?_
    refine tw_iadd dL_law__1217 ?_
    refine tw_nmi (fun v64 ev64 => ?_)
    have q65 : v64 = nI (5 * j + 3) := by rw [ev64]; exact tw_s3 _
    rw [q65]
    refine tw_ti (v := .int y10) (fun _ _ z => z.xs.2.2.2.2.2) dL_law__1218 (vp_in_nI (by omega) (by omega)) (congrArg Value.int ey10) ?_
    refine tw_aload_n 1 dL_law__1219 rfl rfl ?_
    refine tw_iload 5 dL_law__1220 rfl ?_
    refine tw_iconst (v := 4) dL_law__1222 (by decide) ?_
    refine tw_iadd dL_law__1223 ?_
    refine tw_nmi (fun v66 ev66 => ?_)
    have q67 : v66 = nI (5 * j + 4) := by rw [ev66]; exact tw_s4 _
    rw [q67]
    refine tw_ti (v := .int y13) (fun _ _ z => z.xs.2.2.2.2.2) dL_law__1224 (vp_in_nI (by omega) (by omega)) (congrArg Value.int ey13) ?_
    obtain ⟨e68, f69, th_70, td_71, ds_72, fr_73, ca_74, us_75, wo_76, cm_77, lc_78, lh_79, ld_80, rfl, k81, k82, k83, k84, k85, k86, k87, k88, k89, k90, k91, k92, k93, k94, k95, k96, k97, k98⟩ := (tw_sp.rf q14s.1).1 m 36 km1 (by decide)
    refine tw_bi (tw_callV (M := mL_law_) (pc := 1225) okX10_trip dL_law__1225 w_1553 rfl f69 [.int y4, .int y7, .int y10, .int y13] [] rfl rfl ⟨by decide, by decide⟩ (Nat.le_of_ble_eq_true rfl) (c2_X10_trip d g τc h15 (tw_sp.rf q14s.1).1 m km1 y4 y7 y10 y13 o ko1 (by exact ok.2.1.em (by have z := h49; rw [ok.2.1.2.2.2.1, ok.2.1.1] at z; exact z))) ((c + 900) - 20) ((n + 5000) - 120) (by omega) (by omega)) (fun r101 h100 q99 => ?_) (fun E h1 q => q.elim)
    obtain ⟨g9, τ9, s9, oq9, q99a⟩ := q99
    have kx2 := s9.2.1.k kx1 (by decide)
    have km2 := s9.2.1.k km1 (by decide)
    have ko2 := s9.2.1.k ko1 (by decide)
    have q14cI3 : ¬ (tw_ix (g.2 3) y4 ∧ tw_ix (g.2 3) y7) := by rw [← ok.2.1.2.2.2.1.trans ok.2.1.1]; exact q14cI
    rcases q99a with ⟨-, ht, eg9⟩ | ⟨z, -⟩ | ⟨z, -⟩
    · rw [eg9] at s9
      have ok9 : tw_ok5 d x m o g τ9 h100 := ⟨s9.1, ok.2.1, kx2, km2, ko2⟩
      have sp102 := tw_sp.rf ok9.1
      refine tw_istore [(6, .int r101), (5, .int 1), (0, .ref (d.2 98)), (1, .ref x), (2, .ref m), (3, .ref o), (4, .int (nI (5 * j)))] dL_law__1228 (by decide) rfl ?_
      refine tw_goto 1391 dL_law__1230 (by decide) ?_
      refine tw_lv [2, 3, 4, 5, 6] rfl ?_
      refine tw_less (c2 := c) (n2 := n) (by omega) (by omega) ?_
      exact J _ _ _ ok9
    · exact absurd z q14cI3
    · exact absurd z q14cI3
  · rw [q14e]
    have h49 := (tw_b678 ok.1 ok.2.2.1).1
    have kx1 := q14s.2.1.k ok.2.2.1 (by decide)
    have km1 := q14s.2.1.k ok.2.2.2.1 (by decide)
    have ko1 := q14s.2.1.k ok.2.2.2.2 (by decide)
    refine tw_istore [(5, .int 2), (0, .ref (d.2 98)), (1, .ref x), (2, .ref m), (3, .ref o), (4, .int (nI (5 * j)))] dL_law__1198 (by decide) rfl ?_
    refine tw_aload_n 3 dL_law__1200 rfl rfl ?_
    refine tw_aload_n 1 dL_law__1201 rfl rfl ?_
    refine tw_iload 5 dL_law__1202 rfl ?_
    refine tw_iconst (v := 1) dL_law__1204 (by decide) ?_
    refine tw_iadd dL_law__1205 ?_
    refine tw_nmi (fun v103 ev103 => ?_)
    have q104 : v103 = nI (5 * j + 1) := by rw [ev103]; exact tw_s1 _
    rw [q104]
    refine tw_ti (v := .int y4) (fun _ _ z => z.xs.2.2.2.2.2) dL_law__1206 (vp_in_nI (by omega) (by omega)) (congrArg Value.int ey4) ?_
    refine tw_aload_n 1 dL_law__1207 rfl rfl ?_
    refine tw_iload 5 dL_law__1208 rfl ?_
    refine tw_iconst (v := 2) dL_law__1210 (by decide) ?_
    refine tw_iadd dL_law__1211 ?_
    refine tw_nmi (fun v105 ev105 => ?_)
    have q106 : v105 = nI (5 * j + 2) := by rw [ev105]; exact tw_s2 _
    rw [q106]
    refine tw_ti (v := .int y7) (fun _ _ z => z.xs.2.2.2.2.2) dL_law__1212 (vp_in_nI (by omega) (by omega)) (congrArg Value.int ey7) ?_
    refine tw_aload_n 1 dL_law__1213 rfl rfl ?_
    refine tw_iload 5 dL_law__1214 rfl ?_
    refine tw_iconst (v := 3) dL_law__1216 (by decide) ?_
    refine tw_iadd dL_law__1217 ?_
    refine tw_nmi (fun v107 ev107 => ?_)
    have q108 : v107 = nI (5 * j + 3) := by rw [ev107]; exact tw_s3 _
    rw [q108]
    refine tw_ti (v := .int y10) (fun _ _ z => z.xs.2.2.2.2.2) dL_law__1218 (vp_in_nI (by omega) (by omega)) (congrArg Value.int ey10) ?_
    refine tw_aload_n 1 dL_law__1219 rfl rfl ?_
    refine tw_iload 5 dL_law__1220 rfl ?_
    refine tw_iconst (v := 4) dL_law__1222 (by decide) ?_
    refine tw_iadd dL_law__1223 ?_
    refine tw_nmi (fun v109 ev109 => ?_)
    have q110 : v109 = nI (5 * j + 4) := by rw [ev109]; exact tw_s4 _
    rw [q110]
    refine tw_ti (v := .int y13) (fun _ _ z => z.xs.2.2.2.2.2) dL_law__1224 (vp_in_nI (by omega) (by omega)) (congrArg Value.int ey13) ?_
    obtain ⟨e111, f112, th_113, td_114, ds_115, fr_116, ca_117, us_118, wo_119, cm_120, lc_121, lh_122, ld_123, rfl, k124, k125, k126, k127, k128, k129, k130, k131, k132, k133, k134, k135, k136, k137, k138, k139, k140, k141⟩ := (tw_sp.rf q14s.1).1 m 36 km1 (by decide)
    refine tw_bi (tw_callV (M := mL_law_) (pc := 1225) okX10_trip dL_law__1225 w_1553 rfl f112 [.int y4, .int y7, .int y10, .int y13] [] rfl rfl ⟨by decide, by decide⟩ (Nat.le_of_ble_eq_true rfl) (c2_X10_trip d g τc h15 (tw_sp.rf q14s.1).1 m km1 y4 y7 y10 y13 o ko1 (by exact ok.2.1.em (by have z := h49; rw [ok.2.1.2.2.2.1, ok.2.1.1] at z; exact z))) ((c + 900) - 20) ((n + 5000) - 120) (by omega) (by omega)) (fun r144 h143 q142 => ?_) (fun E h1 q => q.elim)
    obtain ⟨g9, τ9, s9, oq9, q142a⟩ := q142
    have kx2 := s9.2.1.k kx1 (by decide)
    have km2 := s9.2.1.k km1 (by decide)
    have ko2 := s9.2.1.k ko1 (by decide)
    have q14cI3 : (tw_ix (g.2 3) y4 ∧ tw_ix (g.2 3) y7) := by rw [← ok.2.1.2.2.2.1.trans ok.2.1.1]; exact q14cI
    rcases q142a with ⟨z, -⟩ | ⟨-, -, ht, eg9⟩ | ⟨-, z, -⟩
    · exact absurd q14cI3 z
    · rw [eg9] at s9
      have ok9 : tw_ok5 d x m o g τ9 h143 := ⟨s9.1, ok.2.1, kx2, km2, ko2⟩
      have sp145 := tw_sp.rf ok9.1
      refine tw_istore [(6, .int r144), (5, .int 2), (0, .ref (d.2 98)), (1, .ref x), (2, .ref m), (3, .ref o), (4, .int (nI (5 * j)))] dL_law__1228 (by decide) rfl ?_
      refine tw_goto 1391 dL_law__1230 (by decide) ?_
      refine tw_lv [2, 3, 4, 5, 6] rfl ?_
      refine tw_less (c2 := c) (n2 := n) (by omega) (by omega) ?_
      exact J _ _ _ ok9
    · exact absurd z q14cR

set_option maxHeartbeats 4000000 in
set_option maxRecDepth 100000 in
theorem law_case_22 (d : tw_D) (x m o j c n : Nat) (Q : tw_O → tw_H → Prop) (hL : d.2 97 ≤ 2560) (hj : 5 * j + 5 ≤ d.2 97) (J : tw_J d x m o j Q c n) (g : tw_G) (τ : tw_K) (h : tw_H) (ok : tw_ok5 d x m o g τ h) : tw_W d mL_law_ Q 1233 (tw_lv5 d x m o j) [] h (c + 900) (n + 5000) := by
  show tw_W d mL_law_ Q 1233 [(0, .ref (d.2 98)), (1, .ref x), (2, .ref m), (3, .ref o), (4, .int (nI (5 * j)))] [] h (c + 900) (n + 5000)
  have sp1 := tw_sp.rf ok.1
  refine tw_aload_n 1 dL_law__1233 rfl rfl ?_
  refine tw_aload_n 0 dL_law__1234 rfl rfl ?_
  refine tw_iload 4 dL_law__1235 rfl ?_
  refine tw_iconst (v := 1) dL_law__1237 (by decide) ?_
  refine tw_iadd dL_law__1238 ?_
  refine tw_nmi (fun v2 ev2 => ?_)
  have q3 : v2 = nI (5 * j + 1) := by rw [ev2]; exact tw_s1 _
  rw [q3]
  obtain ⟨y4, ey4⟩ : ∃ y : Int32, Int32.ofNat (d.2 (1000 + (nI (5 * j + 1)).toNatClampNeg)) = y := ⟨_, rfl⟩
  refine tw_ti (v := .int y4) (fun _ _ z => z.xs.2.2.2.2.2) dL_law__1239 (vp_in_nI (by omega) (by omega)) (congrArg Value.int ey4) ?_
  refine tw_aload_n 0 dL_law__1240 rfl rfl ?_
  refine tw_iload 4 dL_law__1241 rfl ?_
  refine tw_iconst (v := 2) dL_law__1243 (by decide) ?_
  refine tw_iadd dL_law__1244 ?_
  refine tw_nmi (fun v5 ev5 => ?_)
  have q6 : v5 = nI (5 * j + 2) := by rw [ev5]; exact tw_s2 _
  rw [q6]
  obtain ⟨y7, ey7⟩ : ∃ y : Int32, Int32.ofNat (d.2 (1000 + (nI (5 * j + 2)).toNatClampNeg)) = y := ⟨_, rfl⟩
  refine tw_ti (v := .int y7) (fun _ _ z => z.xs.2.2.2.2.2) dL_law__1245 (vp_in_nI (by omega) (by omega)) (congrArg Value.int ey7) ?_
  refine tw_aload_n 0 dL_law__1246 rfl rfl ?_
  refine tw_iload 4 dL_law__1247 rfl ?_
  refine tw_iconst (v := 3) dL_law__1249 (by decide) ?_
  refine tw_iadd dL_law__1250 ?_
  refine tw_nmi (fun v8 ev8 => ?_)
  have q9 : v8 = nI (5 * j + 3) := by rw [ev8]; exact tw_s3 _
  rw [q9]
  obtain ⟨y10, ey10⟩ : ∃ y : Int32, Int32.ofNat (d.2 (1000 + (nI (5 * j + 3)).toNatClampNeg)) = y := ⟨_, rfl⟩
  refine tw_ti (v := .int y10) (fun _ _ z => z.xs.2.2.2.2.2) dL_law__1251 (vp_in_nI (by omega) (by omega)) (congrArg Value.int ey10) ?_
  refine tw_aload_n 3 dL_law__1252 rfl rfl ?_
  refine tw_bi (tw_callSH (M := mL_law_) (pc := 1253) okL_bestTrip dL_law__1253 w_1092 [.ref x, .int y4, .int y7, .int y10, .ref o] [] rfl rfl ⟨by decide, by decide⟩ (Nat.le_of_ble_eq_true rfl) (c_L_bestTrip d g τ h sp1.1 x ok.2.2.1 y4 y7 y10 o ok.2.2.2.2 (ok.2.1.ec (tw_b678 ok.1 ok.2.2.1).1)) ((c + 900) - 20) ((n + 5000) - 120) (by omega) (by omega)) (fun r13 h12 q11 => ?_) (fun E h1 q => q.elim)
  rcases q11 with ⟨q11e, q11cI, q11cR, q11n, τc, q11s⟩ | ⟨q11e, q11cI, τc, q11s⟩ | ⟨q11e, q11cI, q11cR, τc, q11s⟩
  · rw [q11e]
    have h49 := (tw_b678 ok.1 ok.2.2.1).1
    obtain ⟨gL, egL⟩ : ∃ z : tw_G, z = (g) := ⟨_, rfl⟩
    rw [← egL] at q11s
    have gl3 : gL.2 3 = g.2 3 := by rw [egL]
    have gl4 : gL.2 4 = g.2 4 := by rw [egL]
    have gl5 : gL.2 5 = g.2 5 := by rw [egL]
    have gl9 : gL.2 9 = g.2 9 := by rw [egL]
    have gl22 : gL.2 22 = g.2 22 := by rw [egL]
    have kx1 := q11s.2.1.k ok.2.2.1 (by decide)
    have km1 := q11s.2.1.k ok.2.2.2.1 (by decide)
    have ko1 := q11s.2.1.k ok.2.2.2.2 (by decide)
    refine tw_istore [(5, .int 0), (0, .ref (d.2 98)), (1, .ref x), (2, .ref m), (3, .ref o), (4, .int (nI (5 * j)))] dL_law__1256 (by decide) rfl ?_
    refine tw_aload_n 3 dL_law__1258 rfl rfl ?_
    refine tw_aload_n 1 dL_law__1259 rfl rfl ?_
    refine tw_iload 5 dL_law__1260 rfl ?_
    refine tw_iconst (v := 1) dL_law__1262 (by decide) ?_
    refine tw_iadd dL_law__1263 ?_
    refine tw_nmi (fun v14 ev14 => ?_)
    have q15 : v14 = nI (5 * j + 1) := by rw [ev14]; exact tw_s1 _
    rw [q15]
    refine tw_ti (v := .int y4) (fun _ _ z => z.xs.2.2.2.2.2) dL_law__1264 (vp_in_nI (by omega) (by omega)) (congrArg Value.int ey4) ?_
    refine tw_aload_n 1 dL_law__1265 rfl rfl ?_
    refine tw_iload 5 dL_law__1266 rfl ?_
    refine tw_iconst (v := 2) dL_law__1268 (by decide) ?_
    refine tw_iadd dL_law__1269 ?_
    refine tw_nmi (fun v16 ev16 => ?_)
    have q17 : v16 = nI (5 * j + 2) := by rw [ev16]; exact tw_s2 _
    rw [q17]
    refine tw_ti (v := .int y7) (fun _ _ z => z.xs.2.2.2.2.2) dL_law__1270 (vp_in_nI (by omega) (by omega)) (congrArg Value.int ey7) ?_
    refine tw_aload_n 1 dL_law__1271 rfl rfl ?_
    refine tw_iload 5 dL_law__1272 rfl ?_
    refine tw_iconst (v := 3) dL_law__1274 (by decide) ?_
    refine tw_iadd dL_law__1275 ?_
    refine tw_nmi (fun v18 ev18 => ?_)
    have q19 : v18 = nI (5 * j + 3) := by rw [ev18]; exact tw_s3 _
    rw [q19]
    refine tw_ti (v := .int y10) (fun _ _ z => z.xs.2.2.2.2.2) dL_law__1276 (vp_in_nI (by omega) (by omega)) (congrArg Value.int ey10) ?_
    obtain ⟨e20, f21, th_22, td_23, ds_24, fr_25, ca_26, us_27, wo_28, cm_29, lc_30, lh_31, ld_32, rfl, k33, k34, k35, k36, k37, k38, k39, k40, k41, k42, k43, k44, k45, k46, k47, k48, k49, k50⟩ := (tw_sp.rf q11s.1).1 m 36 km1 (by decide)
    refine tw_bi (tw_callV (M := mL_law_) (pc := 1277) okX10_bestTrip dL_law__1277 w_1561 rfl f21 [.int y4, .int y7, .int y10] [] rfl rfl ⟨by decide, by decide⟩ (Nat.le_of_ble_eq_true rfl) (c2_X10_bestTrip d gL τc h12 (tw_sp.rf q11s.1).1 m km1 y4 y7 y10 o ko1 (by rw [egL]; exact ok.2.1.em (by have z := h49; rw [ok.2.1.2.2.2.1, ok.2.1.1] at z; exact z))) ((c + 900) - 20) ((n + 5000) - 120) (by omega) (by omega)) (fun r53 h52 q51 => ?_) (fun E h1 q => q.elim)
    obtain ⟨g9, τ9, s9, oq9, q51a⟩ := q51
    have kx2 := s9.2.1.k kx1 (by decide)
    have km2 := s9.2.1.k km1 (by decide)
    have ko2 := s9.2.1.k ko1 (by decide)
    have q11cI3 : tw_ix (gL.2 3) y4 := by rw [gl3, ← ok.2.1.2.2.2.1.trans ok.2.1.1]; exact q11cI
    rcases q51a with ⟨z, -⟩ | ⟨-, z, -⟩ | ⟨-, -, hr2, ht, gk9⟩
    · exact absurd q11cI3 z
    · exact absurd q11cR z
    · rw [hr2]
      have ok9 : tw_ok5 d x m o g9 τ9 h52 := ⟨s9.1, (by rw [gk9, egL]; exact ok.2.1), kx2, km2, ko2⟩
      have hlg : tw_lg (h52 o) = (tw_bno (tw_bC g (tw_DN y4) (tw_DN y7) (tw_DN y10) (g.2 6)).1).toInt64 := by rw [oq9]; exact q11n
      have sp54 := tw_sp.rf ok9.1
      refine tw_istore [(6, .int (tw_bno (tw_bM gL (tw_DN y4) (tw_DN y7) (tw_DN y10) (gL.2 3)).1)), (5, .int 0), (0, .ref (d.2 98)), (1, .ref x), (2, .ref m), (3, .ref o), (4, .int (nI (5 * j)))] dL_law__1280 (by decide) rfl ?_
      refine tw_goto 1391 dL_law__1282 (by decide) ?_
      refine tw_lv [2, 3, 4, 5, 6] rfl ?_
      refine tw_less (c2 := c) (n2 := n) (by omega) (by omega) ?_
      exact J _ _ _ ok9
  · rw [q11e]
    have h49 := (tw_b678 ok.1 ok.2.2.1).1
    have kx1 := q11s.2.1.k ok.2.2.1 (by decide)
    have km1 := q11s.2.1.k ok.2.2.2.1 (by decide)
    have ko1 := q11s.2.1.k ok.2.2.2.2 (by decide)
    refine tw_istore [(5, .int 1), (0, .ref (d.2 98)), (1, .ref x), (2, .ref m), (3, .ref o), (4, .int (nI (5 * j)))] dL_law__1256 (by decide) rfl ?_
    refine tw_aload_n 3 dL_law__1258 rfl rfl ?_
    refine tw_aload_n 1 dL_law__1259 rfl rfl ?_
    refine tw_iload 5 dL_law__1260 rfl ?_
    refine tw_iconst (v := 1) dL_law__1262 (by decide) ?_
    refine tw_iadd dL_law__1263 ?_
    refine tw_nmi (fun v55 ev55 => ?_)
    have q56 : v55 = nI (5 * j + 1) := by rw [ev55]; exact tw_s1 _
    rw [q56]
    refine tw_ti (v := .int y4) (fun _ _ z => z.xs.2.2.2.2.2) dL_law__1264 (vp_in_nI (by omega) (by omega)) (congrArg Value.int ey4) ?_
    refine tw_aload_n 1 dL_law__1265 rfl rfl ?_
    refine tw_iload 5 dL_law__1266 rfl ?_
    refine tw_iconst (v := 2) dL_law__1268 (by decide) ?_
    refine tw_iadd dL_law__1269 ?_
    refine tw_nmi (fun v57 ev57 => ?_)
    have q58 : v57 = nI (5 * j + 2) := by rw [ev57]; exact tw_s2 _
    rw [q58]
    refine tw_ti (v := .int y7) (fun _ _ z => z.xs.2.2.2.2.2) dL_law__1270 (vp_in_nI (by omega) (by omega)) (congrArg Value.int ey7) ?_
    refine tw_aload_n 1 dL_law__1271 rfl rfl ?_
    refine tw_iload 5 dL_law__1272 rfl ?_
    refine tw_iconst (v := 3) dL_law__1274 (by decide) ?_
    refine tw_iadd dL_law__1275 ?_
    refine tw_nmi (fun v59 ev59 => ?_)
    have q60 : v59 = nI (5 * j + 3) := by rw [ev59]; exact tw_s3 _
    rw [q60]
    refine tw_ti (v := .int y10) (fun _ _ z => z.xs.2.2.2.2.2) dL_law__1276 (vp_in_nI (by omega) (by omega)) (congrArg Value.int ey10) ?_
    obtain ⟨e61, f62, th_63, td_64, ds_65, fr_66, ca_67, us_68, wo_69, cm_70, lc_71, lh_72, ld_73, rfl, k74, k75, k76, k77, k78, k79, k80, k81, k82, k83, k84, k85, k86, k87, k88, k89, k90, k91⟩ := (tw_sp.rf q11s.1).1 m 36 km1 (by decide)
    refine tw_bi (tw_callV (M := mL_law_) (pc := 1277) okX10_bestTrip dL_law__1277 w_1561 rfl f62 [.int y4, .int y7, .int y10] [] rfl rfl ⟨by decide, by decide⟩ (Nat.le_of_ble_eq_true rfl) (c2_X10_bestTrip d g τc h12 (tw_sp.rf q11s.1).1 m km1 y4 y7 y10 o ko1 (by exact ok.2.1.em (by have z := h49; rw [ok.2.1.2.2.2.1, ok.2.1.1] at z; exact z))) ((c + 900) - 20) ((n + 5000) - 120) (by omega) (by omega)) (fun r94 h93 q92 => ?_) (fun E h1 q => q.elim)
    obtain ⟨g9, τ9, s9, oq9, q92a⟩ := q92
    have kx2 := s9.2.1.k kx1 (by decide)
    have km2 := s9.2.1.k km1 (by decide)
    have ko2 := s9.2.1.k ko1 (by decide)
    have q11cI3 : ¬ tw_ix (g.2 3) y4 := by rw [← ok.2.1.2.2.2.1.trans ok.2.1.1]; exact q11cI
    rcases q92a with ⟨-, ht, eg9⟩ | ⟨z, -⟩ | ⟨z, -⟩
    · rw [eg9] at s9
      have ok9 : tw_ok5 d x m o g τ9 h93 := ⟨s9.1, ok.2.1, kx2, km2, ko2⟩
      have sp95 := tw_sp.rf ok9.1
      refine tw_istore [(6, .int r94), (5, .int 1), (0, .ref (d.2 98)), (1, .ref x), (2, .ref m), (3, .ref o), (4, .int (nI (5 * j)))] dL_law__1280 (by decide) rfl ?_
      refine tw_goto 1391 dL_law__1282 (by decide) ?_
      refine tw_lv [2, 3, 4, 5, 6] rfl ?_
      refine tw_less (c2 := c) (n2 := n) (by omega) (by omega) ?_
      exact J _ _ _ ok9
    · exact absurd z q11cI3
    · exact absurd z q11cI3
  · rw [q11e]
    have h49 := (tw_b678 ok.1 ok.2.2.1).1
    have kx1 := q11s.2.1.k ok.2.2.1 (by decide)
    have km1 := q11s.2.1.k ok.2.2.2.1 (by decide)
    have ko1 := q11s.2.1.k ok.2.2.2.2 (by decide)
    refine tw_istore [(5, .int 2), (0, .ref (d.2 98)), (1, .ref x), (2, .ref m), (3, .ref o), (4, .int (nI (5 * j)))] dL_law__1256 (by decide) rfl ?_
    refine tw_aload_n 3 dL_law__1258 rfl rfl ?_
    refine tw_aload_n 1 dL_law__1259 rfl rfl ?_
    refine tw_iload 5 dL_law__1260 rfl ?_
    refine tw_iconst (v := 1) dL_law__1262 (by decide) ?_
    refine tw_iadd dL_law__1263 ?_
    refine tw_nmi (fun v96 ev96 => ?_)
    have q97 : v96 = nI (5 * j + 1) := by rw [ev96]; exact tw_s1 _
    rw [q97]
    refine tw_ti (v := .int y4) (fun _ _ z => z.xs.2.2.2.2.2) dL_law__1264 (vp_in_nI (by omega) (by omega)) (congrArg Value.int ey4) ?_
    refine tw_aload_n 1 dL_law__1265 rfl rfl ?_
    refine tw_iload 5 dL_law__1266 rfl ?_
    refine tw_iconst (v := 2) dL_law__1268 (by decide) ?_
    refine tw_iadd dL_law__1269 ?_
    refine tw_nmi (fun v98 ev98 => ?_)
    have q99 : v98 = nI (5 * j + 2) := by rw [ev98]; exact tw_s2 _
    rw [q99]
    refine tw_ti (v := .int y7) (fun _ _ z => z.xs.2.2.2.2.2) dL_law__1270 (vp_in_nI (by omega) (by omega)) (congrArg Value.int ey7) ?_
    refine tw_aload_n 1 dL_law__1271 rfl rfl ?_
    refine tw_iload 5 dL_law__1272 rfl ?_
    refine tw_iconst (v := 3) dL_law__1274 (by decide) ?_
    refine tw_iadd dL_law__1275 ?_
    refine tw_nmi (fun v100 ev100 => ?_)
    have q101 : v100 = nI (5 * j + 3) := by rw [ev100]; exact tw_s3 _
    rw [q101]
    refine tw_ti (v := .int y10) (fun _ _ z => z.xs.2.2.2.2.2) dL_law__1276 (vp_in_nI (by omega) (by omega)) (congrArg Value.int ey10) ?_
    obtain ⟨e102, f103, th_104, td_105, ds_106, fr_107, ca_108, us_109, wo_110, cm_111, lc_112, lh_113, ld_114, rfl, k115, k116, k117, k118, k119, k120, k121, k122, k123, k124, k125, k126, k127, k128, k129, k130, k131, k132⟩ := (tw_sp.rf q11s.1).1 m 36 km1 (by decide)
    refine tw_bi (tw_callV (M := mL_law_) (pc := 1277) okX10_bestTrip dL_law__1277 w_1561 rfl f103 [.int y4, .int y7, .int y10] [] rfl rfl ⟨by decide, by decide⟩ (Nat.le_of_ble_eq_true rfl) (c2_X10_bestTrip d g τc h12 (tw_sp.rf q11s.1).1 m km1 y4 y7 y10 o ko1 (by exact ok.2.1.em (by have z := h49; rw [ok.2.1.2.2.2.1, ok.2.1.1] at z; exact z))) ((c + 900) - 20) ((n + 5000) - 120) (by omega) (by omega)) (fun r135 h134 q133 => ?_) (fun E h1 q => q.elim)
    obtain ⟨g9, τ9, s9, oq9, q133a⟩ := q133
    have kx2 := s9.2.1.k kx1 (by decide)
    have km2 := s9.2.1.k km1 (by decide)
    have ko2 := s9.2.1.k ko1 (by decide)
    have q11cI3 : tw_ix (g.2 3) y4 := by rw [← ok.2.1.2.2.2.1.trans ok.2.1.1]; exact q11cI
    rcases q133a with ⟨z, -⟩ | ⟨-, -, ht, eg9⟩ | ⟨-, z, -⟩
    · exact absurd q11cI3 z
    · rw [eg9] at s9
      have ok9 : tw_ok5 d x m o g τ9 h134 := ⟨s9.1, ok.2.1, kx2, km2, ko2⟩
      have sp136 := tw_sp.rf ok9.1
      refine tw_istore [(6, .int r135), (5, .int 2), (0, .ref (d.2 98)), (1, .ref x), (2, .ref m), (3, .ref o), (4, .int (nI (5 * j)))] dL_law__1280 (by decide) rfl ?_
      refine tw_goto 1391 dL_law__1282 (by decide) ?_
      refine tw_lv [2, 3, 4, 5, 6] rfl ?_
      refine tw_less (c2 := c) (n2 := n) (by omega) (by omega) ?_
      exact J _ _ _ ok9
    · exact absurd z q11cR

set_option maxHeartbeats 4000000 in
set_option maxRecDepth 100000 in
theorem law_case_23 (d : tw_D) (x m o j c n : Nat) (Q : tw_O → tw_H → Prop) (hL : d.2 97 ≤ 2560) (hj : 5 * j + 5 ≤ d.2 97) (J : tw_J d x m o j Q c n) (g : tw_G) (τ : tw_K) (h : tw_H) (ok : tw_ok5 d x m o g τ h) : tw_W d mL_law_ Q 1285 (tw_lv5 d x m o j) [] h (c + 900) (n + 5000) := by
  show tw_W d mL_law_ Q 1285 [(0, .ref (d.2 98)), (1, .ref x), (2, .ref m), (3, .ref o), (4, .int (nI (5 * j)))] [] h (c + 900) (n + 5000)
  have sp1 := tw_sp.rf ok.1
  refine tw_aload_n 1 dL_law__1285 rfl rfl ?_
  refine tw_aload_n 0 dL_law__1286 rfl rfl ?_
  refine tw_iload 4 dL_law__1287 rfl ?_
  refine tw_iconst (v := 1) dL_law__1289 (by decide) ?_
  refine tw_iadd dL_law__1290 ?_
  refine tw_nmi (fun v2 ev2 => ?_)
  have q3 : v2 = nI (5 * j + 1) := by rw [ev2]; exact tw_s1 _
  rw [q3]
  obtain ⟨y4, ey4⟩ : ∃ y : Int32, Int32.ofNat (d.2 (1000 + (nI (5 * j + 1)).toNatClampNeg)) = y := ⟨_, rfl⟩
  refine tw_ti (v := .int y4) (fun _ _ z => z.xs.2.2.2.2.2) dL_law__1291 (vp_in_nI (by omega) (by omega)) (congrArg Value.int ey4) ?_
  refine tw_aload_n 3 dL_law__1292 rfl rfl ?_
  refine tw_bi (tw_callSH (M := mL_law_) (pc := 1293) okL_rest dL_law__1293 w_1099 [.ref x, .int y4, .ref o] [] rfl rfl ⟨by decide, by decide⟩ (Nat.le_of_ble_eq_true rfl) (c_L_rest d g τ h sp1.1 x ok.2.2.1 y4 o ok.2.2.2.2 (ok.2.1.ec (tw_b678 ok.1 ok.2.2.1).1)) ((c + 900) - 20) ((n + 5000) - 120) (by omega) (by omega)) (fun r7 h6 q5 => ?_) (fun E h1 q => q.elim)
  rcases q5 with ⟨q5e, q5cR, q5n, q5z, τc, q5s⟩ | ⟨q5e, q5cR, τc, q5s⟩
  · rw [q5e]
    have h49 := (tw_b678 ok.1 ok.2.2.1).1
    obtain ⟨gL, egL⟩ : ∃ z : tw_G, z = (g) := ⟨_, rfl⟩
    rw [← egL] at q5s
    have gl3 : gL.2 3 = g.2 3 := by rw [egL]
    have gl4 : gL.2 4 = g.2 4 := by rw [egL]
    have gl5 : gL.2 5 = g.2 5 := by rw [egL]
    have gl9 : gL.2 9 = g.2 9 := by rw [egL]
    have gl22 : gL.2 22 = g.2 22 := by rw [egL]
    have kx1 := q5s.2.1.k ok.2.2.1 (by decide)
    have km1 := q5s.2.1.k ok.2.2.2.1 (by decide)
    have ko1 := q5s.2.1.k ok.2.2.2.2 (by decide)
    refine tw_istore [(5, .int 0), (0, .ref (d.2 98)), (1, .ref x), (2, .ref m), (3, .ref o), (4, .int (nI (5 * j)))] dL_law__1296 (by decide) rfl ?_
    refine tw_aload_n 3 dL_law__1298 rfl rfl ?_
    refine tw_aload_n 1 dL_law__1299 rfl rfl ?_
    refine tw_iload 5 dL_law__1300 rfl ?_
    refine tw_iconst (v := 1) dL_law__1302 (by decide) ?_
    refine tw_iadd dL_law__1303 ?_
    refine tw_nmi (fun v8 ev8 => ?_)
    have q9 : v8 = nI (5 * j + 1) := by rw [ev8]; exact tw_s1 _
    rw [q9]
    refine tw_ti (v := .int y4) (fun _ _ z => z.xs.2.2.2.2.2) dL_law__1304 (vp_in_nI (by omega) (by omega)) (congrArg Value.int ey4) ?_
    obtain ⟨e10, f11, th_12, td_13, ds_14, fr_15, ca_16, us_17, wo_18, cm_19, lc_20, lh_21, ld_22, rfl, k23, k24, k25, k26, k27, k28, k29, k30, k31, k32, k33, k34, k35, k36, k37, k38, k39, k40⟩ := (tw_sp.rf q5s.1).1 m 36 km1 (by decide)
    refine tw_bi (tw_callV (M := mL_law_) (pc := 1305) okX10_rest dL_law__1305 w_1569 rfl f11 [.int y4] [] rfl rfl ⟨by decide, by decide⟩ (Nat.le_of_ble_eq_true rfl) (c2_X10_rest d gL τc h6 (tw_sp.rf q5s.1).1 m km1 y4 o ko1 (by rw [egL]; exact ok.2.1.em (by have z := h49; rw [ok.2.1.2.2.2.1, ok.2.1.1] at z; exact z))) ((c + 900) - 20) ((n + 5000) - 120) (by omega) (by omega)) (fun r43 h42 q41 => ?_) (fun E h1 q => q.elim)
    obtain ⟨g9, τ9, s9, oq9, q41a⟩ := q41
    have kx2 := s9.2.1.k kx1 (by decide)
    have km2 := s9.2.1.k km1 (by decide)
    have ko2 := s9.2.1.k ko1 (by decide)
    rcases q41a with ⟨z, -⟩ | ⟨-, hr2, ht, gk9⟩
    · exact absurd q5cR z
    · rw [hr2]
      have ok9 : tw_ok5 d x m o g9 τ9 h42 := ⟨s9.1, (by rw [gk9, egL]; exact ok.2.1), kx2, km2, ko2⟩
      have hlg : tw_lg (h42 o) = (tw_rbi (tw_rC g (tw_DN y4) (g.2 6))).toInt64 := by rw [oq9]; exact q5n
      have sp44 := tw_sp.rf ok9.1
      refine tw_istore [(6, .int (tw_rbi (tw_rM gL (tw_DN y4) (gL.2 3)))), (5, .int 0), (0, .ref (d.2 98)), (1, .ref x), (2, .ref m), (3, .ref o), (4, .int (nI (5 * j)))] dL_law__1308 (by decide) rfl ?_
      refine tw_goto 1391 dL_law__1310 (by decide) ?_
      refine tw_lv [2, 3, 4, 5, 6] rfl ?_
      refine tw_less (c2 := c) (n2 := n) (by omega) (by omega) ?_
      exact J _ _ _ ok9
  · rw [q5e]
    have h49 := (tw_b678 ok.1 ok.2.2.1).1
    have kx1 := q5s.2.1.k ok.2.2.1 (by decide)
    have km1 := q5s.2.1.k ok.2.2.2.1 (by decide)
    have ko1 := q5s.2.1.k ok.2.2.2.2 (by decide)
    refine tw_istore [(5, .int 1), (0, .ref (d.2 98)), (1, .ref x), (2, .ref m), (3, .ref o), (4, .int (nI (5 * j)))] dL_law__1296 (by decide) rfl ?_
    refine tw_aload_n 3 dL_law__1298 rfl rfl ?_
    refine tw_aload_n 1 dL_law__1299 rfl rfl ?_
    refine tw_iload 5 dL_law__1300 rfl ?_
    refine tw_iconst (v := 1) dL_law__1302 (by decide) ?_
    refine tw_iadd dL_law__1303 ?_
    refine tw_nmi (fun v45 ev45 => ?_)
    have q46 : v45 = nI (5 * j + 1) := by rw [ev45]; exact tw_s1 _
    rw [q46]
    refine tw_ti (v := .int y4) (fun _ _ z => z.xs.2.2.2.2.2) dL_law__1304 (vp_in_nI (by omega) (by omega)) (congrArg Value.int ey4) ?_
    obtain ⟨e47, f48, th_49, td_50, ds_51, fr_52, ca_53, us_54, wo_55, cm_56, lc_57, lh_58, ld_59, rfl, k60, k61, k62, k63, k64, k65, k66, k67, k68, k69, k70, k71, k72, k73, k74, k75, k76, k77⟩ := (tw_sp.rf q5s.1).1 m 36 km1 (by decide)
    refine tw_bi (tw_callV (M := mL_law_) (pc := 1305) okX10_rest dL_law__1305 w_1569 rfl f48 [.int y4] [] rfl rfl ⟨by decide, by decide⟩ (Nat.le_of_ble_eq_true rfl) (c2_X10_rest d g τc h6 (tw_sp.rf q5s.1).1 m km1 y4 o ko1 (by exact ok.2.1.em (by have z := h49; rw [ok.2.1.2.2.2.1, ok.2.1.1] at z; exact z))) ((c + 900) - 20) ((n + 5000) - 120) (by omega) (by omega)) (fun r80 h79 q78 => ?_) (fun E h1 q => q.elim)
    obtain ⟨g9, τ9, s9, oq9, q78a⟩ := q78
    have kx2 := s9.2.1.k kx1 (by decide)
    have km2 := s9.2.1.k km1 (by decide)
    have ko2 := s9.2.1.k ko1 (by decide)
    rcases q78a with ⟨-, ht, eg9⟩ | ⟨z, -⟩
    · rw [eg9] at s9
      have ok9 : tw_ok5 d x m o g τ9 h79 := ⟨s9.1, ok.2.1, kx2, km2, ko2⟩
      have sp81 := tw_sp.rf ok9.1
      refine tw_istore [(6, .int r80), (5, .int 1), (0, .ref (d.2 98)), (1, .ref x), (2, .ref m), (3, .ref o), (4, .int (nI (5 * j)))] dL_law__1308 (by decide) rfl ?_
      refine tw_goto 1391 dL_law__1310 (by decide) ?_
      refine tw_lv [2, 3, 4, 5, 6] rfl ?_
      refine tw_less (c2 := c) (n2 := n) (by omega) (by omega) ?_
      exact J _ _ _ ok9
    · exact absurd z q5cR

set_option maxHeartbeats 4000000 in
set_option maxRecDepth 100000 in
theorem law_case_24 (d : tw_D) (x m o j c n : Nat) (Q : tw_O → tw_H → Prop) (hL : d.2 97 ≤ 2560) (hj : 5 * j + 5 ≤ d.2 97) (J : tw_J d x m o j Q c n) (g : tw_G) (τ : tw_K) (h : tw_H) (ok : tw_ok5 d x m o g τ h) : tw_W d mL_law_ Q 1313 (tw_lv5 d x m o j) [] h (c + 900) (n + 5000) := by
  show tw_W d mL_law_ Q 1313 [(0, .ref (d.2 98)), (1, .ref x), (2, .ref m), (3, .ref o), (4, .int (nI (5 * j)))] [] h (c + 900) (n + 5000)
  have sp1 := tw_sp.rf ok.1
  refine tw_aload_n 1 dL_law__1313 rfl rfl ?_
  refine tw_aload_n 0 dL_law__1314 rfl rfl ?_
  refine tw_iload 4 dL_law__1315 rfl ?_
  refine tw_iconst (v := 1) dL_law__1317 (by decide) ?_
  refine tw_iadd dL_law__1318 ?_
  refine tw_nmi (fun v2 ev2 => ?_)
  have q3 : v2 = nI (5 * j + 1) := by rw [ev2]; exact tw_s1 _
  rw [q3]
  obtain ⟨y4, ey4⟩ : ∃ y : Int32, Int32.ofNat (d.2 (1000 + (nI (5 * j + 1)).toNatClampNeg)) = y := ⟨_, rfl⟩
  refine tw_ti (v := .int y4) (fun _ _ z => z.xs.2.2.2.2.2) dL_law__1319 (vp_in_nI (by omega) (by omega)) (congrArg Value.int ey4) ?_
  refine tw_aload_n 0 dL_law__1320 rfl rfl ?_
  refine tw_iload 4 dL_law__1321 rfl ?_
  refine tw_iconst (v := 2) dL_law__1323 (by decide) ?_
  refine tw_iadd dL_law__1324 ?_
  refine tw_nmi (fun v5 ev5 => ?_)
  have q6 : v5 = nI (5 * j + 2) := by rw [ev5]; exact tw_s2 _
  rw [q6]
  obtain ⟨y7, ey7⟩ : ∃ y : Int32, Int32.ofNat (d.2 (1000 + (nI (5 * j + 2)).toNatClampNeg)) = y := ⟨_, rfl⟩
  refine tw_ti (v := .int y7) (fun _ _ z => z.xs.2.2.2.2.2) dL_law__1325 (vp_in_nI (by omega) (by omega)) (congrArg Value.int ey7) ?_
  refine tw_aload_n 0 dL_law__1326 rfl rfl ?_
  refine tw_iload 4 dL_law__1327 rfl ?_
  refine tw_iconst (v := 3) dL_law__1329 (by decide) ?_
  refine tw_iadd dL_law__1330 ?_
  refine tw_nmi (fun v8 ev8 => ?_)
  have q9 : v8 = nI (5 * j + 3) := by rw [ev8]; exact tw_s3 _
  rw [q9]
  obtain ⟨y10, ey10⟩ : ∃ y : Int32, Int32.ofNat (d.2 (1000 + (nI (5 * j + 3)).toNatClampNeg)) = y := ⟨_, rfl⟩
  refine tw_ti (v := .int y10) (fun _ _ z => z.xs.2.2.2.2.2) dL_law__1331 (vp_in_nI (by omega) (by omega)) (congrArg Value.int ey10) ?_
  refine tw_aload_n 3 dL_law__1332 rfl rfl ?_
  refine tw_bi (tw_callSH (M := mL_law_) (pc := 1333) okL_last dL_law__1333 w_1106 [.ref x, .int y4, .int y7, .int y10, .ref o] [] rfl rfl ⟨by decide, by decide⟩ (Nat.le_of_ble_eq_true rfl) (c_L_last d g τ h sp1.1 x ok.2.2.1 y4 y7 y10 o ok.2.2.2.2) ((c + 900) - 20) ((n + 5000) - 120) (by omega) (by omega)) (fun r13 h12 q11 => ?_) (fun E h1 q => q.elim)
  obtain ⟨g14, τ15, q11g, q11s⟩ := q11
  have ok16 := ok.go (by rw [q11g]; exact ok.2.1) q11s
  have sp17 := tw_sp.rf ok16.1
  refine tw_istore [(5, .int r13), (0, .ref (d.2 98)), (1, .ref x), (2, .ref m), (3, .ref o), (4, .int (nI (5 * j)))] dL_law__1336 (by decide) rfl ?_
  refine tw_aload_n 3 dL_law__1338 rfl rfl ?_
  refine tw_aload_n 1 dL_law__1339 rfl rfl ?_
  refine tw_iload 5 dL_law__1340 rfl ?_
  refine tw_iconst (v := 1) dL_law__1342 (by decide) ?_
  refine tw_iadd dL_law__1343 ?_
  refine tw_nmi (fun v18 ev18 => ?_)
  have q19 : v18 = nI (5 * j + 1) := by rw [ev18]; exact tw_s1 _
  rw [q19]
  refine tw_ti (v := .int y4) (fun _ _ z => z.xs.2.2.2.2.2) dL_law__1344 (vp_in_nI (by omega) (by omega)) (congrArg Value.int ey4) ?_
  refine tw_aload_n 1 dL_law__1345 rfl rfl ?_
  refine tw_iload 5 dL_law__1346 rfl ?_
  refine tw_iconst (v := 2) dL_law__1348 (by decide) ?_
  refine tw_iadd dL_law__1349 ?_
  refine tw_nmi (fun v20 ev20 => ?_)
  have q21 : v20 = nI (5 * j + 2) := by rw [ev20]; exact tw_s2 _
  rw [q21]
  refine tw_ti (v := .int y7) (fun _ _ z => z.xs.2.2.2.2.2) dL_law__1350 (vp_in_nI (by omega) (by omega)) (congrArg Value.int ey7) ?_
  refine tw_aload_n 1 dL_law__1351 rfl rfl ?_
  refine tw_iload 5 dL_law__1352 rfl ?_
  refine tw_iconst (v := 3) dL_law__1354 (by decide) ?_
  refine tw_iadd dL_law__1355 ?_
  refine tw_nmi (fun v22 ev22 => ?_)
  have q23 : v22 = nI (5 * j + 3) := by rw [ev22]; exact tw_s3 _
  rw [q23]
  refine tw_ti (v := .int y10) (fun _ _ z => z.xs.2.2.2.2.2) dL_law__1356 (vp_in_nI (by omega) (by omega)) (congrArg Value.int ey10) ?_
  obtain ⟨e24, f25, th_26, td_27, ds_28, fr_29, ca_30, us_31, wo_32, cm_33, lc_34, lh_35, ld_36, rfl, k37, k38, k39, k40, k41, k42, k43, k44, k45, k46, k47, k48, k49, k50, k51, k52, k53, k54⟩ := sp17.1 m 36 ok16.2.2.2.1 (by decide)
  refine tw_bi (tw_callV (M := mL_law_) (pc := 1357) okX10_last dL_law__1357 w_1577 rfl f25 [.int y4, .int y7, .int y10] [] rfl rfl ⟨by decide, by decide⟩ (Nat.le_of_ble_eq_true rfl) (c_X10_last d g14 τ15 h12 sp17.1 m ok16.2.2.2.1 y4 y7 y10) ((c + 900) - 20) ((n + 5000) - 120) (by omega) (by omega)) (fun r57 h56 q55 => ?_) (fun E h1 q => q.elim)
  have q55s := q55
  have ok58 := ok16.go ok16.2.1 q55s
  have sp59 := tw_sp.rf ok58.1
  refine tw_istore [(6, .int r57), (5, .int r13), (0, .ref (d.2 98)), (1, .ref x), (2, .ref m), (3, .ref o), (4, .int (nI (5 * j)))] dL_law__1360 (by decide) rfl ?_
  refine tw_goto 1391 dL_law__1362 (by decide) ?_
  refine tw_lv [2, 3, 4, 5, 6] rfl ?_
  refine tw_less (c2 := c) (n2 := n) (by omega) (by omega) ?_
  exact J _ _ _ ok58

set_option maxHeartbeats 4000000 in
set_option maxRecDepth 100000 in
theorem law_case_25 (d : tw_D) (x m o j c n : Nat) (Q : tw_O → tw_H → Prop) (hL : d.2 97 ≤ 2560) (hj : 5 * j + 5 ≤ d.2 97) (J : tw_J d x m o j Q c n) (g : tw_G) (τ : tw_K) (h : tw_H) (ok : tw_ok5 d x m o g τ h) : tw_W d mL_law_ Q 1365 (tw_lv5 d x m o j) [] h (c + 900) (n + 5000) := by
  show tw_W d mL_law_ Q 1365 [(0, .ref (d.2 98)), (1, .ref x), (2, .ref m), (3, .ref o), (4, .int (nI (5 * j)))] [] h (c + 900) (n + 5000)
  have sp1 := tw_sp.rf ok.1
  refine tw_aload_n 1 dL_law__1365 rfl rfl ?_
  obtain ⟨e2, f3, td_4, ca_5, ha_6, da_7, c1_8, c2_9, c3_10, c4_11, rfl, k12, k13, k14, k15, k16, k17, k18, k19, k20, k21, k22, k23, k24⟩ := sp1.1 x 11 ok.2.2.1 (by decide)
  refine tw_bi (tw_callV (M := mL_law_) (pc := 1366) okX5_isSound dL_law__1366 w_177 rfl f3 [] [] rfl rfl ⟨by decide, by decide⟩ (Nat.le_of_ble_eq_true rfl) (c_X5_isSound d g τ h sp1.1 x ok.2.2.1) (c + 900) (n + 5000) (by omega) (by omega)) (fun r27 h26 q25 => ?_) (fun E h1 q => q.elim)
  rw [q25.1]
  refine tw_pop dL_law__1369 rfl ?_
  refine tw_aload_n 2 dL_law__1370 rfl rfl ?_
  obtain ⟨e28, f29, th_30, td_31, ds_32, fr_33, ca_34, us_35, wo_36, cm_37, lc_38, lh_39, ld_40, rfl, k41, k42, k43, k44, k45, k46, k47, k48, k49, k50, k51, k52, k53, k54, k55, k56, k57, k58⟩ := sp1.1 m 36 ok.2.2.2.1 (by decide)
  refine tw_bi (tw_callV (M := mL_law_) (pc := 1371) okX10_isSound dL_law__1371 w_1585 rfl f29 [] [] rfl rfl ⟨by decide, by decide⟩ (Nat.le_of_ble_eq_true rfl) (c_X10_isSound d g τ h sp1.1 m ok.2.2.2.1) ((c + 900) - 62) ((n + 5000) - 284) (by omega) (by omega)) (fun r61 h60 q59 => ?_) (fun E h1 q => q.elim)
  have q59s := q59.1
  have ok62 := ok.go ok.2.1 q59s
  have sp63 := tw_sp.rf ok62.1
  refine tw_pop dL_law__1374 rfl ?_
  refine tw_goto 1391 dL_law__1375 (by decide) ?_
  refine tw_lv [0, 1, 2, 3, 4] rfl ?_
  refine tw_less (c2 := c) (n2 := n) (by omega) (by omega) ?_
  exact J _ _ _ ok62

set_option maxHeartbeats 4000000 in
set_option maxRecDepth 100000 in
theorem law_case_26 (d : tw_D) (x m o j c n : Nat) (Q : tw_O → tw_H → Prop) (hL : d.2 97 ≤ 2560) (hj : 5 * j + 5 ≤ d.2 97) (J : tw_J d x m o j Q c n) (g : tw_G) (τ : tw_K) (h : tw_H) (ok : tw_ok5 d x m o g τ h) : tw_W d mL_law_ Q 1378 (tw_lv5 d x m o j) [] h (c + 900) (n + 5000) := by
  show tw_W d mL_law_ Q 1378 [(0, .ref (d.2 98)), (1, .ref x), (2, .ref m), (3, .ref o), (4, .int (nI (5 * j)))] [] h (c + 900) (n + 5000)
  have sp1 := tw_sp.rf ok.1
  refine tw_aload_n 1 dL_law__1378 rfl rfl ?_
  obtain ⟨e2, f3, td_4, ca_5, ha_6, da_7, c1_8, c2_9, c3_10, c4_11, rfl, k12, k13, k14, k15, k16, k17, k18, k19, k20, k21, k22, k23, k24⟩ := sp1.1 x 11 ok.2.2.1 (by decide)
  refine tw_bl (tw_callV (M := mL_law_) (pc := 1379) okX5_digest dL_law__1379 w_235 rfl f3 [] [] rfl rfl ⟨by decide, by decide⟩ (Nat.le_of_ble_eq_true rfl) (c_X5_digest d g τ h sp1.1 x ok.2.2.1) (c + 900) (n + 5000) (by omega) (by omega)) (fun r27 h26 q25 => ?_) (fun E h1 q => q.elim)
  rw [q25]
  refine tw_pop2l dL_law__1382 ?_
  refine tw_aload_n 2 dL_law__1383 rfl rfl ?_
  obtain ⟨e28, f29, th_30, td_31, ds_32, fr_33, ca_34, us_35, wo_36, cm_37, lc_38, lh_39, ld_40, rfl, k41, k42, k43, k44, k45, k46, k47, k48, k49, k50, k51, k52, k53, k54, k55, k56, k57, k58⟩ := sp1.1 m 36 ok.2.2.2.1 (by decide)
  refine tw_bl (tw_callV (M := mL_law_) (pc := 1384) okX10_digest dL_law__1384 w_1593 rfl f29 [] [] rfl rfl ⟨by decide, by decide⟩ (Nat.le_of_ble_eq_true rfl) (c_X10_digest d g τ h sp1.1 m ok.2.2.2.1) ((c + 900) - 866) ((n + 5000) - 4596) (by omega) (by omega)) (fun r61 h60 q59 => ?_) (fun E h1 q => q.elim)
  have q59s := q59
  have ok62 := ok.go ok.2.1 q59s
  have sp63 := tw_sp.rf ok62.1
  refine tw_pop2l dL_law__1387 ?_
  refine tw_goto 1391 dL_law__1388 (by decide) ?_
  refine tw_lv [0, 1, 2, 3, 4] rfl ?_
  refine tw_less (c2 := c) (n2 := n) (by omega) (by omega) ?_
  exact J _ _ _ ok62

set_option maxHeartbeats 4000000 in
set_option maxRecDepth 100000 in
theorem law_loop (d : tw_D) (x m o : Nat) (hL : d.2 97 ≤ 2560) : ∀ (r j : Nat) (g : tw_G) (τ : tw_K) (h : tw_H), tw_ok5 d x m o g τ h → 512 ≤ j + r → j ≤ 512 → tw_W d mL_law_ (tw_qi (fun r _ => r = 1) tw_nx) 27 (tw_lv5 d x m o j) [] h (900 * r) (5000 * r) := by
  intro r
  induction r with
  | zero =>
    intro j g τ h ok h1 h2
    show tw_W d mL_law_ _ 27 [(0, .ref (d.2 98)), (1, .ref x), (2, .ref m), (3, .ref o), (4, .int (nI (5 * j)))] [] h (900 * 0) (5000 * 0)
    have sp1 := tw_sp.rf ok.1
    refine tw_iload 4 dL_law__27 rfl ?_
    refine tw_aload_n 0 dL_law__29 rfl rfl ?_
    refine tw_tlen (N := d.2 97) (fun _ _ z => z.xs.2.2.2.2.2) dL_law__30 ?_
    refine tw_iconst (v := 5) dL_law__31 (by decide) ?_
    refine tw_isub dL_law__32 ?_
    refine tw_nmi (fun v2 ev2 => ?_)
    refine tw_icmp_gt 1397 dL_law__33 (by decide) (fun _ => ?_) (fun c3 => absurd (by rw [ev2]; exact (tw_l5 hL h2).mpr (by omega)) c3)
    refine tw_iconst (v := 1) dL_law__1397 (by decide) ?_
    exact tw_zret dL_law__1398 rfl rfl (Or.inl ⟨_, rfl, rfl⟩)
  | succ r ih =>
    intro j g τ h ok h1 h2
    show tw_W d mL_law_ _ 27 [(0, .ref (d.2 98)), (1, .ref x), (2, .ref m), (3, .ref o), (4, .int (nI (5 * j)))] [] h (900 * (r + 1)) (5000 * (r + 1))
    have sp1 := tw_sp.rf ok.1
    refine tw_iload 4 dL_law__27 rfl ?_
    refine tw_aload_n 0 dL_law__29 rfl rfl ?_
    refine tw_tlen (N := d.2 97) (fun _ _ z => z.xs.2.2.2.2.2) dL_law__30 ?_
    refine tw_iconst (v := 5) dL_law__31 (by decide) ?_
    refine tw_isub dL_law__32 ?_
    refine tw_nmi (fun v2 ev2 => ?_)
    refine tw_icmp_gt 1397 dL_law__33 (by decide) (fun c3 => ?_) (fun c3 => ?_)
    · refine tw_iconst (v := 1) dL_law__1397 (by decide) ?_
      exact tw_zret dL_law__1398 rfl rfl (Or.inl ⟨_, rfl, rfl⟩)
    · have hj : 5 * j + 5 ≤ d.2 97 := by rcases Nat.lt_or_ge (d.2 97) (5 * j + 5) with z | z; exact absurd ((tw_l5 hL h2).mpr z) (by have z9 := c3; rw [ev2] at z9; exact z9); exact z
      have J : tw_J d x m o j (tw_qi (fun r _ => r = 1) tw_nx) (900 * r) (5000 * r) := by
        intro g τ h ok
        show tw_W d mL_law_ _ 1391 [(0, .ref (d.2 98)), (1, .ref x), (2, .ref m), (3, .ref o), (4, .int (nI (5 * j)))] [] h _ _
        obtain ⟨v4, ev4⟩ : ∃ y : Int32, y = (nI (5 * j)) + 5 := ⟨_, rfl⟩
        refine tw_iinc [(4, .int v4), (0, .ref (d.2 98)), (1, .ref x), (2, .ref m), (3, .ref o)] 4 dL_law__1391 rfl (by rw [ev4]; rfl) (by decide) rfl ?_
        refine tw_goto 27 dL_law__1394 (by decide) ?_
        have q5 : v4 = nI (5 * (j + 1)) := by rw [ev4]; exact tw_s5 j
        rw [q5]
        refine tw_lv [1, 2, 3, 4, 0] rfl ?_
        exact ih (j + 1) g τ h ok (by omega) (by omega)
      refine tw_aload_n 0 dL_law__36 rfl rfl ?_
      refine tw_iload 4 dL_law__37 rfl ?_
      obtain ⟨y6, ey6⟩ : ∃ y : Int32, Int32.ofNat (d.2 (1000 + (nI (5 * j)).toNatClampNeg)) = y := ⟨_, rfl⟩
      refine tw_ti (v := .int y6) (fun _ _ z => z.xs.2.2.2.2.2) dL_law__39 (vp_in_nI (by omega) (by omega)) (congrArg Value.int ey6) ?_
      refine tw_bipush (v := 31) dL_law__40 (by decide) ?_
      refine tw_iand dL_law__42 ?_
      refine tw_nmi (fun v7 ev7 => ?_)
      by_cases cs0 : (v7).toInt < 0 ∨ 26 < (v7).toInt
      · refine tw_tabOut 1391 dL_law__43 cs0 (by decide) ?_
        refine tw_less (c2 := 900 * r) (n2 := 5000 * r) (by omega) (by omega) ?_
        exact J _ _ _ ok
      · have csl : ¬ (v7).toInt < 0 := fun q => cs0 (Or.inl q)
        have csh : ¬ 26 < (v7).toInt := fun q => cs0 (Or.inr q)
        rcases (show (v7).toInt = 0 ∨ (v7).toInt = 1 ∨ (v7).toInt = 2 ∨ (v7).toInt = 3 ∨ (v7).toInt = 4 ∨ (v7).toInt = 5 ∨ (v7).toInt = 6 ∨ (v7).toInt = 7 ∨ (v7).toInt = 8 ∨ (v7).toInt = 9 ∨ (v7).toInt = 10 ∨ (v7).toInt = 11 ∨ (v7).toInt = 12 ∨ (v7).toInt = 13 ∨ (v7).toInt = 14 ∨ (v7).toInt = 15 ∨ (v7).toInt = 16 ∨ (v7).toInt = 17 ∨ (v7).toInt = 18 ∨ (v7).toInt = 19 ∨ (v7).toInt = 20 ∨ (v7).toInt = 21 ∨ (v7).toInt = 22 ∨ (v7).toInt = 23 ∨ (v7).toInt = 24 ∨ (v7).toInt = 25 ∨ (v7).toInt = 26 by omega) with cs1 | cs1 | cs1 | cs1 | cs1 | cs1 | cs1 | cs1 | cs1 | cs1 | cs1 | cs1 | cs1 | cs1 | cs1 | cs1 | cs1 | cs1 | cs1 | cs1 | cs1 | cs1 | cs1 | cs1 | cs1 | cs1 | cs1
        · refine tw_tabIn (off := 121) 164 dL_law__43 csl csh (by rw [cs1]; rfl) (by decide) ?_
          rw [show 900 * (r + 1) = 900 * r + 900 by omega, show 5000 * (r + 1) = 5000 * r + 5000 by omega]
          exact law_case_0 d x m o j _ _ _ hL hj J g τ h ok
        · refine tw_tabIn (off := 185) 228 dL_law__43 csl csh (by rw [cs1]; rfl) (by decide) ?_
          rw [show 900 * (r + 1) = 900 * r + 900 by omega, show 5000 * (r + 1) = 5000 * r + 5000 by omega]
          exact law_case_1 d x m o j _ _ _ hL hj J g τ h ok
        · refine tw_tabIn (off := 237) 280 dL_law__43 csl csh (by rw [cs1]; rfl) (by decide) ?_
          rw [show 900 * (r + 1) = 900 * r + 900 by omega, show 5000 * (r + 1) = 5000 * r + 5000 by omega]
          exact law_case_2 d x m o j _ _ _ hL hj J g τ h ok
        · refine tw_tabIn (off := 305) 348 dL_law__43 csl csh (by rw [cs1]; rfl) (by decide) ?_
          rw [show 900 * (r + 1) = 900 * r + 900 by omega, show 5000 * (r + 1) = 5000 * r + 5000 by omega]
          exact law_case_3 d x m o j _ _ _ hL hj J g τ h ok
        · refine tw_tabIn (off := 333) 376 dL_law__43 csl csh (by rw [cs1]; rfl) (by decide) ?_
          rw [show 900 * (r + 1) = 900 * r + 900 by omega, show 5000 * (r + 1) = 5000 * r + 5000 by omega]
          exact law_case_4 d x m o j _ _ _ hL hj J g τ h ok
        · refine tw_tabIn (off := 397) 440 dL_law__43 csl csh (by rw [cs1]; rfl) (by decide) ?_
          rw [show 900 * (r + 1) = 900 * r + 900 by omega, show 5000 * (r + 1) = 5000 * r + 5000 by omega]
          exact law_case_5 d x m o j _ _ _ hL hj J g τ h ok
        · refine tw_tabIn (off := 449) 492 dL_law__43 csl csh (by rw [cs1]; rfl) (by decide) ?_
          rw [show 900 * (r + 1) = 900 * r + 900 by omega, show 5000 * (r + 1) = 5000 * r + 5000 by omega]
          exact law_case_6 d x m o j _ _ _ hL hj J g τ h ok
        · refine tw_tabIn (off := 501) 544 dL_law__43 csl csh (by rw [cs1]; rfl) (by decide) ?_
          rw [show 900 * (r + 1) = 900 * r + 900 by omega, show 5000 * (r + 1) = 5000 * r + 5000 by omega]
          exact law_case_7 d x m o j _ _ _ hL hj J g τ h ok
        · refine tw_tabIn (off := 553) 596 dL_law__43 csl csh (by rw [cs1]; rfl) (by decide) ?_
          rw [show 900 * (r + 1) = 900 * r + 900 by omega, show 5000 * (r + 1) = 5000 * r + 5000 by omega]
          exact law_case_8 d x m o j _ _ _ hL hj J g τ h ok
        · refine tw_tabIn (off := 605) 648 dL_law__43 csl csh (by rw [cs1]; rfl) (by decide) ?_
          rw [show 900 * (r + 1) = 900 * r + 900 by omega, show 5000 * (r + 1) = 5000 * r + 5000 by omega]
          exact law_case_9 d x m o j _ _ _ hL hj J g τ h ok
        · refine tw_tabIn (off := 645) 688 dL_law__43 csl csh (by rw [cs1]; rfl) (by decide) ?_
          rw [show 900 * (r + 1) = 900 * r + 900 by omega, show 5000 * (r + 1) = 5000 * r + 5000 by omega]
          exact law_case_10 d x m o j _ _ _ hL hj J g τ h ok
        · refine tw_tabIn (off := 673) 716 dL_law__43 csl csh (by rw [cs1]; rfl) (by decide) ?_
          rw [show 900 * (r + 1) = 900 * r + 900 by omega, show 5000 * (r + 1) = 5000 * r + 5000 by omega]
          exact law_case_11 d x m o j _ _ _ hL hj J g τ h ok
        · refine tw_tabIn (off := 737) 780 dL_law__43 csl csh (by rw [cs1]; rfl) (by decide) ?_
          rw [show 900 * (r + 1) = 900 * r + 900 by omega, show 5000 * (r + 1) = 5000 * r + 5000 by omega]
          exact law_case_12 d x m o j _ _ _ hL hj J g τ h ok
        · refine tw_tabIn (off := 777) 820 dL_law__43 csl csh (by rw [cs1]; rfl) (by decide) ?_
          rw [show 900 * (r + 1) = 900 * r + 900 by omega, show 5000 * (r + 1) = 5000 * r + 5000 by omega]
          exact law_case_13 d x m o j _ _ _ hL hj J g τ h ok
        · refine tw_tabIn (off := 829) 872 dL_law__43 csl csh (by rw [cs1]; rfl) (by decide) ?_
          rw [show 900 * (r + 1) = 900 * r + 900 by omega, show 5000 * (r + 1) = 5000 * r + 5000 by omega]
          exact law_case_14 d x m o j _ _ _ hL hj J g τ h ok
        · refine tw_tabIn (off := 869) 912 dL_law__43 csl csh (by rw [cs1]; rfl) (by decide) ?_
          rw [show 900 * (r + 1) = 900 * r + 900 by omega, show 5000 * (r + 1) = 5000 * r + 5000 by omega]
          exact law_case_15 d x m o j _ _ _ hL hj J g τ h ok
        · refine tw_tabIn (off := 938) 981 dL_law__43 csl csh (by rw [cs1]; rfl) (by decide) ?_
          rw [show 900 * (r + 1) = 900 * r + 900 by omega, show 5000 * (r + 1) = 5000 * r + 5000 by omega]
          exact law_case_16 d x m o j _ _ _ hL hj J g τ h ok
        · refine tw_tabIn (off := 978) 1021 dL_law__43 csl csh (by rw [cs1]; rfl) (by decide) ?_
          rw [show 900 * (r + 1) = 900 * r + 900 by omega, show 5000 * (r + 1) = 5000 * r + 5000 by omega]
          exact law_case_17 d x m o j _ _ _ hL hj J g τ h ok
        · refine tw_tabIn (off := 1018) 1061 dL_law__43 csl csh (by rw [cs1]; rfl) (by decide) ?_
          rw [show 900 * (r + 1) = 900 * r + 900 by omega, show 5000 * (r + 1) = 5000 * r + 5000 by omega]
          exact law_case_18 d x m o j _ _ _ hL hj J g τ h ok
        · refine tw_tabIn (off := 1058) 1101 dL_law__43 csl csh (by rw [cs1]; rfl) (by decide) ?_
          rw [show 900 * (r + 1) = 900 * r + 900 by omega, show 5000 * (r + 1) = 5000 * r + 5000 by omega]
          exact law_case_19 d x m o j _ _ _ hL hj J g τ h ok
        · refine tw_tabIn (off := 1098) 1141 dL_law__43 csl csh (by rw [cs1]; rfl) (by decide) ?_
          rw [show 900 * (r + 1) = 900 * r + 900 by omega, show 5000 * (r + 1) = 5000 * r + 5000 by omega]
          exact law_case_20 d x m o j _ _ _ hL hj J g τ h ok
        · refine tw_tabIn (off := 1126) 1169 dL_law__43 csl csh (by rw [cs1]; rfl) (by decide) ?_
          rw [show 900 * (r + 1) = 900 * r + 900 by omega, show 5000 * (r + 1) = 5000 * r + 5000 by omega]
          exact law_case_21 d x m o j _ _ _ hL hj J g τ h ok
        · refine tw_tabIn (off := 1190) 1233 dL_law__43 csl csh (by rw [cs1]; rfl) (by decide) ?_
          rw [show 900 * (r + 1) = 900 * r + 900 by omega, show 5000 * (r + 1) = 5000 * r + 5000 by omega]
          exact law_case_22 d x m o j _ _ _ hL hj J g τ h ok
        · refine tw_tabIn (off := 1242) 1285 dL_law__43 csl csh (by rw [cs1]; rfl) (by decide) ?_
          rw [show 900 * (r + 1) = 900 * r + 900 by omega, show 5000 * (r + 1) = 5000 * r + 5000 by omega]
          exact law_case_23 d x m o j _ _ _ hL hj J g τ h ok
        · refine tw_tabIn (off := 1270) 1313 dL_law__43 csl csh (by rw [cs1]; rfl) (by decide) ?_
          rw [show 900 * (r + 1) = 900 * r + 900 by omega, show 5000 * (r + 1) = 5000 * r + 5000 by omega]
          exact law_case_24 d x m o j _ _ _ hL hj J g τ h ok
        · refine tw_tabIn (off := 1322) 1365 dL_law__43 csl csh (by rw [cs1]; rfl) (by decide) ?_
          rw [show 900 * (r + 1) = 900 * r + 900 by omega, show 5000 * (r + 1) = 5000 * r + 5000 by omega]
          exact law_case_25 d x m o j _ _ _ hL hj J g τ h ok
        · refine tw_tabIn (off := 1335) 1378 dL_law__43 csl csh (by rw [cs1]; rfl) (by decide) ?_
          rw [show 900 * (r + 1) = 900 * r + 900 by omega, show 5000 * (r + 1) = 5000 * r + 5000 by omega]
          exact law_case_26 d x m o j _ _ _ hL hj J g τ h ok

/-- the class's kinds alone -/
def tw_cl (τ : tw_K) : tw_K := fun a => if τ a < 13 then τ a else 0
theorem tw_cl_k {τ : tw_K} {a k : Nat} (h : τ a = k) (hk : k < 13) : tw_cl τ a = k := by
  unfold tw_cl
  rw [h, if_pos hk]
theorem tw_cl_lt (τ : tw_K) (a : Nat) : tw_cl τ a < 13 := by
  unfold tw_cl
  split
  · assumption
  · decide
theorem tw_sh_cl {d : tw_D} {g : tw_G} {τ : tw_K} {x k : Nat} {e : va_E} (hk : k < 13) (h : tw_sh d g τ x k e) : tw_sh d g (tw_cl τ) x k e := by
  have L : ∀ {a k : Nat}, τ a = k → k < 13 → tw_cl τ a = k := fun q z => tw_cl_k q z
  rcases (show k = 0 ∨ k = 1 ∨ k = 2 ∨ k = 3 ∨ k = 4 ∨ k = 5 ∨ k = 6 ∨ k = 7 ∨ k = 8 ∨ k = 9 ∨ k = 10 ∨ k = 11 ∨ k = 12 by omega) with rfl | rfl | rfl | rfl | rfl | rfl | rfl | rfl | rfl | rfl | rfl | rfl | rfl
  · exact h.elim
  · exact h
  · obtain ⟨n, r, c, go, so, v, rd, rf, t, h1, h2, h3, h4, h5, h6⟩ := h
    exact ⟨n, r, c, go, so, v, rd, rf, t, h1, L h2 (by decide), L h3 (by decide), L h4 (by decide), L h5 (by decide), h6⟩
  · obtain ⟨n, ar, p, pl, go, h1, h2, h3, h4⟩ := h
    exact ⟨n, ar, p, pl, go, h1, L h2 (by decide), fun q hq => L (h3 q hq) (by decide), fun q hq => L (h4 q hq) (by decide)⟩
  · obtain ⟨v, dy, pd, a, b, h1, h2, h3, h4⟩ := h
    exact ⟨v, dy, pd, a, b, h1, L h2 (by decide), L h3 (by decide), h4⟩
  · obtain ⟨m, h1, h2, h3⟩ := h
    exact ⟨m, h1, L h2 (by decide), h3⟩
  · exact h
  · exact h
  · obtain ⟨f, h1, h2, h3⟩ := h
    exact ⟨f, h1, fun j q hq => L (h2 j q hq) (by decide), h3⟩
  · obtain ⟨f, h1, h2, h3⟩ := h
    exact ⟨f, h1, fun j q hq => L (h2 j q hq) (by decide), h3⟩
  · obtain ⟨f, h1, h2, h3⟩ := h
    exact ⟨f, h1, fun j q hq => L (h2 j q hq) (by decide), h3⟩
  · obtain ⟨td, ca, ha, da, c1, c2, c3, c4, h1, k1, k2, k3, k4, k5, k6, k7, k8⟩ := h
    exact ⟨td, ca, ha, da, c1, c2, c3, c4, h1, L k1 (by decide), L k2 (by decide), L k3 (by decide), L k4 (by decide), L k5 (by decide), L k6 (by decide), L k7 (by decide), k8⟩
  · exact h
theorem tw_wt.cl {d : tw_D} {g : tw_G} {τ : tw_K} {h : tw_H} (hw : tw_wt d g τ h) : tw_wt d g (tw_cl τ) h := by
  intro a k hk h0
  have h13 : k < 13 := by rw [← hk]; exact tw_cl_lt τ a
  have e : τ a = k := by
    unfold tw_cl at hk
    split at hk
    · exact hk
    · exact absurd hk.symm h0
  obtain ⟨x, a1, a2⟩ := hw a k e h0
  exact ⟨x, a1, tw_sh_cl h13 a2⟩
theorem tw_cl_no (τ : tw_K) : tw_no (tw_cl τ) := fun a => Or.inl (Nat.lt_trans (tw_cl_lt τ a) (by decide))
theorem tw_cl_0 {τ : tw_K} {a : Nat} (h : τ a = 0) : tw_cl τ a = 0 := tw_cl_k h (by decide)
set_option maxHeartbeats 4000000 in
set_option maxRecDepth 100000 in
theorem law_start (d : tw_D) (hL : d.2 97 ≤ 2560) : tw_W d mL_law_ (tw_qi (fun r _ => r = 1) tw_nx) 0 [(0, .ref (d.2 98))] [] (fun _ => none) 460900 2560200 := by
  refine tw_new (ci := 9) rfl in_9 tyX5 tyX5_ok dL_law__0 w_111 w_112 w_77 (fs := [.int 0, .int 0, .null, .int 0, .null, .int 0, .null, .int 0, .null, .null, .null, .null]) (fun j hj => by rcases (show j = 0 ∨ j = 1 ∨ j = 2 ∨ j = 3 ∨ j = 4 ∨ j = 5 ∨ j = 6 ∨ j = 7 ∨ j = 8 ∨ j = 9 ∨ j = 10 ∨ j = 11 by omega) with rfl | rfl | rfl | rfl | rfl | rfl | rfl | rfl | rfl | rfl | rfl | rfl <;> rfl) 460899 2560188 (Nat.le_of_ble_eq_true rfl) (Nat.le_of_ble_eq_true rfl) (fun x hx hA_x => ?_)
  obtain ⟨h1, eh1⟩ : ∃ z : tw_H, z = tw_up (fun _ => none) x (.inr (9, [.int 0, .int 0, .null, .int 0, .null, .int 0, .null, .int 0, .null, .null, .null, .null])) := ⟨_, rfl⟩
  rw [← eh1]
  have f1 : h1 x = some (.inr (9, [.int 0, .int 0, .null, .int 0, .null, .int 0, .null, .int 0, .null, .null, .null, .null])) := by rw [eh1]; exact tw_up_s
  have hw : tw_wt d ((fun _ => 0, fun _ => 0) : tw_G) (fun _ => 0) h1 := fun a k hk h0 => absurd hk.symm h0
  refine tw_dup dL_law__3 rfl ?_
  refine tw_bv (tw_callI (M := mL_law_) (pc := 4) okX5_init dL_law__4 w_113 rfl [] [.ref x] rfl rfl ⟨by decide, by decide⟩ (Nat.le_of_ble_eq_true rfl) (c2_X5_init d ((fun _ => 0, fun _ => 0) : tw_G) (fun _ => 0) h1 hw (fun _ => rfl) x rfl f1) 460888 2560136 (Nat.le_of_ble_eq_true rfl) (Nat.le_of_ble_eq_true rfl)) (fun h2 q1 => ?_) (fun E h1 q => q.elim)
  obtain ⟨g, τ1, ⟨eg0, eg2, eg24, eg9⟩, i1⟩ := q1
  refine tw_astore_n [(1, .ref x), (0, .ref (d.2 98))] dL_law__7 rfl (by decide) rfl ?_
  refine tw_new (ci := 14) rfl in_14 tyX10 tyX10_ok dL_law__8 w_1113 w_1114 w_79 (fs := [.int 0, .int 0, .int 0, .null, .null, .null, .null, .null, .null, .null, .null, .null]) (fun j hj => by rcases (show j = 0 ∨ j = 1 ∨ j = 2 ∨ j = 3 ∨ j = 4 ∨ j = 5 ∨ j = 6 ∨ j = 7 ∨ j = 8 ∨ j = 9 ∨ j = 10 ∨ j = 11 by omega) with rfl | rfl | rfl | rfl | rfl | rfl | rfl | rfl | rfl | rfl | rfl | rfl <;> rfl) 460887 2560124 (Nat.le_of_ble_eq_true rfl) (Nat.le_of_ble_eq_true rfl) (fun m hm hA_m => ?_)
  obtain ⟨h3, eh3⟩ : ∃ z : tw_H, z = tw_up h2 m (.inr (14, [.int 0, .int 0, .int 0, .null, .null, .null, .null, .null, .null, .null, .null, .null])) := ⟨_, rfl⟩
  rw [← eh3]
  have f3 : h3 m = some (.inr (14, [.int 0, .int 0, .int 0, .null, .null, .null, .null, .null, .null, .null, .null, .null])) := by rw [eh3]; exact tw_up_s
  have z3 : tw_cl τ1 m = 0 := tw_cl_0 (i1.1.none hm)
  have hw3 : tw_wt d g (tw_cl τ1) h3 := by rw [eh3]; exact i1.1.cl.loc z3
  refine tw_dup dL_law__11 rfl ?_
  refine tw_bv (tw_callI (M := mL_law_) (pc := 12) okX10_init dL_law__12 w_1115 rfl [] [.ref m] rfl rfl ⟨by decide, by decide⟩ (Nat.le_of_ble_eq_true rfl) (c2_X10_init d g (tw_cl τ1) h3 hw3 (tw_cl_no τ1) m z3 f3 eg24 eg9) 460869 2560052 (Nat.le_of_ble_eq_true rfl) (Nat.le_of_ble_eq_true rfl)) (fun h4 q3 => ?_) (fun E h1 q => q.elim)
  obtain ⟨g1, τ2, ⟨a0, a1, a2, a6, a3, a21, a22, a24, a9, a99⟩, i3⟩ := q3
  have kx : τ2 x = 11 := i3.2.1.k (tw_cl_k i1.2.2.1 (by decide)) (by decide)
  have km : τ2 m = 36 := i3.2.2.1
  have hg : tw_I9 g1 := by have y0 : g1.2 0 = 0 := (a2 0 (by decide)).trans (eg2 0 (by decide)); have y1 : g1.2 1 = 0 := (a2 1 (by decide)).trans (eg2 1 (by decide)); have y2 : g1.2 2 = 0 := (a2 2 (by decide)).trans (eg2 2 (by decide)); have y3 : g1.2 3 = 0 := a3 3 (by decide) (by decide); have y4 : g1.2 4 = 0 := a3 4 (by decide) (by decide); have y5 : g1.2 5 = 0 := a3 5 (by decide) (by decide); have y6 : g1.2 6 = 0 := (a6 6 (by decide) (by decide)).trans (eg2 6 (by decide)); have y7 : g1.2 7 = 0 := (a6 7 (by decide) (by decide)).trans (eg2 7 (by decide)); have y8 : g1.2 8 = 0 := (a6 8 (by decide) (by decide)).trans (eg2 8 (by decide)); have y21 : g1.2 21 = 0 := a21.trans (eg2 21 (by decide)); have y22 : g1.2 22 = 0 := a22; have y24 := a24.trans eg24; exact ⟨by omega, by omega, by omega, by omega, by omega, by omega, by omega, by omega, by omega, ⟨fun j hj => ⟨fun z => absurd z (by omega), fun _ k hk => a99 j k hj hk⟩, ⟨fun j hj => absurd hj (by omega), fun a b ha hb => by rw [(a99 a b ha hb).2, (a99 b a hb ha).2]; exact ⟨⟨by decide, by decide⟩, rfl⟩⟩, fun j hj => absurd hj (by omega)⟩⟩
  refine tw_astore_n [(2, .ref m), (1, .ref x), (0, .ref (d.2 98))] dL_law__15 rfl (by decide) rfl ?_
  refine tw_new (ci := 10) rfl in_10 tyX6 tyX6_ok dL_law__16 w_374 w_375 w_83 (fs := [.long 0, .null]) (fun j hj => by rcases (show j = 0 ∨ j = 1 by omega) with rfl | rfl <;> rfl) 460868 2560050 (Nat.le_of_ble_eq_true rfl) (Nat.le_of_ble_eq_true rfl) (fun o ho hA_o => ?_)
  obtain ⟨h5, eh5⟩ : ∃ z : tw_H, z = tw_up h4 o (.inr (10, [.long 0, .null])) := ⟨_, rfl⟩
  rw [← eh5]
  have f5 : h5 o = some (.inr (10, [.long 0, .null])) := by rw [eh5]; exact tw_up_s
  have z5 : τ2 o = 0 := i3.1.none ho
  have sp5 : tw_sp d τ2 h4 g1 τ2 h5 := by rw [eh5]; exact (tw_sp.rf i3.1).mk ho
  refine tw_dup dL_law__19 rfl ?_
  refine tw_bv (tw_callIN (M := mL_law_) (pc := 20) okX6_init dL_law__20 w_376 rfl [] [.ref o] rfl rfl ⟨by decide, by decide⟩ (Nat.le_of_ble_eq_true rfl) (c_X6_init d h5 o) 460867 2560048 (Nat.le_of_ble_eq_true rfl) (Nat.le_of_ble_eq_true rfl)) (fun h6 q5 => ?_) (fun E h1 q => q.elim)
  rw [q5]
  refine tw_astore_n [(3, .ref o), (2, .ref m), (1, .ref x), (0, .ref (d.2 98))] dL_law__23 rfl (by decide) rfl ?_
  have t5 := sp5.ty (k := 12) ho z5 f5 ⟨0, none, rfl⟩
  have ok : tw_ok5 d x m o g1 (tw_ku τ2 o 12) h5 := ⟨t5.1, hg, (tw_ku_le z5).k kx (by decide), (tw_ku_le z5).k km (by decide), tw_ku_s⟩
  refine tw_iconst (v := 0) dL_law__24 (by decide) ?_
  refine tw_istore [(4, .int 0), (3, .ref o), (2, .ref m), (1, .ref x), (0, .ref (d.2 98))] dL_law__25 (by decide) rfl ?_
  refine tw_lv [4, 3, 2, 1, 0] rfl ?_
  refine tw_less (c2 := 900 * 512) (n2 := 5000 * 512) (Nat.le_of_ble_eq_true rfl) (Nat.le_of_ble_eq_true rfl) ?_
  exact law_loop d x m o hL 512 0 g1 _ h5 ok (by decide) (by decide)

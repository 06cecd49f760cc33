/-! the class's methods over the typed heap. Laid by wip/p5/mkclass.py. -/
/-! amounts: what they are, what all of a metal is together (the reference's cells); class and reference the same -/
def tw_sum (f : Nat → Nat) : Nat → Nat
  | 0 => 0
  | n + 1 => tw_sum f n + f n
theorem tw_sum_c {f f' : Nat → Nat} : ∀ n, (∀ i, i < n → f' i = f i) → tw_sum f' n = tw_sum f n
  | 0, _ => rfl
  | n + 1, h => by
    show tw_sum f' n + f' n = tw_sum f n + f n
    rw [tw_sum_c n (fun i hi => h i (by omega)), h n (by omega)]
theorem tw_sum_1 {f f' : Nat → Nat} {p : Nat} : ∀ n, p < n → (∀ i, i < n → i ≠ p → f' i = f i) → tw_sum f' n + f p = tw_sum f n + f' p
  | 0, hp, _ => absurd hp (Nat.not_lt_zero _)
  | n + 1, hp, h => by
    show tw_sum f' n + f' n + f p = tw_sum f n + f n + f' p
    by_cases q : p = n
    · rw [tw_sum_c n (fun i hi => h i (by omega) (by omega)), q]
      omega
    · have e := tw_sum_1 n (by omega) (fun i hi => h i (by omega))
      have e2 := h n (by omega) (fun z => q z.symm)
      omega
theorem tw_sum_2 {f f' : Nat → Nat} {p q n : Nat} (hp : p < n) (hq : q < n) (hpq : p ≠ q) (h : ∀ i, i < n → i ≠ p → i ≠ q → f' i = f i) : tw_sum f' n + f p + f q = tw_sum f n + f' p + f' q := by
  obtain ⟨m, em⟩ : ∃ m : Nat → Nat, m = fun i => if i = p then f' p else f i := ⟨_, rfl⟩
  have mp : m p = f' p := by rw [em]; exact if_pos rfl
  have mn : ∀ i, i ≠ p → m i = f i := fun i hi => by rw [em]; exact if_neg hi
  have e1 := tw_sum_1 (f := f) (f' := m) (p := p) n hp (fun i _ hi => mn i hi)
  have e2 := tw_sum_1 (f := m) (f' := f') (p := q) n hq (fun i hi hq' => by
    by_cases z : i = p
    · rw [z, mp]
    · rw [mn i z]
      exact h i hi z hq')
  have e3 := mn q (fun z => hpq z.symm)
  omega
theorem tw_sum_le {f : Nat → Nat} {p : Nat} : ∀ n, p < n → f p ≤ tw_sum f n
  | 0, hp => absurd hp (Nat.not_lt_zero _)
  | n + 1, hp => by
    show f p ≤ tw_sum f n + f n
    by_cases q : p = n
    · rw [q]
      omega
    · have e := tw_sum_le (f := f) (p := p) n (by omega)
      omega
/-- the amounts' cells of the reference: vaults, purses, carried, used, worn, came -/
def tw_ac (i k : Nat) : Nat := if i < 4 then 496 + 64 * i + k else if i < 10 then 840 + 32 * i + k else 1264 + 8 * i + k
theorem tw_ac_v {i k : Nat} (h : i < 4) : tw_ac i k = 496 + 64 * i + k := if_pos h
theorem tw_ac_h {i k : Nat} (h : 4 ≤ i) (h2 : i < 10) : tw_ac i k = 840 + 32 * i + k := by
  unfold tw_ac
  rw [if_neg (by omega), if_pos h2]
theorem tw_ac_s {i k : Nat} (h : 10 ≤ i) : tw_ac i k = 1264 + 8 * i + k := by
  unfold tw_ac
  rw [if_neg (by omega), if_neg (by omega)]
theorem tw_ac_c (i k : Nat) : (i < 4 ∧ tw_ac i k = 496 + 64 * i + k) ∨ (4 ≤ i ∧ i < 10 ∧ tw_ac i k = 840 + 32 * i + k) ∨ 10 ≤ i ∧ tw_ac i k = 1264 + 8 * i + k := by
  rcases Nat.lt_or_ge i 4 with a | a
  · exact Or.inl ⟨a, tw_ac_v a⟩
  · rcases Nat.lt_or_ge i 10 with b | b
    · exact Or.inr (Or.inl ⟨a, b, tw_ac_h a b⟩)
    · exact Or.inr (Or.inr ⟨b, tw_ac_s b⟩)
theorem tw_ac_i {i j k l : Nat} (hi : i < 14) (hj : j < 14) (hk : k < 2) (hl : l < 2) (e : tw_ac i k = tw_ac j l) : i = j ∧ k = l := by
  have a := tw_ac_c i k
  have b := tw_ac_c j l
  omega
theorem tw_DN_nI {n : Nat} (h : n < 2 ^ 31) : tw_DN (nI n) = n := nI_clamp h
theorem tw_I_ng {a b : Nat} (ha : a < 2 ^ 31) (h : b ≤ a) : nI a + -nI b = nI (a - b) := by
  rw [← Int32.sub_eq_add_neg]
  exact tw_I_sub ha h
def tw_am (g : tw_G) (i k : Nat) : Nat := tw_DN (g.1 (tw_ac i k))
/-- every amount is a number, and all of a metal together is what came, at most B -/
def tw_AM (B : Nat) (g : tw_G) : Prop := (∀ i k, i < 14 → k < 2 → g.1 (tw_ac i k) = nI (tw_am g i k)) ∧ ∀ k, k < 2 → tw_sum (fun i => tw_am g i k) 13 = tw_am g 13 k ∧ tw_am g 13 k ≤ B
theorem tw_AM.of {B : Nat} {g : tw_G} {f : Nat → Nat → Nat} (hB : B ≤ 60000000) (hv : ∀ i k, i < 14 → k < 2 → g.1 (tw_ac i k) = nI (f i k)) (hs : ∀ k, k < 2 → tw_sum (fun i => f i k) 13 = f 13 k ∧ f 13 k ≤ B) : tw_AM B g := by
  have b : ∀ i k, i < 14 → k < 2 → f i k ≤ B := fun i k hi hk => by
    obtain ⟨h1, h2⟩ := hs k hk
    by_cases q : i = 13
    · rw [q]
      exact h2
    · have z : f i k ≤ tw_sum (fun i => f i k) 13 := tw_sum_le (f := fun i => f i k) (p := i) 13 (by omega)
      omega
  have e : ∀ i k, i < 14 → k < 2 → tw_am g i k = f i k := fun i k hi hk => by
    have z := b i k hi hk
    unfold tw_am
    rw [hv i k hi hk]
    exact nI_clamp (by omega)
  refine ⟨fun i k hi hk => ?_, fun k hk => ?_⟩
  · rw [e i k hi hk]
    exact hv i k hi hk
  · rw [e 13 k (by decide) hk, tw_sum_c (f := fun i => f i k) (f' := fun i => tw_am g i k) 13 (fun i hi => e i k (by omega) hk)]
    exact hs k hk
theorem tw_AM.le {B : Nat} {g : tw_G} (h : tw_AM B g) {i k : Nat} (hi : i < 14) (hk : k < 2) : tw_am g i k ≤ B := by
  obtain ⟨h1, h2⟩ := h.2 k hk
  by_cases q : i = 13
  · rw [q]
    exact h2
  · have z : tw_am g i k ≤ tw_sum (fun i => tw_am g i k) 13 := tw_sum_le (f := fun i => tw_am g i k) (p := i) 13 (by omega)
    omega
theorem tw_AM.mono {B C : Nat} {g : tw_G} (h : tw_AM B g) (e : B ≤ C) : tw_AM C g := ⟨h.1, fun k hk => ⟨(h.2 k hk).1, Nat.le_trans (h.2 k hk).2 e⟩⟩
theorem tw_AM.cg {B : Nat} {g g1 : tw_G} (h : tw_AM B g) (e : ∀ i k, i < 14 → k < 2 → g1.1 (tw_ac i k) = g.1 (tw_ac i k)) : tw_AM B g1 := by
  have a : ∀ i k, i < 14 → k < 2 → tw_am g1 i k = tw_am g i k := fun i k hi hk => by
    unfold tw_am
    rw [e i k hi hk]
  refine ⟨fun i k hi hk => ?_, fun k hk => ?_⟩
  · rw [e i k hi hk, a i k hi hk]
    exact h.1 i k hi hk
  · rw [a 13 k (by decide) hk, tw_sum_c (f := fun i => tw_am g i k) (f' := fun i => tw_am g1 i k) 13 (fun i hi => a i k (by omega) hk)]
    exact h.2 k hk
theorem tw_fun2 (f0 : Nat → Nat → Nat) {i j : Nat} (hij : i ≠ j) (k u v : Nat) : ∃ f : Nat → Nat → Nat, f i k = u ∧ f j k = v ∧ ∀ a l, (a ≠ i ∧ a ≠ j ∨ l ≠ k) → f a l = f0 a l := by
  refine ⟨fun a l => if l = k ∧ a = i then u else if l = k ∧ a = j then v else f0 a l, ?_, ?_, fun a l h => ?_⟩
  · exact if_pos ⟨rfl, rfl⟩
  · exact (if_neg (fun z => hij z.2.symm)).trans (if_pos ⟨rfl, rfl⟩)
  · exact (if_neg (fun z => by omega)).trans (if_neg (fun z => by omega))
/-- grams go from one amount to another one -/
theorem tw_AM.tr {B : Nat} {g : tw_G} {i j k n : Nat} (h : tw_AM B g) (hB : B ≤ 60000000) (hi : i < 13) (hj : j < 13) (hij : i ≠ j) (hk : k < 2) (hn : n ≤ tw_am g i k) : tw_AM B (tw_ad (tw_ad g (tw_ac i k) (-nI n)) (tw_ac j k) (nI n)) := by
  have li := h.le (i := i) (by omega) hk
  have lj := h.le (i := j) (by omega) hk
  have nij : tw_ac i k ≠ tw_ac j k := fun z => hij (tw_ac_i (by omega) (by omega) hk hk z).1
  obtain ⟨f, f1, f2, f3⟩ := tw_fun2 (tw_am g) hij k (tw_am g i k - n) (tw_am g j k + n)
  refine tw_AM.of (f := f) hB (fun a l ha hl => ?_) (fun l hl => ?_)
  · by_cases ql : l = k
    · rw [ql]
      by_cases qi : a = i
      · rw [qi, f1, tw_ad_ne nij, tw_ad_eq, h.1 i k (by omega) hk]
        exact tw_I_ng (by omega) hn
      · by_cases qj : a = j
        · rw [qj, f2, tw_ad_eq, tw_ad_ne (Ne.symm nij), h.1 j k (by omega) hk]
          exact tw_niadd
        · rw [f3 a k (Or.inl ⟨qi, qj⟩), tw_ad_ne (fun z => qj (tw_ac_i ha (by omega) hk hk z).1), tw_ad_ne (fun z => qi (tw_ac_i ha (by omega) hk hk z).1)]
          exact h.1 a k ha hk
    · rw [f3 a l (Or.inr ql), tw_ad_ne (fun z => ql (tw_ac_i ha (by omega) hl hk z).2), tw_ad_ne (fun z => ql (tw_ac_i ha (by omega) hl hk z).2)]
      exact h.1 a l ha hl
  · obtain ⟨s1, s2⟩ := h.2 l hl
    rw [f3 13 l (Or.inl ⟨by omega, by omega⟩)]
    refine ⟨?_, s2⟩
    by_cases ql : l = k
    · have e : tw_sum (fun a => f a l) 13 + tw_am g i l + tw_am g j l = tw_sum (fun a => tw_am g a l) 13 + f i l + f j l := tw_sum_2 (f := fun a => tw_am g a l) (f' := fun a => f a l) hi hj hij (fun a _ h1 h2 => f3 a l (Or.inl ⟨h1, h2⟩))
      have e1 : f i l = tw_am g i l - n := by rw [ql]; exact f1
      have e2 : f j l = tw_am g j l + n := by rw [ql]; exact f2
      have e3 : n ≤ tw_am g i l := by rw [ql]; exact hn
      omega
    · rw [← s1]
      exact tw_sum_c (f := fun i => tw_am g i l) (f' := fun i => f i l) 13 (fun a _ => f3 a l (Or.inr ql))
/-- grams come -/
theorem tw_AM.upC {C : Nat} {g : tw_G} {i k n : Nat} (h : tw_AM C g) (hb : tw_am g 13 k + n ≤ C) (hB : C ≤ 60000000) (hi : i < 13) (hk : k < 2) : tw_AM C (tw_ad (tw_ad g (tw_ac i k) (nI n)) (tw_ac 13 k) (nI n)) := by
  have nij : tw_ac i k ≠ tw_ac 13 k := fun z => absurd (tw_ac_i (by omega) (by omega) hk hk z).1 (by omega)
  obtain ⟨f, f1, f2, f3⟩ := tw_fun2 (tw_am g) (i := i) (j := 13) (by omega) k (tw_am g i k + n) (tw_am g 13 k + n)
  refine tw_AM.of (f := f) hB (fun a l ha hl => ?_) (fun l hl => ?_)
  · by_cases ql : l = k
    · rw [ql]
      by_cases qi : a = i
      · rw [qi, f1, tw_ad_ne nij, tw_ad_eq, h.1 i k (by omega) hk]
        exact tw_niadd
      · by_cases qj : a = 13
        · rw [qj, f2, tw_ad_eq, tw_ad_ne (Ne.symm nij), h.1 13 k (by omega) hk]
          exact tw_niadd
        · rw [f3 a k (Or.inl ⟨qi, qj⟩), tw_ad_ne (fun z => qj (tw_ac_i ha (by omega) hk hk z).1), tw_ad_ne (fun z => qi (tw_ac_i ha (by omega) hk hk z).1)]
          exact h.1 a k ha hk
    · rw [f3 a l (Or.inr ql), tw_ad_ne (fun z => ql (tw_ac_i ha (by omega) hl hk z).2), tw_ad_ne (fun z => ql (tw_ac_i ha (by omega) hl hk z).2)]
      exact h.1 a l ha hl
  · obtain ⟨s1, s2⟩ := h.2 l hl
    by_cases ql : l = k
    · have e : tw_sum (fun a => f a l) 13 + tw_am g i l = tw_sum (fun a => tw_am g a l) 13 + f i l := tw_sum_1 (f := fun a => tw_am g a l) (f' := fun a => f a l) 13 hi (fun a h0 h1 => f3 a l (Or.inl ⟨h1, by omega⟩))
      have e1 : f i l = tw_am g i l + n := by rw [ql]; exact f1
      have e2 : f 13 l = tw_am g 13 l + n := by rw [ql]; exact f2
      have e3 : tw_am g 13 l + n ≤ C := by rw [ql]; exact hb
      constructor <;> omega
    · rw [f3 13 l (Or.inr ql)]
      exact ⟨(tw_sum_c (f := fun i => tw_am g i l) (f' := fun i => f i l) 13 (fun a _ => f3 a l (Or.inr ql))).trans s1, by omega⟩
theorem tw_AM.up {B : Nat} {g : tw_G} {i k n : Nat} (h : tw_AM B g) (hB : B + n ≤ 60000000) (hi : i < 13) (hk : k < 2) : tw_AM (B + n) (tw_ad (tw_ad g (tw_ac i k) (nI n)) (tw_ac 13 k) (nI n)) := (h.mono (C := B + n) (by omega)).upC (by have z := (h.2 k hk).2; omega) hB hi hk
/-- cells of the class and of the reference that hold the same -/
def tw_pr (a b : Nat) : Prop := (480 ≤ b ∧ b < 736 ∧ (b % 64 = 48 ∨ b % 64 = 49) ∧ a + 312 = b) ∨ (960 ≤ b ∧ b < 1152 ∧ a + 192 = b) ∨ (1232 ≤ b ∧ b < 1312 ∧ a + 80 = b) ∨ (1344 ≤ b ∧ b < 1376 ∧ a + 32 = b)
def tw_cc (a : Nat) : Prop := 160 ≤ a ∧ a < 416 ∧ (a % 64 = 56 ∨ a % 64 = 57) ∨ 768 ≤ a ∧ a < 960 ∨ 1152 ≤ a ∧ a < 1232 ∨ 1312 ≤ a ∧ a < 1344
def tw_mc (b : Nat) : Prop := 480 ≤ b ∧ b < 736 ∧ (b % 64 = 48 ∨ b % 64 = 49) ∨ 960 ≤ b ∧ b < 1152 ∨ 1232 ≤ b ∧ b < 1312 ∨ 1344 ≤ b ∧ b < 1376
/-- cells that only this stage follows -/
def tw_x5 (i : Nat) : Prop := 160 ≤ i ∧ i < 416 ∧ (i % 64 = 56 ∨ i % 64 = 57) ∨ 480 ≤ i ∧ i < 736 ∧ (i % 64 = 48 ∨ i % 64 = 49) ∨ 768 ≤ i
theorem tw_pr.c {a b : Nat} (p : tw_pr a b) : tw_cc a := by
  unfold tw_pr at p
  unfold tw_cc
  omega
theorem tw_pr.m {a b : Nat} (p : tw_pr a b) : tw_mc b := by
  unfold tw_pr at p
  unfold tw_mc
  omega
theorem tw_pr.i {a b c d : Nat} (p : tw_pr a b) (q : tw_pr c d) : a = c ↔ b = d := by
  unfold tw_pr at p q
  omega
theorem tw_pr.v {j k : Nat} (hj : j < 4) (hk : k < 2) : tw_pr (160 + 64 * j + 24 + k) (480 + 64 * j + 16 + k) := by
  unfold tw_pr
  omega
theorem tw_pr.h {j k : Nat} (hj : j < 6) (hk : k < 32) : tw_pr (768 + 32 * j + k) (960 + 32 * j + k) := by
  unfold tw_pr
  omega
theorem tw_pr.d {j k : Nat} (hj : j < 10) (hk : k < 8) : tw_pr (1152 + 8 * j + k) (1232 + 8 * j + k) := by
  unfold tw_pr
  omega
theorem tw_pr.s {k : Nat} (hk : k < 32) : tw_pr (1312 + k) (1344 + k) := by
  unfold tw_pr
  omega
/-- the class's cells of g are the reference's of g' -/
def tw_E2 (g g' : tw_G) : Prop := ∀ a b, tw_pr a b → g.1 a = g'.1 b
theorem tw_E2.g1 {g g' : tw_G} {a b : Nat} {v w : Int32} (e : tw_E2 g g') (p : tw_pr a b) (h : v = w) : tw_E2 (tw_g1 g a v) (tw_g1 g' b w) := by
  intro x y q
  by_cases z : x = a
  · rw [z, (p.i q).mp z.symm, tw_g1_eq, tw_g1_eq]
    exact h
  · rw [tw_g1_ne z, tw_g1_ne (fun t => z ((q.i p).mpr t))]
    exact e x y q
theorem tw_E2.ad {g g' : tw_G} {a b : Nat} {v w : Int32} (e : tw_E2 g g') (p : tw_pr a b) (h : v = w) : tw_E2 (tw_ad g a v) (tw_ad g' b w) := e.g1 p (by rw [e a b p, h])
theorem tw_E2.cg {g g' h h' : tw_G} (e : tw_E2 g g') (c : ∀ a, tw_cc a → h.1 a = g.1 a) (m : ∀ b, tw_mc b → h'.1 b = g'.1 b) : tw_E2 h h' := fun a b p => by
  rw [c a p.c, m b p.m]
  exact e a b p
theorem tw_cc.n {a : Nat} (h : tw_cc a) : a < 416 ∨ 768 ≤ a ∧ a < 960 ∨ 1152 ≤ a ∧ a < 1232 ∨ 1312 ≤ a ∧ a < 1344 := by
  unfold tw_cc at h
  omega
theorem tw_mc.n {a : Nat} (h : tw_mc a) : 480 ≤ a ∧ a < 736 ∨ 960 ≤ a ∧ a < 1152 ∨ 1232 ≤ a ∧ a < 1312 ∨ 1344 ≤ a ∧ a < 1376 := by
  unfold tw_mc at h
  omega
/-! the days -/
def tw_fd (f : tw_G → Nat → tw_G) (g : tw_G) : Nat → tw_G
  | 0 => g
  | n + 1 => f (tw_fd f g n) n
theorem tw_fd_2 {f : tw_G → Nat → tw_G} {g : tw_G} (h : ∀ g j, (f g j).2 = g.2) : ∀ n, (tw_fd f g n).2 = g.2
  | 0 => rfl
  | n + 1 => (h _ _).trans (tw_fd_2 h n)
theorem tw_fd_1 {f : tw_G → Nat → tw_G} {g : tw_G} {P : Nat → Prop} {N : Nat} (h : ∀ g j i, j < N → P i → (f g j).1 i = g.1 i) : ∀ n, n ≤ N → ∀ i, P i → (tw_fd f g n).1 i = g.1 i
  | 0, _, _, _ => rfl
  | n + 1, hn, i, p => (h _ n i (by omega) p).trans (tw_fd_1 h n (by omega) i p)
/-- a house arrives -/
def tw_arC (T : Nat) (g : tw_G) (j : Nat) : tw_G := if g.1 (768 + 32 * j + 2) ≠ -1 ∧ g.1 (768 + 32 * j + 0) ≤ nI T then tw_g1 (tw_g1 (tw_g1 g (768 + 32 * j + 1) (g.1 (768 + 32 * j + 2))) (768 + 32 * j + 2) (-1)) (768 + 32 * j + 0) (-1) else g
def tw_arM (T : Nat) (g : tw_G) (j : Nat) : tw_G := if g.1 (960 + 32 * j + 1) = -1 ∧ g.1 (960 + 32 * j + 0) = nI T then tw_g1 (tw_g1 (tw_g1 g (960 + 32 * j + 1) (g.1 (960 + 32 * j + 2))) (960 + 32 * j + 2) (-1)) (960 + 32 * j + 0) (-1) else g
/-- a vault wears -/
def tw_weC (g : tw_G) (j : Nat) : tw_G := tw_ad (tw_ad g (160 + 64 * j + 24 + 1) (-(g.1 (160 + 64 * j + 24 + 1) / 10000))) (1328 + 1) (g.1 (160 + 64 * j + 24 + 1) / 10000)
def tw_weM (g : tw_G) (j : Nat) : tw_G := tw_ad (tw_ad g (480 + 64 * j + 16 + 1) (-(g.1 (480 + 64 * j + 16 + 1) / 10000))) (1360 + 1) (g.1 (480 + 64 * j + 16 + 1) / 10000)
def tw_dyC (g : tw_G) : tw_G := if (g.2 21 + 1) % 30 = 0 then tw_fd tw_weC (tw_fd (tw_arC (g.2 21 + 1)) (tw_g2 g 21 (g.2 21 + 1)) (g.2 7)) (g.2 6) else tw_fd (tw_arC (g.2 21 + 1)) (tw_g2 g 21 (g.2 21 + 1)) (g.2 7)
def tw_dyM (g : tw_G) : tw_G := if (g.2 22 + 1) % 30 = 0 then tw_fd tw_weM (tw_fd (tw_arM (g.2 22 + 1)) (tw_g2 g 22 (g.2 22 + 1)) (g.2 4)) (g.2 3) else tw_fd (tw_arM (g.2 22 + 1)) (tw_g2 g 22 (g.2 22 + 1)) (g.2 4)
def tw_dsC (g : tw_G) : Nat → tw_G
  | 0 => g
  | n + 1 => tw_dyC (tw_dsC g n)
def tw_dsM (g : tw_G) : Nat → tw_G
  | 0 => g
  | n + 1 => tw_dyM (tw_dsM g n)
theorem tw_arC_2 {T : Nat} (g : tw_G) (j : Nat) : (tw_arC T g j).2 = g.2 := by
  unfold tw_arC
  split <;> rfl
theorem tw_arM_2 {T : Nat} (g : tw_G) (j : Nat) : (tw_arM T g j).2 = g.2 := by
  unfold tw_arM
  split <;> rfl
theorem tw_dyC_2 (g : tw_G) : (tw_dyC g).2 = (tw_g2 g 21 (g.2 21 + 1)).2 := by
  unfold tw_dyC
  split
  · rw [tw_fd_2 (f := tw_weC) (fun _ _ => rfl), tw_fd_2 tw_arC_2]
  · rw [tw_fd_2 tw_arC_2]
theorem tw_dyM_2 (g : tw_G) : (tw_dyM g).2 = (tw_g2 g 22 (g.2 22 + 1)).2 := by
  unfold tw_dyM
  split
  · rw [tw_fd_2 (f := tw_weM) (fun _ _ => rfl), tw_fd_2 tw_arM_2]
  · rw [tw_fd_2 tw_arM_2]
theorem tw_dsC_2 (g : tw_G) : ∀ n, (tw_dsC g n).2 = (tw_g2 g 21 (g.2 21 + n)).2
  | 0 => by
    show g.2 = fun j => if j = 21 then g.2 21 + 0 else g.2 j
    funext j
    by_cases q : j = 21
    · rw [if_pos q, q, Nat.add_zero]
    · rw [if_neg q]
  | n + 1 => by
    show (tw_dyC (tw_dsC g n)).2 = _
    rw [tw_dyC_2]
    show (fun j => if j = 21 then (tw_dsC g n).2 21 + 1 else (tw_dsC g n).2 j) = _
    rw [tw_dsC_2 g n]
    funext j
    show (if j = 21 then (if 21 = 21 then g.2 21 + n else g.2 21) + 1 else if j = 21 then g.2 21 + n else g.2 j) = if j = 21 then g.2 21 + (n + 1) else g.2 j
    by_cases q : j = 21
    · rw [if_pos q, if_pos q, if_pos rfl, Nat.add_assoc]
    · rw [if_neg q, if_neg q, if_neg q]
theorem tw_dsM_2 (g : tw_G) : ∀ n, (tw_dsM g n).2 = (tw_g2 g 22 (g.2 22 + n)).2
  | 0 => by
    show g.2 = fun j => if j = 22 then g.2 22 + 0 else g.2 j
    funext j
    by_cases q : j = 22
    · rw [if_pos q, q, Nat.add_zero]
    · rw [if_neg q]
  | n + 1 => by
    show (tw_dyM (tw_dsM g n)).2 = _
    rw [tw_dyM_2]
    show (fun j => if j = 22 then (tw_dsM g n).2 22 + 1 else (tw_dsM g n).2 j) = _
    rw [tw_dsM_2 g n]
    funext j
    show (if j = 22 then (if 22 = 22 then g.2 22 + n else g.2 22) + 1 else if j = 22 then g.2 22 + n else g.2 j) = if j = 22 then g.2 22 + (n + 1) else g.2 j
    by_cases q : j = 22
    · rw [if_pos q, if_pos q, if_pos rfl, Nat.add_assoc]
    · rw [if_neg q, if_neg q, if_neg q]
/-- a house of the reference is somewhere, or on the road until a later day -/
def tw_hs (g : tw_G) (T j : Nat) : Prop := ((∃ i, i < g.2 3 ∧ g.1 (960 + 32 * j + 1) = nI i) ∧ g.1 (960 + 32 * j + 2) = -1 ∧ g.1 (960 + 32 * j + 0) = -1) ∨ (g.1 (960 + 32 * j + 1) = -1 ∧ (∃ i, i < g.2 3 ∧ g.1 (960 + 32 * j + 2) = nI i) ∧ ∃ t, T < t ∧ t ≤ 4000 ∧ g.1 (960 + 32 * j + 0) = nI t)
theorem tw_hs.cg {g g1 : tw_G} {T j : Nat} (h : tw_hs g T j) (e : ∀ k, k < 3 → g1.1 (960 + 32 * j + k) = g.1 (960 + 32 * j + k)) (e3 : g.2 3 ≤ g1.2 3) : tw_hs g1 T j := by
  unfold tw_hs at h ⊢
  rw [e 0 (by decide), e 1 (by decide), e 2 (by decide)]
  rcases h with ⟨⟨i, hi, a⟩, b, c⟩ | ⟨a, ⟨i, hi, b⟩, c⟩
  · exact Or.inl ⟨⟨i, by omega, a⟩, b, c⟩
  · exact Or.inr ⟨a, ⟨i, by omega, b⟩, c⟩
theorem tw_arC_1 {T : Nat} (g : tw_G) (j i : Nat) (hj : j < 6) (h : i < 768 ∨ 960 ≤ i) : (tw_arC T g j).1 i = g.1 i := by
  unfold tw_arC
  split
  · rw [tw_g1_ne (by omega), tw_g1_ne (by omega), tw_g1_ne (by omega)]
  · rfl
theorem tw_arM_1 {T : Nat} (g : tw_G) (j i : Nat) (h : i < 960 + 32 * j ∨ 960 + 32 * j + 3 ≤ i) : (tw_arM T g j).1 i = g.1 i := by
  unfold tw_arM
  split
  · rw [tw_g1_ne (by omega), tw_g1_ne (by omega), tw_g1_ne (by omega)]
  · rfl
theorem tw_weC_1 (g : tw_G) (j i : Nat) (h : i ≠ 160 + 64 * j + 24 + 1 ∧ i ≠ 1329) : (tw_weC g j).1 i = g.1 i := by
  unfold tw_weC
  rw [tw_ad_ne (by omega), tw_ad_ne (by omega)]
theorem tw_weM_1 (g : tw_G) (j i : Nat) (h : i ≠ 480 + 64 * j + 16 + 1 ∧ i ≠ 1361) : (tw_weM g j).1 i = g.1 i := by
  unfold tw_weM
  rw [tw_ad_ne (by omega), tw_ad_ne (by omega)]
theorem tw_nm1 {i : Nat} (h : i < 2 ^ 31) : nI i ≠ -1 := fun z => by
  have z2 := congrArg Int32.toInt z
  rw [nI_toInt h, show (-1 : Int32).toInt = -1 by decide] at z2
  omega
theorem tw_ar_q {gc gm : tw_G} {T j : Nat} (e : tw_E2 gc gm) (h : tw_hs gm T j) (hj : j < 6) (hT : T < 3000) (h3 : gm.2 3 ≤ 4) : (gc.1 (768 + 32 * j + 2) ≠ -1 ∧ gc.1 (768 + 32 * j + 0) ≤ nI (T + 1)) ↔ (gm.1 (960 + 32 * j + 1) = -1 ∧ gm.1 (960 + 32 * j + 0) = nI (T + 1)) := by
  rw [e _ _ (tw_pr.h (k := 0) hj (by decide)), e _ _ (tw_pr.h (k := 2) hj (by decide))]
  rcases h with ⟨⟨i, hi, a⟩, b, c⟩ | ⟨a, ⟨i, hi, b⟩, t, ht, ht2, c⟩
  · rw [a, b]
    exact ⟨fun z => absurd rfl z.1, fun z => absurd z.1 (tw_nm1 (by omega))⟩
  · rw [a, b, c, tw_nIle (by omega) (by omega)]
    exact ⟨fun z => ⟨rfl, by rw [show t = T + 1 by omega]⟩, fun z => ⟨tw_nm1 (by omega), Nat.le_of_eq (tw_nIj z.2 (by omega) (by omega))⟩⟩
theorem tw_ar_E {gc gm : tw_G} {T j : Nat} (e : tw_E2 gc gm) (h : tw_hs gm T j) (hj : j < 6) (hT : T < 3000) (h3 : gm.2 3 ≤ 4) : tw_E2 (tw_arC (T + 1) gc j) (tw_arM (T + 1) gm j) := by
  have q := tw_ar_q e h hj hT h3
  have e2 := e _ _ (tw_pr.h (k := 2) hj (by decide))
  unfold tw_arC tw_arM
  by_cases z : gm.1 (960 + 32 * j + 1) = -1 ∧ gm.1 (960 + 32 * j + 0) = nI (T + 1)
  · rw [if_pos (q.mpr z), if_pos z]
    exact ((e.g1 (tw_pr.h hj (by decide)) e2).g1 (tw_pr.h hj (by decide)) rfl).g1 (tw_pr.h hj (by decide)) rfl
  · rw [if_neg (fun y => z (q.mp y)), if_neg z]
    exact e
theorem tw_ar_h {g : tw_G} {T j : Nat} (h : tw_hs g T j) (hT : T < 3000) (h3 : g.2 3 ≤ 4) : tw_hs (tw_arM (T + 1) g j) (T + 1) j := by
  unfold tw_arM
  rcases h with ⟨⟨i, hi, a⟩, b, c⟩ | ⟨a, ⟨i, hi, b⟩, t, ht, ht2, c⟩
  · rw [if_neg (fun z => tw_nm1 (i := i) (by omega) (a ▸ z.1))]
    exact Or.inl ⟨⟨i, hi, a⟩, b, c⟩
  · by_cases q : t = T + 1
    · rw [if_pos ⟨a, by rw [c, q]⟩]
      refine Or.inl ⟨⟨i, hi, ?_⟩, ?_, tw_g1_eq⟩
      · rw [tw_g1_ne (by omega), tw_g1_ne (by omega), tw_g1_eq]
        exact b
      · rw [tw_g1_ne (by omega), tw_g1_eq]
    · rw [if_neg (fun z => q (tw_nIj (c ▸ z.2) (by omega) (by omega)))]
      exact Or.inr ⟨a, ⟨i, hi, b⟩, t, by omega, ht2, c⟩
theorem tw_ar_F {gc gm : tw_G} {T N : Nat} (e : tw_E2 gc gm) (h : ∀ j, j < N → tw_hs gm T j) (hN : N ≤ 6) (hT : T < 3000) (h3 : gm.2 3 ≤ 4) : ∀ n, n ≤ N → tw_E2 (tw_fd (tw_arC (T + 1)) gc n) (tw_fd (tw_arM (T + 1)) gm n) ∧ (∀ j, j < N → n ≤ j → tw_hs (tw_fd (tw_arM (T + 1)) gm n) T j) ∧ ∀ j, j < n → tw_hs (tw_fd (tw_arM (T + 1)) gm n) (T + 1) j
  | 0, _ => ⟨e, fun j hj _ => h j hj, fun j hj => absurd hj (Nat.not_lt_zero _)⟩
  | n + 1, hn => by
    obtain ⟨a, b, c⟩ := tw_ar_F e h hN hT h3 n (by omega)
    have e2 : (tw_fd (tw_arM (T + 1)) gm n).2 = gm.2 := tw_fd_2 tw_arM_2 n
    have k3 : (tw_fd (tw_arM (T + 1)) gm n).2 3 ≤ 4 := by rw [e2]; exact h3
    show tw_E2 (tw_arC (T + 1) (tw_fd (tw_arC (T + 1)) gc n) n) (tw_arM (T + 1) (tw_fd (tw_arM (T + 1)) gm n) n) ∧ (∀ j, j < N → n + 1 ≤ j → tw_hs (tw_arM (T + 1) (tw_fd (tw_arM (T + 1)) gm n) n) T j) ∧ ∀ j, j < n + 1 → tw_hs (tw_arM (T + 1) (tw_fd (tw_arM (T + 1)) gm n) n) (T + 1) j
    have hb := b n (by omega) (Nat.le_refl _)
    refine ⟨tw_ar_E a hb (by omega) hT k3, fun j hj hn2 => ?_, fun j hj => ?_⟩
    · exact (b j hj (by omega)).cg (fun k hk => tw_arM_1 _ _ _ (by omega)) (by rw [tw_arM_2]; exact Nat.le_refl _)
    · by_cases q : j = n
      · rw [q]
        exact tw_ar_h hb hT k3
      · exact (c j (by omega)).cg (fun k hk => tw_arM_1 _ _ _ (by omega)) (by rw [tw_arM_2]; exact Nat.le_refl _)
theorem tw_ar_A {B T n : Nat} {g : tw_G} (h : tw_AM B g) (hn : n ≤ 6) : tw_AM B (tw_fd (tw_arM T) g n) := h.cg (fun i k hi hk => tw_fd_1 (P := fun x => x = tw_ac i k) (N := 6) (fun g' j x hj hx => tw_arM_1 _ _ _ (by have a := tw_ac_c i k; have hx : x = tw_ac i k := hx; omega)) n hn _ rfl)
theorem tw_we_A {B : Nat} {g : tw_G} (h : tw_AM B g) (hB : B ≤ 60000000) {j : Nat} (hj : j < 4) : tw_AM B (tw_weM g j) := by
  have ev : 480 + 64 * j + 16 + 1 = tw_ac j 1 := by rw [tw_ac_v hj]; omega
  have ew : 1360 + 1 = tw_ac 12 1 := by decide
  have l := h.le (i := j) (k := 1) (by omega) (by decide)
  have dv : g.1 (480 + 64 * j + 16 + 1) / 10000 = nI (tw_am g j 1 / 10000) := by
    rw [ev, h.1 j 1 (by omega) (by decide)]
    exact tw_I_div (b := 10000) (by omega) (by decide)
  unfold tw_weM
  rw [dv, ev, ew]
  exact h.tr hB (by omega) (by decide) (by omega) (by decide) (Nat.div_le_self _ _)
theorem tw_we_F {B : Nat} {gc gm : tw_G} (e : tw_E2 gc gm) (h : tw_AM B gm) (hB : B ≤ 60000000) : ∀ n, n ≤ 4 → tw_E2 (tw_fd tw_weC gc n) (tw_fd tw_weM gm n) ∧ tw_AM B (tw_fd tw_weM gm n)
  | 0, _ => ⟨e, h⟩
  | n + 1, hn => by
    obtain ⟨a, b⟩ := tw_we_F e h hB n (by omega)
    refine ⟨?_, tw_we_A b hB (by omega)⟩
    have v := a _ _ (tw_pr.v (j := n) (k := 1) (by omega) (by decide))
    show tw_E2 (tw_weC (tw_fd tw_weC gc n) n) (tw_weM (tw_fd tw_weM gm n) n)
    exact (a.ad (tw_pr.v (by omega) (by decide)) (congrArg (fun x : Int32 => -(x / 10000)) v)).ad (tw_pr.s (k := 17) (by decide)) (congrArg (fun x : Int32 => x / 10000) v)
/-- class and reference stand alike, day for day -/
def tw_SM (B : Nat) (gc gm : tw_G) : Prop := tw_E2 gc gm ∧ gc.2 21 = gm.2 22 ∧ gc.2 6 = gm.2 3 ∧ gc.2 7 = gm.2 4 ∧ gm.2 3 ≤ 4 ∧ gm.2 4 ≤ 6 ∧ (∀ j, j < gm.2 4 → tw_hs gm (gm.2 22) j) ∧ tw_AM B gm
theorem tw_dy_S {B : Nat} {gc gm : tw_G} (s : tw_SM B gc gm) (hB : B ≤ 60000000) (hT : gm.2 22 < 3000) : tw_SM B (tw_dyC gc) (tw_dyM gm) := by
  obtain ⟨e, t, c6, c7, b3, b4, hh, am⟩ := s
  have m2 := tw_dyM_2 gm
  have c2 := tw_dyC_2 gc
  have e0 : tw_E2 (tw_g2 gc 21 (gc.2 21 + 1)) (tw_g2 gm 22 (gm.2 22 + 1)) := e
  have h0 : ∀ j, j < gm.2 4 → tw_hs (tw_g2 gm 22 (gm.2 22 + 1)) (gm.2 22) j := fun j hj => (hh j hj).cg (fun k hk => rfl) (Nat.le_refl _)
  have a0 : tw_AM B (tw_g2 gm 22 (gm.2 22 + 1)) := am.cg (fun i k _ _ => rfl)
  obtain ⟨f1, f2, f3⟩ := tw_ar_F e0 h0 b4 hT b3 (gm.2 4) (Nat.le_refl _)
  have a1 := tw_ar_A (T := gm.2 22 + 1) a0 b4
  obtain ⟨w1, w2⟩ := tw_we_F f1 a1 hB (gm.2 3) b3
  refine ⟨?_, ?_, ?_, ?_, ?_, ?_, fun j hj => ?_, ?_⟩
  · unfold tw_dyC tw_dyM
    rw [t, c6, c7]
    rw [t] at f1 w1
    split
    · exact w1
    · exact f1
  · rw [c2, m2]
    show gc.2 21 + 1 = gm.2 22 + 1
    rw [t]
  · rw [c2, m2]
    exact c6
  · rw [c2, m2]
    exact c7
  · rw [m2]
    exact b3
  · rw [m2]
    exact b4
  · rw [m2] at hj
    have hj : j < gm.2 4 := hj
    have z : (tw_dyM gm).2 22 = gm.2 22 + 1 := by rw [m2]; rfl
    rw [z]
    refine (f3 j hj).cg (fun k hk => ?_) (by rw [m2, tw_fd_2 tw_arM_2]; exact Nat.le_refl _)
    unfold tw_dyM
    split
    · exact tw_fd_1 (P := fun x => x = 960 + 32 * j + k) (N := 4) (fun g' i x hi hx => tw_weM_1 _ _ _ (by have hx : x = 960 + 32 * j + k := hx; omega)) _ b3 _ rfl
    · rfl
  · unfold tw_dyM
    split
    · exact w2
    · exact a1
theorem tw_ds_S {B : Nat} {gc gm : tw_G} (s : tw_SM B gc gm) (hB : B ≤ 60000000) : ∀ n, gm.2 22 + n ≤ 3000 → tw_SM B (tw_dsC gc n) (tw_dsM gm n)
  | 0, _ => s
  | n + 1, hn => tw_dy_S (tw_ds_S s hB n (by omega)) hB (by
    rw [tw_dsM_2]
    show gm.2 22 + n < 3000
    omega)
theorem tw_dsC_1 (g : tw_G) (h6 : g.2 6 ≤ 4) (h7 : g.2 7 ≤ 6) : ∀ n i, i < 160 ∨ 416 ≤ i ∧ i < 768 ∨ 960 ≤ i ∧ i < 1328 ∨ 1332 ≤ i ∨ 160 ≤ i ∧ i < 416 ∧ i % 64 ≠ 57 → (tw_dsC g n).1 i = g.1 i
  | 0, _, _ => rfl
  | n + 1, i, h => by
    have ih := tw_dsC_1 g h6 h7 n i h
    have e := tw_dsC_2 g n
    have k6 : (tw_dsC g n).2 6 ≤ 4 := by rw [e]; exact h6
    have k7 : (tw_dsC g n).2 7 ≤ 6 := by rw [e]; exact h7
    rw [← ih]
    show (tw_dyC (tw_dsC g n)).1 i = _
    have a := tw_fd_1 (f := tw_arC ((tw_dsC g n).2 21 + 1)) (g := tw_g2 (tw_dsC g n) 21 ((tw_dsC g n).2 21 + 1)) (P := fun x => x < 768 ∨ 960 ≤ x) (N := 6) (fun g' j x hj hx => tw_arC_1 _ _ _ hj hx) _ k7 i (by omega)
    unfold tw_dyC
    split
    · exact (tw_fd_1 (P := fun x => x = i) (N := 4) (fun g' j x hj hx => tw_weC_1 _ _ _ (by have hx : x = i := hx; omega)) _ k6 _ rfl).trans a
    · exact a
theorem tw_dsM_1 (g : tw_G) (h3 : g.2 3 ≤ 4) (h4 : g.2 4 ≤ 6) : ∀ n i, i < 480 ∨ 736 ≤ i ∧ i < 960 ∨ 1152 ≤ i ∧ i < 1360 ∨ 1364 ≤ i ∨ 480 ≤ i ∧ i < 736 ∧ i % 64 ≠ 49 → (tw_dsM g n).1 i = g.1 i
  | 0, _, _ => rfl
  | n + 1, i, h => by
    have ih := tw_dsM_1 g h3 h4 n i h
    have e := tw_dsM_2 g n
    have k3 : (tw_dsM g n).2 3 ≤ 4 := by rw [e]; exact h3
    have k4 : (tw_dsM g n).2 4 ≤ 6 := by rw [e]; exact h4
    rw [← ih]
    show (tw_dyM (tw_dsM g n)).1 i = _
    have a := tw_fd_1 (f := tw_arM ((tw_dsM g n).2 22 + 1)) (g := tw_g2 (tw_dsM g n) 22 ((tw_dsM g n).2 22 + 1)) (P := fun x => x < 960 ∨ 1152 ≤ x) (N := 6) (fun g' j x hj hx => tw_arM_1 _ _ _ (by have hx : x < 960 ∨ 1152 ≤ x := hx; omega)) _ k4 i (by omega)
    unfold tw_dyM
    split
    · exact (tw_fd_1 (P := fun x => x = i) (N := 4) (fun g' j x hj hx => tw_weM_1 _ _ _ (by have hx : x = i := hx; omega)) _ k3 _ rfl).trans a
    · exact a

/-! the class's conditions and answers where amounts matter -/
def tw_RG1 (m gr : Int32) : Prop := tw_RM m ∧ 1 ≤ gr ∧ gr ≤ 99999
theorem tw_gr1 {gr : Int32} (h : 1 ≤ gr ∧ gr ≤ 99999) : ∃ n, 1 ≤ n ∧ n ≤ 99999 ∧ gr = nI n := by
  obtain ⟨n, l, h, e⟩ := tw_I_rng (a := 1) (b := 99999) h.1 h.2 (by decide) (by decide)
  exact ⟨n, l, h, e⟩
theorem tw_ix_so9 {g : tw_G} {F : Nat → Option Nat} {m N q b s : Nat} {n : Int32} (pn : ∀ j, j < N → (F j = none ↔ m ≤ j)) (hm : m ≤ 10) (c1 : ¬ n < 0) (c2 : ¬ nI N ≤ n) (hv : F n.toNatClampNeg = some q) (f9 : tw_f9 g b s F) : ∃ j, j < m ∧ n = nI j ∧ g.2 (4096 + q) = b + s * j := by
  obtain ⟨j, hj, rfl⟩ := tw_ix_so pn c1 c2 hv
  exact ⟨j, hj, rfl, by have z := f9 _ _ hv; rw [nI_clamp (by omega)] at z; exact z⟩
def tw_cP (g : tw_G) (a : Nat) : Nat := tw_DN (g.1 (768 + 32 * a + 1))
def tw_cg (g : tw_G) (a m n : Nat) : Nat := tw_gv m (tw_DN (g.1 (160 + 64 * tw_cP g a))) (tw_DN (g.1 (160 + 64 * tw_cP g a + 1))) n
def tw_LC (g : tw_G) (a m n : Nat) : Prop := g.1 (768 + 32 * a + 1) ≠ -1 ∧ nI n ≤ g.1 (768 + 32 * a + 8 + m) ∧ g.1 (160 + 64 * tw_cP g a + 2 + m) ≠ 0 ∧ nI (tw_cg g a m n) ≤ g.1 (160 + 64 * tw_cP g a + 24 + (1 - m))
def tw_LS (g : tw_G) (a : Nat) (b : Int32) : Prop := g.1 (768 + 32 * a + 1) ≠ -1 ∧ g.1 (768 + 32 * a + 1) ≠ b
def tw_fr (g : tw_G) (a b k : Nat) : Nat := tw_up3 (tw_DN (g.1 (768 + 32 * a + 8 + k))) (tw_DN (g.1 (160 + 64 * tw_cP g a + 16 + b)))
def tw_sD (g : tw_G) (a b : Nat) : Int32 := nI (g.2 21) + g.1 (160 + 64 * tw_cP g a + 8 + b)
def tw_due (v d t : Nat) : Nat := v + v / 100 * ((t - d) / 10)
def tw_gf (a r : Nat) : Nat := (a * 10 + r - 1) / r
def tw_dF (g : tw_G) (a : Nat) : Nat := tw_DN (g.1 (1152 + 8 * a + 3))
def tw_dT (g : tw_G) (a : Nat) : Nat := tw_DN (g.1 (1152 + 8 * a + 4))
def tw_sd (g : tw_G) (a : Nat) : Nat := tw_due (tw_DN (g.1 (1152 + 8 * a + 0))) (tw_DN (g.1 (1152 + 8 * a + 1))) (g.2 21)
def tw_sg (g : tw_G) (a m : Nat) : Nat := if m = 0 then tw_gf (tw_sd g a) (tw_DN (g.1 (160 + 64 * tw_cP g (tw_dF g a)))) else tw_sd g a
def tw_LT (g : tw_G) (a m : Nat) : Prop := g.1 (1152 + 8 * a + 2) = 0 ∧ g.1 (768 + 32 * tw_dF g a + 1) ≠ -1 ∧ g.1 (768 + 32 * tw_dT g a + 1) ≠ -1 ∧ nI (tw_sg g a m) ≤ g.1 (768 + 32 * tw_dF g a + 8 + m)
/-- what the class's numbers are within -/
def tw_CH (g : tw_G) : Prop := tw_EC g ∧ (∀ j, j < g.2 7 → (g.1 (768 + 32 * j + 1) = -1 ∨ ∃ i, i < g.2 6 ∧ g.1 (768 + 32 * j + 1) = nI i) ∧ ∀ k, k < 2 → ∃ A, A ≤ 59000000 ∧ g.1 (768 + 32 * j + 8 + k) = nI A) ∧ ∀ j, j < g.2 8 → (∃ v, v ≤ 9999 ∧ g.1 (1152 + 8 * j + 0) = nI v) ∧ (∃ t, t ≤ 4000 ∧ g.1 (1152 + 8 * j + 1) = nI t) ∧ (∃ i, i < g.2 7 ∧ g.1 (1152 + 8 * j + 3) = nI i) ∧ ∃ i, i < g.2 7 ∧ g.1 (1152 + 8 * j + 4) = nI i
theorem tw_CH.p {g : tw_G} (h : tw_CH g) {j i : Nat} (hj : j < g.2 7) (hi : i < 4) (h6 : g.2 6 ≤ 4) (e : g.1 (768 + 32 * j + 1) = nI i) : i < g.2 6 := by
  rcases (h.2.1 j hj).1 with z | ⟨w, hw, z⟩
  · exact absurd (e.symm.trans z) (tw_nm1 (by omega))
  · rw [tw_nIj (e.symm.trans z) (by omega) (by omega)]
    exact hw
theorem tw_cP_e {g : tw_G} {a i : Nat} (e : g.1 (768 + 32 * a + 1) = nI i) (hi : i < 4) : tw_cP g a = i := by
  unfold tw_cP
  rw [e]
  exact nI_clamp (by omega)
theorem tw_I_mul {a b : Nat} (ha : a < 2 ^ 31) (hb : b < 2 ^ 31) (h : a * b < 2 ^ 31) : nI a * nI b = nI (a * b) := by
  refine tw_I_of ?_ h
  rw [Int32.toInt_mul, nI_toInt ha, nI_toInt hb]
  have e : (a : Int) * b = ((a * b : Nat) : Int) := by simp
  rw [e]
  clear e
  generalize a * b = c at h ⊢
  apply Int.bmod_eq_of_le_mul_two <;> omega
theorem tw_I_mod {a b : Nat} (ha : a < 2 ^ 31) (hb : b < 2 ^ 31) (h0 : 0 < b) : nI a - nI a / nI b * nI b = nI (a % b) := by
  have l : a / b * b ≤ a := Nat.div_mul_le_self a b
  rw [tw_I_div ha hb, tw_I_mul (Nat.lt_of_le_of_lt (Nat.div_le_self a b) ha) hb (by omega), tw_I_sub ha l]
  have z := Nat.mod_add_div a b
  rw [Nat.mul_comm b] at z
  rw [show a - a / b * b = a % b by omega]
theorem tw_CH.d {g : tw_G} (h : tw_CH g) {j i c : Nat} (hj : j < g.2 8) (hi : i < 6) (h7 : g.2 7 ≤ 6) (hc : c = 3 ∨ c = 4) (e : g.1 (1152 + 8 * j + c) = nI i) : i < g.2 7 := by
  obtain ⟨-, -, ⟨a, ha, ea⟩, b, hb, eb⟩ := h.2.2 j hj
  rcases hc with rfl | rfl
  · rw [tw_nIj (e.symm.trans ea) (by omega) (by omega)]
    exact ha
  · rw [tw_nIj (e.symm.trans eb) (by omega) (by omega)]
    exact hb
theorem tw_dN_e {g : tw_G} {a i c : Nat} (e : g.1 (1152 + 8 * a + c) = nI i) (hi : i < 6) : tw_DN (g.1 (1152 + 8 * a + c)) = i := by
  rw [e]
  exact nI_clamp (by omega)
theorem tw_dueI {V D T : Nat} (hV : V ≤ 9999) (hT : T ≤ 3000) : tw_due V D T ≤ 40000 := by
  unfold tw_due
  have a : V / 100 ≤ 99 := by omega
  have b : (T - D) / 10 ≤ 300 := by omega
  have c : V / 100 * ((T - D) / 10) ≤ 99 * 300 := Nat.mul_le_mul a b
  omega
theorem tw_due1 {V D T : Nat} {v d t : Int32} (ev : v = nI V) (ed : d = nI D) (et : t = nI T) (hV : V ≤ 9999) (hT : T ≤ 3000) (hD : D ≤ 4000) (c : d < t) : v + v / 100 * ((t - d) / 10) = nI (tw_due V D T) := by
  have hl : D < T := by
    rw [ed, et] at c
    exact (nI_ltI (by omega) (by omega)).mp c
  have a : V / 100 ≤ 99 := by omega
  have b : (T - D) / 10 ≤ 300 := by omega
  have m : V / 100 * ((T - D) / 10) ≤ 99 * 300 := Nat.mul_le_mul a b
  rw [ev, ed, et, tw_I_sub (by omega) (by omega), show (100 : Int32) = nI 100 from rfl, show (10 : Int32) = nI 10 from rfl, tw_I_div (b := 100) (by omega) (by decide), tw_I_div (b := 10) (by omega) (by decide), tw_I_mul (by omega) (by omega) (by omega)]
  exact tw_niadd
theorem tw_due0 {V D T : Nat} {v d t : Int32} (ev : v = nI V) (ed : d = nI D) (et : t = nI T) (hT : T ≤ 3000) (hD : D ≤ 4000) (c : t ≤ d) : v + v / 100 * 0 = nI (tw_due V D T) := by
  have hl : T ≤ D := by
    rw [ed, et] at c
    exact (tw_nIle (by omega) (by omega)).mp c
  unfold tw_due
  rw [show T - D = 0 by omega, Nat.zero_div, Nat.mul_zero, Nat.add_zero, Int32.mul_zero, Int32.add_zero]
  exact ev
theorem tw_gf_i {a r : Nat} (ha : a ≤ 40000) (h1 : 100 ≤ r) (hr : r ≤ 200) : (((nI a).toInt64 * 10 + (nI r).toInt64 - 1) / (nI r).toInt64).toInt32 = nI (tw_gf a r) := by
  have l : tw_gf a r ≤ a * 10 + r - 1 := Nat.div_le_self _ _
  rw [tw_L_i (by omega), tw_L_i (by omega), show (10 : Int64) = tw_L 10 from rfl, tw_L_mul (by omega) (by decide) (by omega), tw_upL (by omega) (by omega)]
  exact tw_L_32 (by unfold tw_gf at l; omega)
theorem tw_gf_le {a r : Nat} (h1 : 100 ≤ r) (ha : a ≤ 40000) : tw_gf a r ≤ 40000 := by
  unfold tw_gf
  have e : (a * 10 + r) / r = a * 10 / r + 1 := Nat.add_div_right _ (by omega)
  have l1 : (a * 10 + r - 1) / r ≤ (a * 10 + r) / r := Nat.div_le_div_right (by omega)
  have l2 : a * 10 / r ≤ a * 10 / 100 := Nat.div_le_div_left h1 (by decide)
  omega
theorem tw_gX_z {x ca ha da c1 c2 c3 c4 i : Nat} (h : i < 10 ∨ i = 21 ∨ i = 131 ∨ i = 133 ∨ i = 135) : (tw_gX x ca ha da c1 c2 c3 c4).2 i = 0 := by
  unfold tw_gX
  dsimp only
  rw [if_neg (by omega), if_neg (by omega), if_neg (by omega), if_neg (by omega), if_neg (by omega), if_neg (by omega), if_neg (by omega), if_neg (by omega), if_neg (by omega), if_neg (by omega), if_neg (by omega), if_neg (by omega), if_neg (by omega), if_neg (by omega), if_neg (by omega), if_neg (by omega)]

set_option maxHeartbeats 4000000 in
set_option maxRecDepth 100000 in
theorem c4_X3_of (d : tw_D) (g : tw_G) (τ : tw_K) (h : tw_H) (hw : tw_wt d g τ h) (x : Nat) (kx : τ x = 1) (b : Nat) (hb : g.2 (4096 + x) = b) (k : Nat) (hk : k < 2) : tw_Ct d mX3_of 0 0 [.ref x, .int (nI k)] h (tw_qi (fun r h1 => h1 = h ∧ r = g.1 (b + k)) tw_nx) := by
  rcases (show k = 0 ∨ k = 1 by omega) with rfl | rfl
  · skip
    refine tw_of (by decide +kernel) (Nat.le_of_ble_eq_true rfl) ?_
    show tw_W d mX3_of _ 0 [(0, .ref x), (1, .int (nI 0))] [] h 0 0
    have sp0 := tw_sp.rf hw
    refine tw_iload_n 1 dX3_of_0 rfl rfl ?_
    refine tw_if_ne 11 dX3_of_1 (by decide) (fun c1 => absurd (rfl) c1) (fun _ => ?_)
    refine tw_aload_n 0 dX3_of_4 rfl rfl ?_
    obtain ⟨e2, f3, a_4, b_5, rfl, k6⟩ := sp0.1 x 1 kx (by decide)
    obtain ⟨b7, ow8, fa9, fb9⟩ := k6
    obtain rfl : b = b7 := (ow8.b hb).symm
    subst fa9 fb9
    refine tw_get (v := .int (g.1 (b + 0))) rfl in_7 0 dX3_of_5 w_131 rfl (by decide) f3 rfl ?_
    refine tw_goto 15 dX3_of_8 (by decide) ?_
    exact tw_iret dX3_of_15 rfl (Or.inl ⟨_, rfl, rfl, rfl⟩)
  · skip
    refine tw_of (by decide +kernel) (Nat.le_of_ble_eq_true rfl) ?_
    show tw_W d mX3_of _ 0 [(0, .ref x), (1, .int (nI 1))] [] h 0 0
    have sp0 := tw_sp.rf hw
    refine tw_iload_n 1 dX3_of_0 rfl rfl ?_
    refine tw_if_ne 11 dX3_of_1 (by decide) (fun _ => ?_) (fun c1 => absurd c1 ((by decide)))
    refine tw_aload_n 0 dX3_of_11 rfl rfl ?_
    obtain ⟨e2, f3, a_4, b_5, rfl, k6⟩ := sp0.1 x 1 kx (by decide)
    obtain ⟨b7, ow8, fa9, fb9⟩ := k6
    obtain rfl : b = b7 := (ow8.b hb).symm
    subst fa9 fb9
    refine tw_get (v := .int (g.1 (b + 1))) rfl in_7 1 dX3_of_12 w_133 rfl (by decide) f3 rfl ?_
    exact tw_iret dX3_of_15 rfl (Or.inl ⟨_, rfl, rfl, rfl⟩)

set_option maxHeartbeats 4000000 in
set_option maxRecDepth 100000 in
theorem c4_X3_add (d : tw_D) (g : tw_G) (τ : tw_K) (h : tw_H) (hw : tw_wt d g τ h) (x : Nat) (kx : τ x = 1) (b : Nat) (hb : g.2 (4096 + x) = b) (k : Nat) (hk : k < 2) (n : Int32) : tw_Ct d mX3_add 0 0 [.ref x, .int (nI k), .int n] h (tw_qv (fun h1 => tw_sp d τ h (tw_ad g (b + k) n) τ h1) tw_nx) := by
  rcases (show k = 0 ∨ k = 1 by omega) with rfl | rfl
  · skip
    refine tw_of (by decide +kernel) (Nat.le_of_ble_eq_true rfl) ?_
    show tw_W d mX3_add _ 0 [(0, .ref x), (1, .int (nI 0)), (2, .int n)] [] h 0 0
    have sp0 := tw_sp.rf hw
    refine tw_iload_n 1 dX3_add_0 rfl rfl ?_
    refine tw_if_ne 17 dX3_add_1 (by decide) (fun c1 => absurd (rfl) c1) (fun _ => ?_)
    refine tw_aload_n 0 dX3_add_4 rfl rfl ?_
    refine tw_dup dX3_add_5 rfl ?_
    obtain ⟨e2, f3, a_4, b_5, rfl, k6⟩ := sp0.1 x 1 kx (by decide)
    obtain ⟨b7, ow8, fa9, fb9⟩ := k6
    obtain rfl : b = b7 := (ow8.b hb).symm
    subst fa9 fb9
    refine tw_get (v := .int (g.1 (b + 0))) rfl in_7 0 dX3_add_6 w_131 rfl (by decide) f3 rfl ?_
    refine tw_iload_n 2 dX3_add_9 rfl rfl ?_
    refine tw_iadd dX3_add_10 ?_
    refine tw_nmi (fun v9 ev9 => ?_)
    refine tw_put rfl in_7 tyX3 tyX3_ok nmX3 0 dX3_add_11 w_131 rfl (by decide) f3 rfl rfl rfl rfl (Nat.le_of_ble_eq_true rfl) [.int v9, .int (g.1 (b + 1))] rfl ?_
    obtain ⟨h10, eh10⟩ : ∃ z : tw_H, z = tw_up h x (.inr (7, [.int v9, .int (g.1 (b + 1))])) := ⟨_, rfl⟩
    rw [← eh10]
    have sp11 : tw_sp d τ h (tw_g1 g (b + 0) v9) τ h10 := by rw [eh10]; exact sp0.wb kx (by decide) ow8 ⟨_, _, rfl, _, ow8, tw_g1_eq.symm, (tw_g1_ne (by omega)).symm⟩ (fun q9 hq9 => tw_g1_ne (by omega)) rfl
    refine tw_goto 27 dX3_add_14 (by decide) ?_
    exact tw_vret dX3_add_27 rfl (Or.inl ⟨rfl, by have z := sp11; rw [ev9] at z; exact z⟩)
  · skip
    refine tw_of (by decide +kernel) (Nat.le_of_ble_eq_true rfl) ?_
    show tw_W d mX3_add _ 0 [(0, .ref x), (1, .int (nI 1)), (2, .int n)] [] h 0 0
    have sp0 := tw_sp.rf hw
    refine tw_iload_n 1 dX3_add_0 rfl rfl ?_
    refine tw_if_ne 17 dX3_add_1 (by decide) (fun _ => ?_) (fun c1 => absurd c1 ((by decide)))
    refine tw_aload_n 0 dX3_add_17 rfl rfl ?_
    refine tw_dup dX3_add_18 rfl ?_
    obtain ⟨e2, f3, a_4, b_5, rfl, k6⟩ := sp0.1 x 1 kx (by decide)
    obtain ⟨b7, ow8, fa9, fb9⟩ := k6
    obtain rfl : b = b7 := (ow8.b hb).symm
    subst fa9 fb9
    refine tw_get (v := .int (g.1 (b + 1))) rfl in_7 1 dX3_add_19 w_133 rfl (by decide) f3 rfl ?_
    refine tw_iload_n 2 dX3_add_22 rfl rfl ?_
    refine tw_iadd dX3_add_23 ?_
    refine tw_nmi (fun v9 ev9 => ?_)
    refine tw_put rfl in_7 tyX3 tyX3_ok nmX3 1 dX3_add_24 w_133 rfl (by decide) f3 rfl rfl rfl rfl (Nat.le_of_ble_eq_true rfl) [.int (g.1 (b + 0)), .int v9] rfl ?_
    obtain ⟨h10, eh10⟩ : ∃ z : tw_H, z = tw_up h x (.inr (7, [.int (g.1 (b + 0)), .int v9])) := ⟨_, rfl⟩
    rw [← eh10]
    have sp11 : tw_sp d τ h (tw_g1 g (b + 1) v9) τ h10 := by rw [eh10]; exact sp0.wb kx (by decide) ow8 ⟨_, _, rfl, _, ow8, (tw_g1_ne (by omega)).symm, tw_g1_eq.symm⟩ (fun q9 hq9 => tw_g1_ne (by omega)) rfl
    exact tw_vret dX3_add_27 rfl (Or.inl ⟨rfl, by have z := sp11; rw [ev9] at z; exact z⟩)

set_option maxHeartbeats 4000000 in
set_option maxRecDepth 100000 in
theorem c4_X5_houseAt (d : tw_D) (g : tw_G) (τ : tw_K) (h : tw_H) (hw : tw_wt d g τ h) (x : Nat) (kx : τ x = 11) (n : Int32) : tw_Ct d mX5_houseAt 1 6 [.ref x, .int n] h (tw_qr (fun r h1 => h1 = h ∧ τ r = 3 ∧ ∃ j, j < g.2 7 ∧ n = nI j ∧ g.2 (4096 + r) = 768 + 32 * j) (fun E h1 => E = tw_IOE ∧ h1 = h ∧ ¬ tw_ix (g.2 7) n)) := by
  refine tw_of (by decide +kernel) (Nat.le_of_ble_eq_true rfl) ?_
  show tw_W d mX5_houseAt _ 0 [(0, .ref x), (1, .int n)] [] h 1 6
  have sp0 := tw_sp.rf hw
  have b9 := tw_b678 hw kx
  refine tw_iload_n 1 dX5_houseAt_0 rfl rfl ?_
  refine tw_if_lt 22 dX5_houseAt_1 (by decide) (fun c1 => ?_) (fun c1 => ?_)
  · exact tw_throwSW (i := 8) (by decide +kernel) w_550 w_96 rfl at_IOE dX5_houseAt_22 dX5_houseAt_25 dX5_houseAt_26 dX5_houseAt_29 dX5_houseAt_32 ⟨by decide, Nat.le_of_ble_eq_true rfl⟩ (Nat.le_of_ble_eq_true rfl) (Nat.le_of_ble_eq_true rfl) (Or.inr ⟨_, rfl, rfl, rfl, tw_ix_lt (by omega) c1⟩)
  · refine tw_iload_n 1 dX5_houseAt_4 rfl rfl ?_
    refine tw_aload_n 0 dX5_houseAt_5 rfl rfl ?_
    obtain ⟨e2, f3, td_4, ca_5, ha_6, da_7, c1_8, c2_9, c3_10, c4_11, rfl, k12, k13, k14, k15, k16, k17, k18, k19, k20, k21, k22, k23, k24, k25, k26, k27, k28⟩ := sp0.1 x 11 kx (by decide)
    refine tw_get (v := .ref ha_6) rfl in_9 4 dX5_houseAt_6 w_144 rfl (by decide) f3 rfl ?_
    obtain ⟨e29, f30, F31, rfl, k32, pn33, pb34, px35, pf36⟩ := sp0.1 ha_6 9 k13 (by decide)
    refine tw_alen (v := nI 6) 5 rfl dX5_houseAt_9 f30 rfl ?_
    refine tw_icmp_ge 22 dX5_houseAt_10 (by decide) (fun c37 => ?_) (fun c37 => ?_)
    · exact tw_throwSW (i := 8) (by decide +kernel) w_550 w_96 rfl at_IOE dX5_houseAt_22 dX5_houseAt_25 dX5_houseAt_26 dX5_houseAt_29 dX5_houseAt_32 ⟨by decide, Nat.le_of_ble_eq_true rfl⟩ (Nat.le_of_ble_eq_true rfl) (Nat.le_of_ble_eq_true rfl) (Or.inr ⟨_, rfl, rfl, rfl, tw_ix_ge (N := 6) b9.2.1 (by decide) c37⟩)
    · refine tw_aload_n 0 dX5_houseAt_13 rfl rfl ?_
      refine tw_get (v := .ref ha_6) rfl in_9 4 dX5_houseAt_14 w_144 rfl (by decide) f3 rfl ?_
      refine tw_iload_n 1 dX5_houseAt_17 rfl rfl ?_
      cases k38 : F31 (n).toNatClampNeg with
      | none =>
        refine tw_aald (v := .null) 5 rfl rfl dX5_houseAt_18 f30 (tw_ib2 c1 c37 (by decide)) (by rw [k38]; rfl) ?_
        refine tw_ifnonnullN dX5_houseAt_19 ?_
        exact tw_throwSW (i := 8) (by decide +kernel) w_550 w_96 rfl at_IOE dX5_houseAt_22 dX5_houseAt_25 dX5_houseAt_26 dX5_houseAt_29 dX5_houseAt_32 ⟨by decide, Nat.le_of_ble_eq_true rfl⟩ (Nat.le_of_ble_eq_true rfl) (Nat.le_of_ble_eq_true rfl) (Or.inr ⟨_, rfl, rfl, rfl, tw_ix_no pn33 pb34 (by decide) k38⟩)
      | some q39 =>
        have k40 := k32 _ _ k38
        refine tw_aald (v := .ref q39) 5 rfl rfl dX5_houseAt_18 f30 (tw_ib2 c1 c37 (by decide)) (by rw [k38]; rfl) ?_
        refine tw_ifnonnull 33 dX5_houseAt_19 (by decide) ?_
        refine tw_aload_n 0 dX5_houseAt_33 rfl rfl ?_
        refine tw_get (v := .ref ha_6) rfl in_9 4 dX5_houseAt_34 w_144 rfl (by decide) f3 rfl ?_
        refine tw_iload_n 1 dX5_houseAt_37 rfl rfl ?_
        refine tw_aald (v := .ref q39) 5 rfl rfl dX5_houseAt_38 f30 (tw_ib2 c1 c37 (by decide)) (by rw [k38]; rfl) ?_
        exact tw_aret dX5_houseAt_39 rfl (Or.inl ⟨_, rfl⟩) (Or.inl ⟨_, rfl, rfl, k40, tw_ix_so9 pn33 (by omega) c1 c37 k38 pf36⟩)

set_option maxHeartbeats 4000000 in
set_option maxRecDepth 100000 in
theorem c4_X5_debtAt (d : tw_D) (g : tw_G) (τ : tw_K) (h : tw_H) (hw : tw_wt d g τ h) (x : Nat) (kx : τ x = 11) (n : Int32) : tw_Ct d mX5_debtAt 1 6 [.ref x, .int n] h (tw_qr (fun r h1 => h1 = h ∧ τ r = 4 ∧ ∃ j, j < g.2 8 ∧ n = nI j ∧ g.2 (4096 + r) = 1152 + 8 * j) (fun E h1 => E = tw_IOE ∧ h1 = h ∧ ¬ tw_ix (g.2 8) n)) := by
  refine tw_of (by decide +kernel) (Nat.le_of_ble_eq_true rfl) ?_
  show tw_W d mX5_debtAt _ 0 [(0, .ref x), (1, .int n)] [] h 1 6
  have sp0 := tw_sp.rf hw
  have b9 := tw_b678 hw kx
  refine tw_iload_n 1 dX5_debtAt_0 rfl rfl ?_
  refine tw_if_lt 22 dX5_debtAt_1 (by decide) (fun c1 => ?_) (fun c1 => ?_)
  · exact tw_throwSW (i := 14) (by decide +kernel) w_550 w_96 rfl at_IOE dX5_debtAt_22 dX5_debtAt_25 dX5_debtAt_26 dX5_debtAt_29 dX5_debtAt_32 ⟨by decide, Nat.le_of_ble_eq_true rfl⟩ (Nat.le_of_ble_eq_true rfl) (Nat.le_of_ble_eq_true rfl) (Or.inr ⟨_, rfl, rfl, rfl, tw_ix_lt (by omega) c1⟩)
  · refine tw_iload_n 1 dX5_debtAt_4 rfl rfl ?_
    refine tw_aload_n 0 dX5_debtAt_5 rfl rfl ?_
    obtain ⟨e2, f3, td_4, ca_5, ha_6, da_7, c1_8, c2_9, c3_10, c4_11, rfl, k12, k13, k14, k15, k16, k17, k18, k19, k20, k21, k22, k23, k24, k25, k26, k27, k28⟩ := sp0.1 x 11 kx (by decide)
    refine tw_get (v := .ref da_7) rfl in_9 6 dX5_debtAt_6 w_146 rfl (by decide) f3 rfl ?_
    obtain ⟨e29, f30, F31, rfl, k32, pn33, pb34, px35, pf36⟩ := sp0.1 da_7 10 k14 (by decide)
    refine tw_alen (v := nI 10) 6 rfl dX5_debtAt_9 f30 rfl ?_
    refine tw_icmp_ge 22 dX5_debtAt_10 (by decide) (fun c37 => ?_) (fun c37 => ?_)
    · exact tw_throwSW (i := 14) (by decide +kernel) w_550 w_96 rfl at_IOE dX5_debtAt_22 dX5_debtAt_25 dX5_debtAt_26 dX5_debtAt_29 dX5_debtAt_32 ⟨by decide, Nat.le_of_ble_eq_true rfl⟩ (Nat.le_of_ble_eq_true rfl) (Nat.le_of_ble_eq_true rfl) (Or.inr ⟨_, rfl, rfl, rfl, tw_ix_ge (N := 10) b9.2.2 (by decide) c37⟩)
    · refine tw_aload_n 0 dX5_debtAt_13 rfl rfl ?_
      refine tw_get (v := .ref da_7) rfl in_9 6 dX5_debtAt_14 w_146 rfl (by decide) f3 rfl ?_
      refine tw_iload_n 1 dX5_debtAt_17 rfl rfl ?_
      cases k38 : F31 (n).toNatClampNeg with
      | none =>
        refine tw_aald (v := .null) 6 rfl rfl dX5_debtAt_18 f30 (tw_ib2 c1 c37 (by decide)) (by rw [k38]; rfl) ?_
        refine tw_ifnonnullN dX5_debtAt_19 ?_
        exact tw_throwSW (i := 14) (by decide +kernel) w_550 w_96 rfl at_IOE dX5_debtAt_22 dX5_debtAt_25 dX5_debtAt_26 dX5_debtAt_29 dX5_debtAt_32 ⟨by decide, Nat.le_of_ble_eq_true rfl⟩ (Nat.le_of_ble_eq_true rfl) (Nat.le_of_ble_eq_true rfl) (Or.inr ⟨_, rfl, rfl, rfl, tw_ix_no pn33 pb34 (by decide) k38⟩)
      | some q39 =>
        have k40 := k32 _ _ k38
        refine tw_aald (v := .ref q39) 6 rfl rfl dX5_debtAt_18 f30 (tw_ib2 c1 c37 (by decide)) (by rw [k38]; rfl) ?_
        refine tw_ifnonnull 33 dX5_debtAt_19 (by decide) ?_
        refine tw_aload_n 0 dX5_debtAt_33 rfl rfl ?_
        refine tw_get (v := .ref da_7) rfl in_9 6 dX5_debtAt_34 w_146 rfl (by decide) f3 rfl ?_
        refine tw_iload_n 1 dX5_debtAt_37 rfl rfl ?_
        refine tw_aald (v := .ref q39) 6 rfl rfl dX5_debtAt_38 f30 (tw_ib2 c1 c37 (by decide)) (by rw [k38]; rfl) ?_
        exact tw_aret dX5_debtAt_39 rfl (Or.inl ⟨_, rfl⟩) (Or.inl ⟨_, rfl, rfl, k40, tw_ix_so9 pn33 (by omega) c1 c37 k38 pf36⟩)

set_option maxHeartbeats 4000000 in
set_option maxRecDepth 100000 in
theorem c4_X2_leaveFor (d : tw_D) (g : tw_G) (τ : tw_K) (h : tw_H) (hw : tw_wt d g τ h) (x : Nat) (kx : τ x = 3) (j : Nat) (hj : j < 6) (hb : g.2 (4096 + x) = 768 + 32 * j) (q : Nat) (kq : τ q = 2) (i : Nat) (hi : i < 4) (hq : g.2 (4096 + q) = 160 + 64 * i) (dy : Int32) : tw_Ct d mX2_leaveFor 0 0 [.ref x, .ref q, .int dy] h (tw_qv (fun h1 => tw_sp d τ h (tw_g1 (tw_g1 (tw_g1 g (768 + 32 * j + 1) (-1)) (768 + 32 * j + 2) (nI i)) (768 + 32 * j + 0) dy) τ h1) tw_nx) := by
  refine tw_of (by decide +kernel) (Nat.le_of_ble_eq_true rfl) ?_
  show tw_W d mX2_leaveFor _ 0 [(0, .ref x), (1, .ref q), (2, .int dy)] [] h 0 0
  have sp0 := tw_sp.rf hw
  refine tw_aload_n 0 dX2_leaveFor_0 rfl rfl ?_
  refine tw_null dX2_leaveFor_1 ?_
  obtain ⟨e1, f2, n_3, ar_4, p_5, pl_6, go_7, rfl, k8, k9, k10, k11⟩ := sp0.1 x 3 kx (by decide)
  obtain ⟨j12, ow13, fn9, fa9, pc14, pc15, lp16⟩ := k11
  obtain rfl : j = j12 := by have z := ow13.b hb; omega
  subst fn9 fa9
  refine tw_put rfl in_6 tyX2 tyX2_ok nmX2 2 dX2_leaveFor_2 w_640 rfl (by decide) f2 rfl rfl rfl rfl (Nat.le_of_ble_eq_true rfl) [.int (nI j), .ref p_5, .null, va_rf go_7, .int (g.1 (768 + 32 * j + 0))] rfl ?_
  obtain ⟨h17, eh17⟩ : ∃ z : tw_H, z = tw_up h x (.inr (6, [.int (nI j), .ref p_5, .null, va_rf go_7, .int (g.1 (768 + 32 * j + 0))])) := ⟨_, rfl⟩
  rw [← eh17]
  have sp18 : tw_sp d τ h (tw_g1 g (768 + 32 * j + 1) (-1)) τ h17 := by rw [eh17]; exact sp0.wb kx (by decide) ow13 ⟨_, _, _, none, go_7, rfl, k8, (fun _ z => by cases z), k10, j, ow13, rfl, (tw_g1_ne (by omega)).symm, tw_pc.nn, (pc15.ne (by omega)), lp16⟩ (fun q9 hq9 => tw_g1_ne (by omega)) rfl
  refine tw_aload_n 0 dX2_leaveFor_5 rfl rfl ?_
  refine tw_aload_n 1 dX2_leaveFor_6 rfl rfl ?_
  obtain ⟨e19, f20, n_21, ar_22, p_23, pl_24, go_25, rfl, k26, k27, k28, k29⟩ := sp18.1 x 3 kx (by decide)
  obtain ⟨j30, ow31, fn9, fa9, pc32, pc33, lp34⟩ := k29
  obtain rfl : j = j30 := by have z := ow31.b hb; omega
  subst fn9 fa9
  refine tw_put rfl in_6 tyX2 tyX2_ok nmX2 3 dX2_leaveFor_7 w_642 rfl (by decide) f20 rfl rfl rfl rfl (Nat.le_of_ble_eq_true rfl) [.int (nI j), .ref p_23, va_rf pl_24, .ref q, .int ((tw_g1 g (768 + 32 * j + 1) (-1)).1 (768 + 32 * j + 0))] rfl ?_
  obtain ⟨h35, eh35⟩ : ∃ z : tw_H, z = tw_up h17 x (.inr (6, [.int (nI j), .ref p_23, va_rf pl_24, .ref q, .int ((tw_g1 g (768 + 32 * j + 1) (-1)).1 (768 + 32 * j + 0))])) := ⟨_, rfl⟩
  rw [← eh35]
  have sp36 : tw_sp d τ h (tw_g1 (tw_g1 g (768 + 32 * j + 1) (-1)) (768 + 32 * j + 2) (nI i)) τ h35 := by rw [eh35]; exact sp18.wb kx (by decide) ow31 ⟨_, _, _, pl_24, (some q), rfl, k26, k27, (fun _ z => by cases z; exact kq), j, ow31, rfl, (tw_g1_ne (by omega)).symm, (pc32.ne (by omega)), (tw_pc.ss (by omega) hq), lp34⟩ (fun q9 hq9 => tw_g1_ne (by omega)) rfl
  refine tw_aload_n 0 dX2_leaveFor_10 rfl rfl ?_
  refine tw_iload_n 2 dX2_leaveFor_11 rfl rfl ?_
  obtain ⟨e37, f38, n_39, ar_40, p_41, pl_42, go_43, rfl, k44, k45, k46, k47⟩ := sp36.1 x 3 kx (by decide)
  obtain ⟨j48, ow49, fn9, fa9, pc50, pc51, lp52⟩ := k47
  obtain rfl : j = j48 := by have z := ow49.b hb; omega
  subst fn9 fa9
  refine tw_put rfl in_6 tyX2 tyX2_ok nmX2 4 dX2_leaveFor_12 w_644 rfl (by decide) f38 rfl rfl rfl rfl (Nat.le_of_ble_eq_true rfl) [.int (nI j), .ref p_41, va_rf pl_42, va_rf go_43, .int dy] rfl ?_
  obtain ⟨h53, eh53⟩ : ∃ z : tw_H, z = tw_up h35 x (.inr (6, [.int (nI j), .ref p_41, va_rf pl_42, va_rf go_43, .int dy])) := ⟨_, rfl⟩
  rw [← eh53]
  have sp54 : tw_sp d τ h (tw_g1 (tw_g1 (tw_g1 g (768 + 32 * j + 1) (-1)) (768 + 32 * j + 2) (nI i)) (768 + 32 * j + 0) dy) τ h53 := by rw [eh53]; exact sp36.wb kx (by decide) ow49 ⟨_, _, _, pl_42, go_43, rfl, k44, k45, k46, j, ow49, rfl, tw_g1_eq.symm, (pc50.ne (by omega)), (pc51.ne (by omega)), lp52⟩ (fun q9 hq9 => tw_g1_ne (by omega)) rfl
  exact tw_vret dX2_leaveFor_15 rfl (Or.inl ⟨rfl, sp54⟩)

set_option maxHeartbeats 4000000 in
set_option maxRecDepth 100000 in
theorem c4_X2_arriveBy (d : tw_D) (g : tw_G) (τ : tw_K) (h : tw_H) (hw : tw_wt d g τ h) (x : Nat) (kx : τ x = 3) (j : Nat) (hj : j < 6) (hb : g.2 (4096 + x) = 768 + 32 * j) (T : Nat) : tw_Ct d mX2_arriveBy 0 0 [.ref x, .int (nI T)] h (tw_qv (fun h1 => tw_sp d τ h (tw_arC T g j) τ h1) tw_nx) := by
  refine tw_of (by decide +kernel) (Nat.le_of_ble_eq_true rfl) ?_
  show tw_W d mX2_arriveBy _ 0 [(0, .ref x), (1, .int (nI T))] [] h 0 0
  have sp0 := tw_sp.rf hw
  refine tw_aload_n 0 dX2_arriveBy_0 rfl rfl ?_
  obtain ⟨e1, f2, n_3, ar_4, p_5, pl_6, go_7, rfl, k8, k9, k10, k11⟩ := sp0.1 x 3 kx (by decide)
  obtain ⟨j12, ow13, fn9, fa9, pc14, pc15, lp16⟩ := k11
  obtain rfl : j = j12 := by have z := ow13.b hb; omega
  subst fn9 fa9
  cases go_7 with
  | none =>
    have pe18 := pc15.n
    refine tw_get (v := .null) rfl in_6 3 dX2_arriveBy_1 w_642 rfl (by decide) f2 rfl ?_
    refine tw_ifnullN 33 dX2_arriveBy_4 (by decide) ?_
    exact tw_vret dX2_arriveBy_33 rfl (Or.inl ⟨rfl, by rw [show tw_arC T g j = g from if_neg (fun z => z.1 pe18)]; exact sp0⟩)
  | some q17 =>
    obtain ⟨i19, hi20, ei21, bi22⟩ := pc15.s
    refine tw_get (v := .ref q17) rfl in_6 3 dX2_arriveBy_1 w_642 rfl (by decide) f2 rfl ?_
    refine tw_ifnull dX2_arriveBy_4 ?_
    refine tw_aload_n 0 dX2_arriveBy_7 rfl rfl ?_
    refine tw_get (v := .int (g.1 (768 + 32 * j + 0))) rfl in_6 4 dX2_arriveBy_8 w_644 rfl (by decide) f2 rfl ?_
    refine tw_iload_n 1 dX2_arriveBy_11 rfl rfl ?_
    refine tw_icmp_gt 33 dX2_arriveBy_12 (by decide) (fun c23 => ?_) (fun c23 => ?_)
    · exact tw_vret dX2_arriveBy_33 rfl (Or.inl ⟨rfl, by rw [show tw_arC T g j = g from if_neg (fun z => absurd z.2 (Int32.not_le.mpr c23))]; exact sp0⟩)
    · refine tw_aload_n 0 dX2_arriveBy_15 rfl rfl ?_
      refine tw_aload_n 0 dX2_arriveBy_16 rfl rfl ?_
      refine tw_get (v := .ref q17) rfl in_6 3 dX2_arriveBy_17 w_642 rfl (by decide) f2 rfl ?_
      refine tw_put rfl in_6 tyX2 tyX2_ok nmX2 2 dX2_arriveBy_20 w_640 rfl (by decide) f2 rfl rfl rfl rfl (Nat.le_of_ble_eq_true rfl) [.int (nI j), .ref p_5, .ref q17, .ref q17, .int (g.1 (768 + 32 * j + 0))] rfl ?_
      obtain ⟨h24, eh24⟩ : ∃ z : tw_H, z = tw_up h x (.inr (6, [.int (nI j), .ref p_5, .ref q17, .ref q17, .int (g.1 (768 + 32 * j + 0))])) := ⟨_, rfl⟩
      rw [← eh24]
      have sp25 : tw_sp d τ h (tw_g1 g (768 + 32 * j + 1) (nI i19)) τ h24 := by rw [eh24]; exact sp0.wb kx (by decide) ow13 ⟨_, _, _, (some q17), (some q17), rfl, k8, (fun _ z => by cases z; exact (k10 _ rfl)), (fun _ z => by cases z; exact (k10 _ rfl)), j, ow13, rfl, (tw_g1_ne (by omega)).symm, (tw_pc.ss (by omega) bi22), (pc15.ne (by omega)), lp16⟩ (fun q9 hq9 => tw_g1_ne (by omega)) rfl
      refine tw_aload_n 0 dX2_arriveBy_23 rfl rfl ?_
      refine tw_null dX2_arriveBy_24 ?_
      obtain ⟨e26, f27, n_28, ar_29, p_30, pl_31, go_32, rfl, k33, k34, k35, k36⟩ := sp25.1 x 3 kx (by decide)
      obtain ⟨j37, ow38, fn9, fa9, pc39, pc40, lp41⟩ := k36
      obtain rfl : j = j37 := by have z := ow38.b hb; omega
      subst fn9 fa9
      refine tw_put rfl in_6 tyX2 tyX2_ok nmX2 3 dX2_arriveBy_25 w_642 rfl (by decide) f27 rfl rfl rfl rfl (Nat.le_of_ble_eq_true rfl) [.int (nI j), .ref p_30, va_rf pl_31, .null, .int ((tw_g1 g (768 + 32 * j + 1) (nI i19)).1 (768 + 32 * j + 0))] rfl ?_
      obtain ⟨h42, eh42⟩ : ∃ z : tw_H, z = tw_up h24 x (.inr (6, [.int (nI j), .ref p_30, va_rf pl_31, .null, .int ((tw_g1 g (768 + 32 * j + 1) (nI i19)).1 (768 + 32 * j + 0))])) := ⟨_, rfl⟩
      rw [← eh42]
      have sp43 : tw_sp d τ h (tw_g1 (tw_g1 g (768 + 32 * j + 1) (nI i19)) (768 + 32 * j + 2) (-1)) τ h42 := by rw [eh42]; exact sp25.wb kx (by decide) ow38 ⟨_, _, _, pl_31, none, rfl, k33, k34, (fun _ z => by cases z), j, ow38, rfl, (tw_g1_ne (by omega)).symm, (pc39.ne (by omega)), tw_pc.nn, lp41⟩ (fun q9 hq9 => tw_g1_ne (by omega)) rfl
      refine tw_aload_n 0 dX2_arriveBy_28 rfl rfl ?_
      refine tw_iconst (v := -1) dX2_arriveBy_29 (by decide) ?_
      obtain ⟨e44, f45, n_46, ar_47, p_48, pl_49, go_50, rfl, k51, k52, k53, k54⟩ := sp43.1 x 3 kx (by decide)
      obtain ⟨j55, ow56, fn9, fa9, pc57, pc58, lp59⟩ := k54
      obtain rfl : j = j55 := by have z := ow56.b hb; omega
      subst fn9 fa9
      refine tw_put rfl in_6 tyX2 tyX2_ok nmX2 4 dX2_arriveBy_30 w_644 rfl (by decide) f45 rfl rfl rfl rfl (Nat.le_of_ble_eq_true rfl) [.int (nI j), .ref p_48, va_rf pl_49, va_rf go_50, .int (-1)] rfl ?_
      obtain ⟨h60, eh60⟩ : ∃ z : tw_H, z = tw_up h42 x (.inr (6, [.int (nI j), .ref p_48, va_rf pl_49, va_rf go_50, .int (-1)])) := ⟨_, rfl⟩
      rw [← eh60]
      have sp61 : tw_sp d τ h (tw_g1 (tw_g1 (tw_g1 g (768 + 32 * j + 1) (nI i19)) (768 + 32 * j + 2) (-1)) (768 + 32 * j + 0) (-1)) τ h60 := by rw [eh60]; exact sp43.wb kx (by decide) ow56 ⟨_, _, _, pl_49, go_50, rfl, k51, k52, k53, j, ow56, rfl, tw_g1_eq.symm, (pc57.ne (by omega)), (pc58.ne (by omega)), lp59⟩ (fun q9 hq9 => tw_g1_ne (by omega)) rfl
      exact tw_vret dX2_arriveBy_33 rfl (Or.inl ⟨rfl, by unfold tw_arC; rw [if_pos ⟨by rw [ei21]; exact tw_nm1 (by omega), Int32.not_lt.mp c23⟩, ei21]; exact sp61⟩)

set_option maxHeartbeats 4000000 in
set_option maxRecDepth 100000 in
theorem c4_X5_isWearDay (d : tw_D) (g : tw_G) (τ : tw_K) (h : tw_H) (hw : tw_wt d g τ h) (n : Nat) (hn : n < 2 ^ 31) : tw_Ct d mX5_isWearDay 0 0 [.int (nI n)] h (tw_qi (fun r h1 => h1 = h ∧ (r = 1 ∧ n % 30 = 0 ∨ r = 0 ∧ n % 30 ≠ 0)) tw_nx) := by
  refine tw_of (by decide +kernel) (Nat.le_of_ble_eq_true rfl) ?_
  show tw_W d mX5_isWearDay _ 0 [(0, .int (nI n))] [] h 0 0
  have sp0 := tw_sp.rf hw
  refine tw_iload_n 0 dX5_isWearDay_0 rfl rfl ?_
  refine tw_bipush (v := 30) dX5_isWearDay_1 (by decide) ?_
  refine tw_irem dX5_isWearDay_3 (by decide) ?_
  refine tw_nmi (fun v1 ev1 => ?_)
  refine tw_if_ne 11 dX5_isWearDay_4 (by decide) (fun c2 => ?_) (fun c2 => ?_)
  · refine tw_iconst (v := 0) dX5_isWearDay_11 (by decide) ?_
    exact tw_zret dX5_isWearDay_12 rfl rfl (Or.inl ⟨_, rfl, rfl, Or.inr ⟨rfl, fun z0 => by have m9 : v1 = nI (n % 30) := (by rw [ev1]; exact tw_I_mod (b := 30) hn (by decide) (by decide)); have z := c2; rw [m9, z0] at z; exact z rfl⟩⟩)
  · refine tw_iconst (v := 1) dX5_isWearDay_7 (by decide) ?_
    refine tw_goto 12 dX5_isWearDay_8 (by decide) ?_
    exact tw_zret dX5_isWearDay_12 rfl rfl (Or.inl ⟨_, rfl, rfl, Or.inl ⟨rfl, by have m9 : v1 = nI (n % 30) := (by rw [ev1]; exact tw_I_mod (b := 30) hn (by decide) (by decide)); have z := c2; rw [m9] at z; exact tw_nIj (b := 0) z (by omega) (by decide)⟩⟩)

set_option maxHeartbeats 4000000 in
set_option maxRecDepth 100000 in
theorem c4_X1_dueOn (d : tw_D) (g : tw_G) (τ : tw_K) (h : tw_H) (hw : tw_wt d g τ h) (x : Nat) (kx : τ x = 4) (j : Nat) (hj : j < 10) (hb : g.2 (4096 + x) = 1152 + 8 * j) (T V D : Nat) (eV : g.1 (1152 + 8 * j + 0) = nI V) (eD : g.1 (1152 + 8 * j + 1) = nI D) (hV : V ≤ 9999) (hT : T ≤ 3000) (hD : D ≤ 4000) : tw_Ct d mX1_dueOn 0 0 [.ref x, .int (nI T)] h (tw_qi (fun r h1 => h1 = h ∧ r = nI (tw_due V D T)) tw_nx) := by
  refine tw_of (by decide +kernel) (Nat.le_of_ble_eq_true rfl) ?_
  show tw_W d mX1_dueOn _ 0 [(0, .ref x), (1, .int (nI T))] [] h 0 0
  have sp0 := tw_sp.rf hw
  refine tw_iload_n 1 dX1_dueOn_0 rfl rfl ?_
  refine tw_aload_n 0 dX1_dueOn_1 rfl rfl ?_
  obtain ⟨e1, f2, v_3, dy_4, pd_5, a_6, b_7, rfl, k8, k9, k10, k11⟩ := sp0.1 x 4 kx (by decide)
  obtain ⟨j12, ow13, fv9, fd9, fp9, ⟨i14, hi15, ei16, bi17⟩, i18, hi19, ei20, bi21⟩ := k11
  obtain rfl : j = j12 := by have z := ow13.b hb; omega
  subst fv9 fd9 fp9
  refine tw_get (v := .int (g.1 (1152 + 8 * j + 1))) rfl in_5 3 dX1_dueOn_2 w_725 rfl (by decide) f2 rfl ?_
  refine tw_icmp_le 20 dX1_dueOn_5 (by decide) (fun c22 => ?_) (fun c22 => ?_)
  · refine tw_iconst (v := 0) dX1_dueOn_20 (by decide) ?_
    refine tw_istore_n [(2, .int 0), (0, .ref x), (1, .int (nI T))] dX1_dueOn_21 rfl (by decide) rfl ?_
    refine tw_aload_n 1 dX1_dueOn_22 rfl rfl ?_
    refine tw_get (v := .int (g.1 (1152 + 8 * j + 0))) rfl in_5 2 dX1_dueOn_23 w_723 rfl (by decide) f2 rfl ?_
    refine tw_aload_n 1 dX1_dueOn_26 rfl rfl ?_
    refine tw_get (v := .int (g.1 (1152 + 8 * j + 0))) rfl in_5 2 dX1_dueOn_27 w_723 rfl (by decide) f2 rfl ?_
    refine tw_bipush (v := 100) dX1_dueOn_30 (by decide) ?_
    refine tw_idiv dX1_dueOn_32 (by decide) ?_
    refine tw_nmi (fun v23 ev23 => ?_)
    refine tw_iload_n 0 dX1_dueOn_33 rfl rfl ?_
    refine tw_imul dX1_dueOn_34 ?_
    refine tw_nmi (fun v24 ev24 => ?_)
    refine tw_iadd dX1_dueOn_35 ?_
    refine tw_nmi (fun v25 ev25 => ?_)
    exact tw_iret dX1_dueOn_36 rfl (Or.inl ⟨_, rfl, rfl, by rw [ev25, ev24, ev23]; exact tw_due0 eV eD rfl hT hD c22⟩)
  · refine tw_iload_n 1 dX1_dueOn_8 rfl rfl ?_
    refine tw_aload_n 0 dX1_dueOn_9 rfl rfl ?_
    refine tw_get (v := .int (g.1 (1152 + 8 * j + 1))) rfl in_5 3 dX1_dueOn_10 w_725 rfl (by decide) f2 rfl ?_
    refine tw_isub dX1_dueOn_13 ?_
    refine tw_nmi (fun v26 ev26 => ?_)
    refine tw_bipush (v := 10) dX1_dueOn_14 (by decide) ?_
    refine tw_idiv dX1_dueOn_16 (by decide) ?_
    refine tw_nmi (fun v27 ev27 => ?_)
    refine tw_goto 21 dX1_dueOn_17 (by decide) ?_
    refine tw_istore_n [(2, .int v27), (0, .ref x), (1, .int (nI T))] dX1_dueOn_21 rfl (by decide) rfl ?_
    refine tw_aload_n 1 dX1_dueOn_22 rfl rfl ?_
    refine tw_get (v := .int (g.1 (1152 + 8 * j + 0))) rfl in_5 2 dX1_dueOn_23 w_723 rfl (by decide) f2 rfl ?_
    refine tw_aload_n 1 dX1_dueOn_26 rfl rfl ?_
    refine tw_get (v := .int (g.1 (1152 + 8 * j + 0))) rfl in_5 2 dX1_dueOn_27 w_723 rfl (by decide) f2 rfl ?_
    refine tw_bipush (v := 100) dX1_dueOn_30 (by decide) ?_
    refine tw_idiv dX1_dueOn_32 (by decide) ?_
    refine tw_nmi (fun v28 ev28 => ?_)
    refine tw_iload_n 0 dX1_dueOn_33 rfl rfl ?_
    refine tw_imul dX1_dueOn_34 ?_
    refine tw_nmi (fun v29 ev29 => ?_)
    refine tw_iadd dX1_dueOn_35 ?_
    refine tw_nmi (fun v30 ev30 => ?_)
    exact tw_iret dX1_dueOn_36 rfl (Or.inl ⟨_, rfl, rfl, by rw [ev30, ev29, ev28, ev27, ev26]; exact tw_due1 eV eD rfl hV hT hD (Int32.not_le.mp c22)⟩)

set_option maxHeartbeats 4000000 in
set_option maxRecDepth 100000 in
theorem c4_X0_goldFor (d : tw_D) (g : tw_G) (τ : tw_K) (h : tw_H) (hw : tw_wt d g τ h) (x : Nat) (kx : τ x = 2) (j : Nat) (hj : j < 4) (hb : g.2 (4096 + x) = 160 + 64 * j) (a : Int32) (A R : Nat) (ea : a = nI A) (eR : g.1 (160 + 64 * j) = nI R) (h1R : 100 ≤ R) (h2R : R ≤ 200) (hA : A ≤ 40000) : tw_Ct d mX0_goldFor 0 0 [.ref x, .int a] h (tw_qi (fun r h1 => h1 = h ∧ r = nI (tw_gf A R)) tw_nx) := by
  refine tw_of (by decide +kernel) (Nat.le_of_ble_eq_true rfl) ?_
  show tw_W d mX0_goldFor _ 0 [(0, .ref x), (1, .int a)] [] h 0 0
  have sp0 := tw_sp.rf hw
  refine tw_aload_n 0 dX0_goldFor_0 rfl rfl ?_
  obtain ⟨e1, f2, n_3, r_4, c_5, go_6, so_7, v_8, rd_9, rf_10, t_11, rfl, k12, k13, k14, k15, k16, k17, k18, k19, k20⟩ := sp0.1 x 2 kx (by decide)
  obtain ⟨j21, ow22, fn9, fr9, fc9, fg9, fs9, q23, q24, q25, q26⟩ := k20
  obtain rfl : j = j21 := by have z := ow22.b hb; omega
  subst fn9 fr9 fc9 fg9 fs9
  refine tw_get (v := .int (g.1 (160 + 64 * j))) rfl in_4 1 dX0_goldFor_1 w_503 rfl (by decide) f2 rfl ?_
  refine tw_iconst (v := 1) dX0_goldFor_4 (by decide) ?_
  refine tw_icmp_ge 12 dX0_goldFor_5 (by decide) (fun _ => ?_) (fun c27 => absurd ((by rw [eR]; exact nI_le (a := 1) (by omega) (by omega))) c27)
  refine tw_iload_n 1 dX0_goldFor_12 rfl rfl ?_
  refine tw_i2l dX0_goldFor_13 ?_
  refine tw_nml (fun v28 ev28 => ?_)
  refine tw_ldc2 (v := 10) dX0_goldFor_14 w_307 ?_
  refine tw_lmul dX0_goldFor_17 ?_
  refine tw_nml (fun v29 ev29 => ?_)
  refine tw_aload_n 0 dX0_goldFor_18 rfl rfl ?_
  refine tw_get (v := .int (g.1 (160 + 64 * j))) rfl in_4 1 dX0_goldFor_19 w_503 rfl (by decide) f2 rfl ?_
  refine tw_i2l dX0_goldFor_22 ?_
  refine tw_nml (fun v30 ev30 => ?_)
  refine tw_ladd dX0_goldFor_23 ?_
  refine tw_nml (fun v31 ev31 => ?_)
  refine tw_lconst (v := 1) dX0_goldFor_24 (by decide) ?_
  refine tw_lsub dX0_goldFor_25 ?_
  refine tw_nml (fun v32 ev32 => ?_)
  refine tw_aload_n 0 dX0_goldFor_26 rfl rfl ?_
  refine tw_get (v := .int (g.1 (160 + 64 * j))) rfl in_4 1 dX0_goldFor_27 w_503 rfl (by decide) f2 rfl ?_
  refine tw_i2l dX0_goldFor_30 ?_
  refine tw_nml (fun v33 ev33 => ?_)
  refine tw_ldiv dX0_goldFor_31 (tw_nzl ev33 (by rw [eR]; exact nI_le (a := 1) (by omega) (by omega))) ?_
  refine tw_nml (fun v34 ev34 => ?_)
  refine tw_l2i dX0_goldFor_32 ?_
  refine tw_nmi (fun v35 ev35 => ?_)
  exact tw_iret dX0_goldFor_33 rfl (Or.inl ⟨_, rfl, rfl, by rw [ev35, ev34, ev32, ev31, ev29, ev28, ev30, ev33, ea, eR]; exact tw_gf_i hA h1R h2R⟩)

set_option maxHeartbeats 4000000 in
set_option maxRecDepth 100000 in
theorem c4_X5_payFreight (d : tw_D) (g : tw_G) (τ : tw_K) (h : tw_H) (hw : tw_wt d g τ h) (x : Nat) (kx : τ x = 11) (p : Nat) (kp : τ p = 1) (b : Nat) (hb : g.2 (4096 + p) = b) (k : Nat) (hk : k < 2) (fr : Int32) (A F : Nat) (eA : g.1 (b + k) = nI A) (ef : fr = nI F) (hA : A ≤ 59000000) (hF : F ≤ 100) : tw_Ct d mX5_payFreight 0 0 [.ref x, .ref p, .int (nI k), .int fr] h (tw_qv (fun h1 => tw_sp d τ h (tw_ad (tw_ad g (b + k) (-nI (tw_up3 A F))) (1312 + k) (nI (tw_up3 A F))) τ h1) tw_nx) := by
  refine tw_of (by decide +kernel) (Nat.le_of_ble_eq_true rfl) ?_
  show tw_W d mX5_payFreight _ 0 [(0, .ref x), (1, .ref p), (2, .int (nI k)), (3, .int fr)] [] h 0 0
  have sp0 := tw_sp.rf hw
  refine tw_aload_n 1 dX5_payFreight_0 rfl rfl ?_
  refine tw_iload_n 2 dX5_payFreight_1 rfl rfl ?_
  obtain ⟨e4, f5, a_6, b_7, rfl, k8⟩ := sp0.1 p 1 kp (by decide)
  obtain ⟨b9, ow10, fa9, fb9⟩ := k8
  obtain rfl : b = b9 := (ow10.b hb).symm
  subst fa9 fb9
  refine tw_bi (tw_callVN (M := mX5_payFreight) (pc := 2) okX3_of dX5_payFreight_2 w_189 rfl f5 [.int (nI k)] [] rfl rfl ⟨by decide, by decide⟩ (Nat.le_of_ble_eq_true rfl) (c4_X3_of d g τ h sp0.1 p kp b hb k (by omega)) 0 0 (Nat.le_of_ble_eq_true rfl) (Nat.le_of_ble_eq_true rfl)) (fun r3 h2 q1 => ?_) (fun E h1 q => q.elim)
  obtain ⟨q1e, q1v⟩ := q1
  rw [q1e]
  refine tw_iload_n 3 dX5_payFreight_5 rfl rfl ?_
  refine tw_bi (tw_callS (M := mX5_payFreight) (pc := 6) okX5_thousandthsRoundedUp dX5_payFreight_6 w_317 [.int r3, .int fr] [] rfl rfl ⟨by decide, by decide⟩ (Nat.le_of_ble_eq_true rfl) (c3_X5_thousandthsRoundedUp d g τ h sp0.1 r3 fr A F (q1v.trans eA) ef (by omega) (by omega)) 0 0 (Nat.le_of_ble_eq_true rfl) (Nat.le_of_ble_eq_true rfl)) (fun r13 h12 q11 => ?_) (fun E h1 q => q.elim)
  obtain ⟨q11e, q11v⟩ := q11
  rw [q11e]
  refine tw_istore [(4, .int r13), (0, .ref x), (1, .ref p), (2, .int (nI k)), (3, .int fr)] dX5_payFreight_9 (by decide) rfl ?_
  refine tw_aload_n 2 dX5_payFreight_11 rfl rfl ?_
  refine tw_iload_n 3 dX5_payFreight_12 rfl rfl ?_
  refine tw_iload 0 dX5_payFreight_13 rfl ?_
  refine tw_ineg dX5_payFreight_15 ?_
  refine tw_nmi (fun v14 ev14 => ?_)
  refine tw_bv (tw_callVN (M := mX5_payFreight) (pc := 16) okX3_add dX5_payFreight_16 w_534 rfl f5 [.int (nI k), .int v14] [] rfl rfl ⟨by decide, by decide⟩ (Nat.le_of_ble_eq_true rfl) (c4_X3_add d g τ h sp0.1 p kp b hb k (by omega) v14) 0 0 (Nat.le_of_ble_eq_true rfl) (Nat.le_of_ble_eq_true rfl)) (fun h16 q15 => ?_) (fun E h1 q => q.elim)
  have sp18 := sp0.tr q15
  refine tw_aload_n 1 dX5_payFreight_19 rfl rfl ?_
  obtain ⟨e19, f20, td_21, ca_22, ha_23, da_24, c1_25, c2_26, c3_27, c4_28, rfl, k29, k30, k31, k32, k33, k34, k35, k36, k37, k38, k39, k40, k41, k42, k43, k44, k45⟩ := sp18.1 x 11 kx (by decide)
  refine tw_get (v := .ref c1_25) rfl in_9 8 dX5_payFreight_20 w_148 rfl (by decide) f20 rfl ?_
  refine tw_iload_n 3 dX5_payFreight_23 rfl rfl ?_
  refine tw_iload 0 dX5_payFreight_24 rfl ?_
  obtain ⟨e49, f50, a_51, b_52, rfl, k53⟩ := sp18.1 c1_25 1 k32 (by decide)
  obtain ⟨b54, ow55, fa9, fb9⟩ := k53
  obtain rfl : 1312 = b54 := (ow55.b k42).symm
  subst fa9 fb9
  refine tw_bv (tw_callVN (M := mX5_payFreight) (pc := 26) okX3_add dX5_payFreight_26 w_534 rfl f50 [.int (nI k), .int r13] [] rfl rfl ⟨by decide, by decide⟩ (Nat.le_of_ble_eq_true rfl) (c4_X3_add d (tw_ad g (b + k) v14) τ h16 sp18.1 c1_25 k32 1312 k42 k (by omega) r13) 0 0 (Nat.le_of_ble_eq_true rfl) (Nat.le_of_ble_eq_true rfl)) (fun h47 q46 => ?_) (fun E h1 q => q.elim)
  have sp56 := sp18.tr q46
  exact tw_vret dX5_payFreight_29 rfl (Or.inl ⟨rfl, by have z := sp56; rw [ev14, q11v] at z; exact z⟩)

set_option maxHeartbeats 4000000 in
set_option maxRecDepth 100000 in
theorem c4_X5_wearVaults (d : tw_D) (g : tw_G) (τ : tw_K) (h : tw_H) (hw : tw_wt d g τ h) (x : Nat) (kx : τ x = 11) : tw_Ct d mX5_wearVaults 0 0 [.ref x] h (tw_qv (fun h1 => ∃ τ1, tw_sp d τ h (tw_fd tw_weC g (g.2 6)) τ1 h1) tw_nx) := by
  refine tw_of (by decide +kernel) (Nat.le_of_ble_eq_true rfl) ?_
  show tw_W d mX5_wearVaults _ 0 [(0, .ref x)] [] h 0 0
  have sp0 := tw_sp.rf hw
  have b9 := tw_b678 hw kx
  refine tw_aload_n 0 dX5_wearVaults_0 rfl rfl ?_
  obtain ⟨e1, f2, td_3, ca_4, ha_5, da_6, c1_7, c2_8, c3_9, c4_10, rfl, k11, k12, k13, k14, k15, k16, k17, k18, k19, k20, k21, k22, k23, k24, k25, k26, k27⟩ := sp0.1 x 11 kx (by decide)
  refine tw_get (v := .ref ca_4) rfl in_9 2 dX5_wearVaults_1 w_142 rfl (by decide) f2 rfl ?_
  refine tw_astore_n [(1, .ref ca_4), (0, .ref x)] dX5_wearVaults_4 rfl (by decide) rfl ?_
  refine tw_aload_n 0 dX5_wearVaults_5 rfl rfl ?_
  obtain ⟨e28, f29, F30, rfl, k31, pn32, pb33, px34, pf35⟩ := sp0.1 ca_4 8 k11 (by decide)
  refine tw_alen (v := nI 4) 4 rfl dX5_wearVaults_6 f29 rfl ?_
  refine tw_istore_n [(2, .int (nI 4)), (1, .ref ca_4), (0, .ref x)] dX5_wearVaults_7 rfl (by decide) rfl ?_
  refine tw_iconst (v := 0) dX5_wearVaults_8 (by decide) ?_
  refine tw_istore_n [(3, .int 0), (2, .int (nI 4)), (1, .ref ca_4), (0, .ref x)] dX5_wearVaults_9 rfl (by decide) rfl ?_
  have L39 : ∀ (r37 k36 : Nat) (τ42 : tw_K) (h43 : tw_H) (sp44 : tw_sp d τ h (tw_fd tw_weC g (min k36 (g.2 6))) τ42 h43), 4 + 1 ≤ k36 + r37 → k36 ≤ 4 → tw_W d mX5_wearVaults (tw_qv (fun h1 => ∃ τ1, tw_sp d τ h (tw_fd tw_weC g (g.2 6)) τ1 h1) tw_nx) 10 [(0, .ref x), (1, .ref ca_4), (2, .int (nI 4)), (3, .int (nI k36))] [] h43 0 0 := by
    intro r37
    induction r37 with
    | zero => intro k36 τ42 h43 sp44 hk40 hk41; exact absurd hk40 (by omega)
    | succ r37 ih38 =>
      intro k36 τ42 h43 sp44 hk40 hk41
      obtain ⟨g45, eg45⟩ : ∃ z : tw_G, z = tw_fd tw_weC g (min k36 (g.2 6)) := ⟨_, rfl⟩
      rw [← eg45] at sp44
      have eg46 : g45.2 = g.2 := by rw [eg45]; exact tw_fd_2 (f := tw_weC) (fun _ _ => rfl) _
      refine tw_iload_n 3 dX5_wearVaults_10 rfl rfl ?_
      refine tw_iload_n 2 dX5_wearVaults_11 rfl rfl ?_
      refine tw_icmp_ge 67 dX5_wearVaults_12 (by decide) (fun c47 => ?_) (fun c47 => ?_)
      · exact tw_vret dX5_wearVaults_67 rfl (Or.inl ⟨rfl, _, by rw [show tw_fd tw_weC g (g.2 6) = g45 from by rw [eg45, show min k36 (g.2 6) = g.2 6 by have z := tw_kge (N := 4) c47 (by omega); omega]]; exact (sp0.tr sp44)⟩)
      · refine tw_aload_n 1 dX5_wearVaults_15 rfl rfl ?_
        refine tw_iload_n 3 dX5_wearVaults_16 rfl rfl ?_
        obtain ⟨e48, f49, F50, rfl, k51, pn52, pb53, px54, pf55⟩ := sp44.1 ca_4 8 (sp44.2.1.k k11 (by decide)) (by decide)
        cases k56 : F50 ((nI k36)).toNatClampNeg with
        | none =>
          refine tw_aald (v := .null) 4 rfl rfl dX5_wearVaults_17 f49 (vp_in_nI (by have z := tw_klt (N := 4) c47 hk41 (by decide); omega) (by decide)) (by rw [k56]; rfl) ?_
          refine tw_astoreN [(4, .null), (0, .ref x), (1, .ref ca_4), (2, .int (nI 4)), (3, .int (nI k36))] dX5_wearVaults_18 (by decide) rfl ?_
          have kl9 : k36 < 4 := by have z := tw_klt (N := 4) c47 hk41 (by decide); omega
          have hv9 := k56
          rw [nI_clamp (by omega)] at hv9
          have pn9 := pn52 k36 (by omega)
          rw [eg46] at pn9
          have hk9 : g.2 6 ≤ k36 := pn9.mp hv9
          have mn9 : min (k36 + 1) (g.2 6) = min k36 (g.2 6) := by omega
          refine tw_aloadN 0 dX5_wearVaults_20 rfl ?_
          refine tw_ifnullN 61 dX5_wearVaults_22 (by decide) ?_
          obtain ⟨v58, ev58⟩ : ∃ y : Int32, y = (nI k36) + 1 := ⟨_, rfl⟩
          refine tw_iinc [(3, .int v58), (4, .null), (0, .ref x), (1, .ref ca_4), (2, .int (nI 4))] 4 dX5_wearVaults_61 rfl (by rw [ev58]; rfl) (by decide) rfl ?_
          refine tw_goto 10 dX5_wearVaults_64 (by decide) ?_
          have qv58 := tw_nI3 ev58
          rw [qv58]
          refine tw_lv [2, 3, 4, 0] rfl ?_
          exact ih38 (k36 + 1) _ _ (by rw [mn9, ← eg45]; exact sp44) (by omega) (by omega)
        | some q57 =>
          have k59 := k51 _ _ k56
          refine tw_aald (v := .ref q57) 4 rfl rfl dX5_wearVaults_17 f49 (vp_in_nI (by have z := tw_klt (N := 4) c47 hk41 (by decide); omega) (by decide)) (by rw [k56]; rfl) ?_
          refine tw_astore [(4, .ref q57), (0, .ref x), (1, .ref ca_4), (2, .int (nI 4)), (3, .int (nI k36))] dX5_wearVaults_18 (by decide) rfl ?_
          have kl9 : k36 < 4 := by have z := tw_klt (N := 4) c47 hk41 (by decide); omega
          have hv9 := k56
          rw [nI_clamp (by omega)] at hv9
          have pn9 := pn52 k36 (by omega)
          rw [eg46] at pn9
          have hk9 : k36 < g.2 6 := by rcases Nat.lt_or_ge k36 (g.2 6) with z | z; exact z; rw [pn9.mpr z] at hv9; cases hv9
          have bq9 : g45.2 (4096 + q57) = 160 + 64 * k36 := pf55 _ _ hv9
          have m09 : min k36 (g.2 6) = k36 := by omega
          have m19 : min (k36 + 1) (g.2 6) = k36 + 1 := by omega
          refine tw_aload 0 dX5_wearVaults_20 rfl ?_
          refine tw_ifnull dX5_wearVaults_22 ?_
          refine tw_aload 0 dX5_wearVaults_25 rfl ?_
          obtain ⟨e60, f61, n_62, r_63, c_64, go_65, so_66, v_67, rd_68, rf_69, t_70, rfl, k71, k72, k73, k74, k75, k76, k77, k78, k79⟩ := sp44.1 q57 2 k59 (by decide)
          obtain ⟨j80, ow81, fn9, fr9, fc9, fg9, fs9, q82, q83, q84, q85⟩ := k79
          obtain rfl : k36 = j80 := by have z := ow81.b bq9; omega
          subst fn9 fr9 fc9 fg9 fs9
          refine tw_getN (v := .ref v_67) rfl in_4 3 dX5_wearVaults_27 w_508 rfl (by decide) f61 rfl ?_
          obtain ⟨e86, f87, a_88, b_89, rfl, k90⟩ := sp44.1 v_67 1 k71 (by decide)
          obtain ⟨b91, ow92, fa9, fb9⟩ := k90
          obtain rfl : (160 + 64 * k36 + 24) = b91 := (ow92.b q85).symm
          subst fa9 fb9
          refine tw_getN (v := .int (g45.1 ((160 + 64 * k36 + 24) + 1))) rfl in_7 1 dX5_wearVaults_30 w_134 rfl (by decide) f87 rfl ?_
          refine tw_sipush (v := 10000) dX5_wearVaults_33 (by decide) ?_
          refine tw_idiv dX5_wearVaults_36 (by decide) ?_
          refine tw_nmi (fun v93 ev93 => ?_)
          refine tw_istore [(5, .int v93), (4, .ref q57), (0, .ref x), (1, .ref ca_4), (2, .int (nI 4)), (3, .int (nI k36))] dX5_wearVaults_37 (by decide) rfl ?_
          refine tw_aload 1 dX5_wearVaults_39 rfl ?_
          refine tw_getN (v := .ref v_67) rfl in_4 3 dX5_wearVaults_41 w_508 rfl (by decide) f61 rfl ?_
          refine tw_iconst (v := 1) dX5_wearVaults_44 (by decide) ?_
          refine tw_iload 0 dX5_wearVaults_45 rfl ?_
          refine tw_ineg dX5_wearVaults_47 ?_
          refine tw_nmi (fun v94 ev94 => ?_)
          refine tw_bv (tw_callVN (M := mX5_wearVaults) (pc := 48) okX3_add dX5_wearVaults_48 w_534 rfl f87 [.int 1, .int v94] [] rfl rfl ⟨by decide, by decide⟩ (Nat.le_of_ble_eq_true rfl) (c4_X3_add d g45 τ42 h43 sp44.1 v_67 k71 (160 + 64 * k36 + 24) q85 1 (by omega) v94) 0 0 (Nat.le_of_ble_eq_true rfl) (Nat.le_of_ble_eq_true rfl)) (fun h96 q95 => ?_) (fun E h1 q => q.elim)
          have sp98 := sp44.tr q95
          refine tw_aload_n 2 dX5_wearVaults_51 rfl rfl ?_
          obtain ⟨e99, f100, td_101, ca_102, ha_103, da_104, c1_105, c2_106, c3_107, c4_108, rfl, k109, k110, k111, k112, k113, k114, k115, k116, k117, k118, k119, k120, k121, k122, k123, k124, k125⟩ := sp98.1 x 11 (sp44.2.1.k kx (by decide)) (by decide)
          refine tw_get (v := .ref c3_107) rfl in_9 10 dX5_wearVaults_52 w_150 rfl (by decide) f100 rfl ?_
          refine tw_iconst (v := 1) dX5_wearVaults_55 (by decide) ?_
          refine tw_iload 0 dX5_wearVaults_56 rfl ?_
          obtain ⟨e129, f130, a_131, b_132, rfl, k133⟩ := sp98.1 c3_107 1 k114 (by decide)
          obtain ⟨b134, ow135, fa9, fb9⟩ := k133
          obtain rfl : 1328 = b134 := (ow135.b k124).symm
          subst fa9 fb9
          refine tw_bv (tw_callVN (M := mX5_wearVaults) (pc := 58) okX3_add dX5_wearVaults_58 w_534 rfl f130 [.int 1, .int v93] [] rfl rfl ⟨by decide, by decide⟩ (Nat.le_of_ble_eq_true rfl) (c4_X3_add d (tw_ad g45 ((160 + 64 * k36 + 24) + 1) v94) τ42 h96 sp98.1 c3_107 k114 1328 k124 1 (by omega) v93) 0 0 (Nat.le_of_ble_eq_true rfl) (Nat.le_of_ble_eq_true rfl)) (fun h127 q126 => ?_) (fun E h1 q => q.elim)
          have sp136 := sp98.tr q126
          have we137 : tw_weC g45 k36 = (tw_ad (tw_ad g45 ((160 + 64 * k36 + 24) + 1) v94) (1328 + 1) v93) := by unfold tw_weC; rw [ev94, ev93]
          obtain ⟨v138, ev138⟩ : ∃ y : Int32, y = (nI k36) + 1 := ⟨_, rfl⟩
          refine tw_iinc [(3, .int v138), (5, .int v93), (4, .ref q57), (0, .ref x), (1, .ref ca_4), (2, .int (nI 4))] 5 dX5_wearVaults_61 rfl (by rw [ev138]; rfl) (by decide) rfl ?_
          refine tw_goto 10 dX5_wearVaults_64 (by decide) ?_
          have qv138 := tw_nI3 ev138
          rw [qv138]
          refine tw_lv [3, 4, 5, 0] rfl ?_
          exact ih38 (k36 + 1) _ _ (by rw [m19, show tw_fd tw_weC g (k36 + 1) = tw_weC g45 k36 from by rw [eg45, m09]; rfl, we137]; exact sp136) (by omega) (by omega)
  refine tw_lv [3, 2, 1, 0] rfl ?_
  exact L39 (4 + 1) 0 _ _ (by rw [Nat.zero_min]; exact tw_sp.rf sp0.1) (by omega) (by omega)

set_option maxHeartbeats 4000000 in
set_option maxRecDepth 100000 in
theorem c2_X5_beginDay (d : tw_D) (g : tw_G) (τ : tw_K) (h : tw_H) (hw : tw_wt d g τ h) (x : Nat) (kx : τ x = 11) (hT : g.2 21 < 3000) : tw_Ct d mX5_beginDay 0 0 [.ref x] h (tw_qv (fun h1 => ∃ τ1, tw_sp d τ h (tw_dyC g) τ1 h1) tw_nx) := by
  refine tw_of (by decide +kernel) (Nat.le_of_ble_eq_true rfl) ?_
  show tw_W d mX5_beginDay _ 0 [(0, .ref x)] [] h 0 0
  have sp0 := tw_sp.rf hw
  have b9 := tw_b678 hw kx
  refine tw_aload_n 0 dX5_beginDay_0 rfl rfl ?_
  refine tw_dup dX5_beginDay_1 rfl ?_
  obtain ⟨e1, f2, td_3, ca_4, ha_5, da_6, c1_7, c2_8, c3_9, c4_10, rfl, k11, k12, k13, k14, k15, k16, k17, k18, k19, k20, k21, k22, k23, k24, k25, k26, k27⟩ := sp0.1 x 11 kx (by decide)
  refine tw_get (v := .int td_3) rfl in_9 0 dX5_beginDay_2 w_140 rfl (by decide) f2 rfl ?_
  refine tw_iconst (v := 1) dX5_beginDay_5 (by decide) ?_
  refine tw_iadd dX5_beginDay_6 ?_
  refine tw_nmi (fun v28 ev28 => ?_)
  obtain ⟨gB, egB⟩ : ∃ z : tw_G, z = tw_g2 g 21 (g.2 21 + 1) := ⟨_, rfl⟩
  have gb7 : gB.2 7 = g.2 7 := by rw [egB]; rfl
  have gb6 : gB.2 6 = g.2 6 := by rw [egB]; rfl
  have gbT : gB.2 21 = g.2 21 + 1 := by rw [egB]; rfl
  have q29 : v28 = nI (gB.2 21) := by rw [ev28, k22, nI_1, egB]; rfl
  subst q29
  refine tw_put rfl in_9 tyX5 tyX5_ok nmX5 0 dX5_beginDay_7 w_140 rfl (by decide) f2 rfl rfl rfl rfl (Nat.le_of_ble_eq_true rfl) [.int (nI (gB.2 21)), .int (g.1 0), .ref ca_4, .int (nI (g.2 0)), .ref ha_5, .int (nI (g.2 1)), .ref da_6, .int (nI (g.2 2)), .ref c1_7, .ref c2_8, .ref c3_9, .ref c4_10] rfl ?_
  obtain ⟨h30, eh30⟩ : ∃ z : tw_H, z = tw_up h x (.inr (9, [.int (nI (gB.2 21)), .int (g.1 0), .ref ca_4, .int (nI (g.2 0)), .ref ha_5, .int (nI (g.2 1)), .ref da_6, .int (nI (g.2 2)), .ref c1_7, .ref c2_8, .ref c3_9, .ref c4_10])) := ⟨_, rfl⟩
  rw [← eh30]
  have sp31 : tw_sp d τ h gB τ h30 := by rw [eh30]; exact sp0.g11 kx ⟨(nI (gB.2 21)), ca_4, ha_5, da_6, c1_7, c2_8, c3_9, c4_10, (by rw [egB]; rfl), k11, k12, k13, k14, k15, k16, k17, (by rw [egB]; exact k18), (by rw [egB]; exact k19), (by rw [egB]; exact k20), (by rw [egB]; exact k21), rfl, (by rw [egB]; exact (show g.2 21 + 1 ≤ 3000 by omega)), (by rw [egB]; exact (tw_g2_ne (by omega)).trans k24), (by rw [egB]; exact (tw_g2_ne (by omega)).trans k25), (by rw [egB]; exact (tw_g2_ne (by omega)).trans k26), (by rw [egB]; exact (tw_g2_ne (by omega)).trans k27)⟩ (by rw [egB]; intro i hi; rfl) (by rw [egB]; intro i hi hj; exact if_neg (by omega))
  refine tw_aload_n 0 dX5_beginDay_10 rfl rfl ?_
  obtain ⟨e32, f33, td_34, ca_35, ha_36, da_37, c1_38, c2_39, c3_40, c4_41, rfl, k42, k43, k44, k45, k46, k47, k48, k49, k50, k51, k52, k53, k54, k55, k56, k57, k58⟩ := sp31.1 x 11 kx (by decide)
  refine tw_get (v := .ref ha_36) rfl in_9 4 dX5_beginDay_11 w_144 rfl (by decide) f33 rfl ?_
  refine tw_astore_n [(1, .ref ha_36), (0, .ref x)] dX5_beginDay_14 rfl (by decide) rfl ?_
  refine tw_aload_n 0 dX5_beginDay_15 rfl rfl ?_
  obtain ⟨e59, f60, F61, rfl, k62, pn63, pb64, px65, pf66⟩ := sp31.1 ha_36 9 k43 (by decide)
  refine tw_alen (v := nI 6) 5 rfl dX5_beginDay_16 f60 rfl ?_
  refine tw_istore_n [(2, .int (nI 6)), (1, .ref ha_36), (0, .ref x)] dX5_beginDay_17 rfl (by decide) rfl ?_
  refine tw_iconst (v := 0) dX5_beginDay_18 (by decide) ?_
  refine tw_istore_n [(3, .int 0), (2, .int (nI 6)), (1, .ref ha_36), (0, .ref x)] dX5_beginDay_19 rfl (by decide) rfl ?_
  have L70 : ∀ (r68 k67 : Nat) (τ73 : tw_K) (h74 : tw_H) (sp75 : tw_sp d τ h30 (tw_fd (tw_arC (g.2 21 + 1)) gB (min k67 (g.2 7))) τ73 h74), 6 + 1 ≤ k67 + r68 → k67 ≤ 6 → tw_W d mX5_beginDay (tw_qv (fun h1 => ∃ τ1, tw_sp d τ h (tw_dyC g) τ1 h1) tw_nx) 20 [(0, .ref x), (1, .ref ha_36), (2, .int (nI 6)), (3, .int (nI k67))] [] h74 0 0 := by
    intro r68
    induction r68 with
    | zero => intro k67 τ73 h74 sp75 hk71 hk72; exact absurd hk71 (by omega)
    | succ r68 ih69 =>
      intro k67 τ73 h74 sp75 hk71 hk72
      obtain ⟨g76, eg76⟩ : ∃ z : tw_G, z = tw_fd (tw_arC (g.2 21 + 1)) gB (min k67 (g.2 7)) := ⟨_, rfl⟩
      rw [← eg76] at sp75
      have eg77 : g76.2 = gB.2 := by rw [eg76]; exact tw_fd_2 tw_arC_2 _
      refine tw_iload_n 3 dX5_beginDay_20 rfl rfl ?_
      refine tw_iload_n 2 dX5_beginDay_21 rfl rfl ?_
      refine tw_icmp_ge 50 dX5_beginDay_22 (by decide) (fun c78 => ?_) (fun c78 => ?_)
      · refine tw_aload_n 0 dX5_beginDay_50 rfl rfl ?_
        obtain ⟨e79, f80, td_81, ca_82, ha_83, da_84, c1_85, c2_86, c3_87, c4_88, rfl, k89, k90, k91, k92, k93, k94, k95, k96, k97, k98, k99, k100, k101, k102, k103, k104, k105⟩ := sp75.1 x 11 (sp75.2.1.k kx (by decide)) (by decide)
        refine tw_get (v := .int td_81) rfl in_9 0 dX5_beginDay_51 w_140 rfl (by decide) f80 rfl ?_
        have ek9 : g76 = tw_fd (tw_arC (g.2 21 + 1)) gB (g.2 7) := by rw [eg76, show min k67 (g.2 7) = g.2 7 by have z := tw_kge (N := 6) c78 (by omega); omega]
        have td9 : g76.2 21 = g.2 21 + 1 := by rw [eg77]; exact gbT
        have tv9 : td_81 = nI (g.2 21 + 1) := by rw [k100, td9]
        rw [tv9]
        refine tw_bi (tw_callS (M := mX5_beginDay) (pc := 54) okX5_isWearDay dX5_beginDay_54 w_325 [.int (nI (g.2 21 + 1))] [] rfl rfl ⟨by decide, by decide⟩ (Nat.le_of_ble_eq_true rfl) (c4_X5_isWearDay d g76 τ73 h74 sp75.1 (g.2 21 + 1) (by omega)) 0 0 (Nat.le_of_ble_eq_true rfl) (Nat.le_of_ble_eq_true rfl)) (fun r108 h107 q106 => ?_) (fun E h1 q => q.elim)
        obtain ⟨q106e, q106d⟩ := q106
        rw [q106e]
        rcases q106d with ⟨q106r, wd9⟩ | ⟨q106r, wd9⟩
        · rw [q106r]
          refine tw_if_eq 64 dX5_beginDay_57 (by decide) (fun c109 => absurd c109 (by decide)) (fun _ => ?_)
          refine tw_aload_n 0 dX5_beginDay_60 rfl rfl ?_
          refine tw_bv (tw_callV (M := mX5_beginDay) (pc := 61) okX5_wearVaults dX5_beginDay_61 w_703 rfl f80 [] [] rfl rfl ⟨by decide, by decide⟩ (Nat.le_of_ble_eq_true rfl) (c4_X5_wearVaults d g76 τ73 h74 sp75.1 x (sp75.2.1.k kx (by decide))) 0 0 (Nat.le_of_ble_eq_true rfl) (Nat.le_of_ble_eq_true rfl)) (fun h111 q110 => ?_) (fun E h1 q => q.elim)
          obtain ⟨τ113, q110s⟩ := q110
          have sp114 := sp75.tr q110s
          exact tw_vret dX5_beginDay_64 rfl (Or.inl ⟨rfl, _, by unfold tw_dyC; rw [if_pos wd9, ← egB, ← ek9, show g.2 6 = g76.2 6 from by rw [eg77, gb6]]; exact (sp31.tr sp114)⟩)
        · rw [q106r]
          refine tw_if_eq 64 dX5_beginDay_57 (by decide) (fun _ => ?_) (fun c115 => absurd (by decide) c115)
          exact tw_vret dX5_beginDay_64 rfl (Or.inl ⟨rfl, _, by unfold tw_dyC; rw [if_neg wd9, ← egB, ← ek9]; exact (sp31.tr sp75)⟩)
      · refine tw_aload_n 1 dX5_beginDay_25 rfl rfl ?_
        refine tw_iload_n 3 dX5_beginDay_26 rfl rfl ?_
        obtain ⟨e116, f117, F118, rfl, k119, pn120, pb121, px122, pf123⟩ := sp75.1 ha_36 9 (sp75.2.1.k k43 (by decide)) (by decide)
        cases k124 : F118 ((nI k67)).toNatClampNeg with
        | none =>
          refine tw_aald (v := .null) 5 rfl rfl dX5_beginDay_27 f117 (vp_in_nI (by have z := tw_klt (N := 6) c78 hk72 (by decide); omega) (by decide)) (by rw [k124]; rfl) ?_
          refine tw_astoreN [(4, .null), (0, .ref x), (1, .ref ha_36), (2, .int (nI 6)), (3, .int (nI k67))] dX5_beginDay_28 (by decide) rfl ?_
          have kl9 : k67 < 6 := by have z := tw_klt (N := 6) c78 hk72 (by decide); omega
          have hv9 := k124
          rw [nI_clamp (by omega)] at hv9
          have pn9 := pn120 k67 (by omega)
          rw [eg77, gb7] at pn9
          have hk9 : g.2 7 ≤ k67 := pn9.mp hv9
          have mn9 : min (k67 + 1) (g.2 7) = min k67 (g.2 7) := by omega
          refine tw_aloadN 0 dX5_beginDay_30 rfl ?_
          refine tw_ifnullN 44 dX5_beginDay_32 (by decide) ?_
          obtain ⟨v126, ev126⟩ : ∃ y : Int32, y = (nI k67) + 1 := ⟨_, rfl⟩
          refine tw_iinc [(3, .int v126), (4, .null), (0, .ref x), (1, .ref ha_36), (2, .int (nI 6))] 4 dX5_beginDay_44 rfl (by rw [ev126]; rfl) (by decide) rfl ?_
          refine tw_goto 20 dX5_beginDay_47 (by decide) ?_
          have qv126 := tw_nI3 ev126
          rw [qv126]
          refine tw_lv [2, 3, 4, 0] rfl ?_
          exact ih69 (k67 + 1) _ _ (by rw [mn9, ← eg76]; exact sp75) (by omega) (by omega)
        | some q125 =>
          have k127 := k119 _ _ k124
          refine tw_aald (v := .ref q125) 5 rfl rfl dX5_beginDay_27 f117 (vp_in_nI (by have z := tw_klt (N := 6) c78 hk72 (by decide); omega) (by decide)) (by rw [k124]; rfl) ?_
          refine tw_astore [(4, .ref q125), (0, .ref x), (1, .ref ha_36), (2, .int (nI 6)), (3, .int (nI k67))] dX5_beginDay_28 (by decide) rfl ?_
          have kl9 : k67 < 6 := by have z := tw_klt (N := 6) c78 hk72 (by decide); omega
          have hv9 := k124
          rw [nI_clamp (by omega)] at hv9
          have pn9 := pn120 k67 (by omega)
          rw [eg77, gb7] at pn9
          have hk9 : k67 < g.2 7 := by rcases Nat.lt_or_ge k67 (g.2 7) with z | z; exact z; rw [pn9.mpr z] at hv9; cases hv9
          have bq9 : g76.2 (4096 + q125) = 768 + 32 * k67 := pf123 _ _ hv9
          have m09 : min k67 (g.2 7) = k67 := by omega
          have m19 : min (k67 + 1) (g.2 7) = k67 + 1 := by omega
          refine tw_aload 0 dX5_beginDay_30 rfl ?_
          refine tw_ifnull dX5_beginDay_32 ?_
          refine tw_aload 0 dX5_beginDay_35 rfl ?_
          refine tw_aload_n 1 dX5_beginDay_37 rfl rfl ?_
          obtain ⟨e128, f129, td_130, ca_131, ha_132, da_133, c1_134, c2_135, c3_136, c4_137, rfl, k138, k139, k140, k141, k142, k143, k144, k145, k146, k147, k148, k149, k150, k151, k152, k153, k154⟩ := sp75.1 x 11 (sp75.2.1.k kx (by decide)) (by decide)
          refine tw_get (v := .int td_130) rfl in_9 0 dX5_beginDay_38 w_140 rfl (by decide) f129 rfl ?_
          have td9 : g76.2 21 = g.2 21 + 1 := by rw [eg77]; exact gbT
          have tv9 : td_130 = nI (g.2 21 + 1) := by rw [k149, td9]
          rw [tv9]
          obtain ⟨e158, f159, n_160, ar_161, p_162, pl_163, go_164, rfl, k165, k166, k167, k168⟩ := sp75.1 q125 3 k127 (by decide)
          obtain ⟨j169, ow170, fn9, fa9, pc171, pc172, lp173⟩ := k168
          obtain rfl : k67 = j169 := by have z := ow170.b bq9; omega
          subst fn9 fa9
          refine tw_bv (tw_callVN (M := mX5_beginDay) (pc := 41) okX2_arriveBy dX5_beginDay_41 w_699 rfl f159 [.int (nI (g.2 21 + 1))] [] rfl rfl ⟨by decide, by decide⟩ (Nat.le_of_ble_eq_true rfl) (c4_X2_arriveBy d g76 τ73 h74 sp75.1 q125 k127 k67 (by omega) bq9 (g.2 21 + 1)) 0 0 (Nat.le_of_ble_eq_true rfl) (Nat.le_of_ble_eq_true rfl)) (fun h156 q155 => ?_) (fun E h1 q => q.elim)
          have sp174 := sp75.tr q155
          obtain ⟨v175, ev175⟩ : ∃ y : Int32, y = (nI k67) + 1 := ⟨_, rfl⟩
          refine tw_iinc [(3, .int v175), (4, .ref q125), (0, .ref x), (1, .ref ha_36), (2, .int (nI 6))] 4 dX5_beginDay_44 rfl (by rw [ev175]; rfl) (by decide) rfl ?_
          refine tw_goto 20 dX5_beginDay_47 (by decide) ?_
          have qv175 := tw_nI3 ev175
          rw [qv175]
          refine tw_lv [2, 3, 4, 0] rfl ?_
          exact ih69 (k67 + 1) _ _ (by rw [m19, show tw_fd (tw_arC (g.2 21 + 1)) gB (k67 + 1) = tw_arC (g.2 21 + 1) g76 k67 from by rw [eg76, m09]; rfl]; exact sp174) (by omega) (by omega)
  refine tw_lv [3, 2, 1, 0] rfl ?_
  exact L70 (6 + 1) 0 _ _ (by rw [Nat.zero_min]; exact tw_sp.rf sp31.1) (by omega) (by omega)

set_option maxHeartbeats 4000000 in
set_option maxRecDepth 100000 in
theorem c2_X5_mine (d : tw_D) (g : tw_G) (τ : tw_K) (h : tw_H) (hw : tw_wt d g τ h) (x : Nat) (kx : τ x = 11) (a : Int32) (m : Int32) (gr : Int32) : tw_Ct d mX5_mine 20 120 [.ref x, .int a, .int m, .int gr] h (tw_qi (fun r9 h1 => r9 = g.1 (160 + 64 * tw_DN a + 24 + tw_DN m) + gr ∧ (tw_ix (g.2 6) a) ∧ (tw_RG1 m gr) ∧ (g.1 (160 + 64 * tw_DN a + 24 + tw_DN m) ≤ 999999 - gr) ∧ ∃ τ1, tw_sp d τ h (tw_ad (tw_ad g (160 + 64 * tw_DN a + 24 + tw_DN m) gr) (1336 + tw_DN m) gr) τ1 h1) (fun E h1 => (E = tw_IOE ∧ ¬ (tw_ix (g.2 6) a) ∨ E = tw_IAE ∧ tw_ix (g.2 6) a ∧ ¬ (tw_RG1 m gr) ∨ E = tw_ISE ∧ tw_ix (g.2 6) a ∧ tw_RG1 m gr ∧ ¬ (g.1 (160 + 64 * tw_DN a + 24 + tw_DN m) ≤ 999999 - gr)) ∧ ∃ τ1, tw_sp d τ h g τ1 h1)) := by
  refine tw_of (by decide +kernel) (Nat.le_of_ble_eq_true rfl) ?_
  show tw_W d mX5_mine _ 0 [(0, .ref x), (1, .int a), (2, .int m), (3, .int gr)] [] h 20 120
  have sp0 := tw_sp.rf hw
  obtain ⟨b96, b97, b98⟩ := tw_b678 hw kx
  refine tw_aload_n 0 dX5_mine_0 rfl rfl ?_
  refine tw_iload_n 1 dX5_mine_1 rfl rfl ?_
  obtain ⟨e4, f5, td_6, ca_7, ha_8, da_9, c1_10, c2_11, c3_12, c4_13, rfl, k14, k15, k16, k17, k18, k19, k20, k21, k22, k23, k24, k25, k26, k27, k28, k29, k30⟩ := sp0.1 x 11 kx (by decide)
  refine tw_br (tw_callV (M := mX5_mine) (pc := 2) okX5_countryAt dX5_mine_2 w_546 rfl f5 [.int a] [] rfl rfl ⟨by decide, by decide⟩ (Nat.le_of_ble_eq_true rfl) (c3_X5_countryAt d g τ h sp0.1 x kx a) 19 114 (Nat.le_of_ble_eq_true rfl) (Nat.le_of_ble_eq_true rfl)) (fun r3 h2 q1 => ?_) (fun E h1 q1 => Or.inr ⟨E, rfl, (Or.inl ⟨q1.1, q1.2.2⟩), τ, by rw [q1.2.1]; exact sp0⟩)
  obtain ⟨q1e, q1k, ja, hja, q1n, q1b⟩ := q1
  rw [q1e]
  subst q1n
  have cDa : tw_DN (nI ja) = ja := nI_clamp (by omega)
  have ixa : tw_ix (g.2 6) (nI ja) := ⟨ja, hja, rfl⟩
  have ix0 := ixa
  obtain ⟨e31, f32, n_33, r_34, c_35, go_36, so_37, v_38, rd_39, rf_40, t_41, rfl, k42, k43, k44, k45, k46, k47, k48, k49, k50⟩ := sp0.1 r3 2 q1k (by decide)
  obtain ⟨j51, ow52, fn9, fr9, fc9, fg9, fs9, q53, q54, q55, q56⟩ := k50
  obtain rfl : ja = j51 := by have z := ow52.b q1b; omega
  subst fn9 fr9 fc9 fg9 fs9
  refine tw_getN (v := .ref v_38) rfl in_4 3 dX5_mine_5 w_508 rfl (by decide) f32 rfl ?_
  refine tw_astore [(4, .ref v_38), (0, .ref x), (1, .int (nI ja)), (2, .int m), (3, .int gr)] dX5_mine_8 (by decide) rfl ?_
  refine tw_iload_n 3 dX5_mine_10 rfl rfl ?_
  refine tw_bv (tw_callS (M := mX5_mine) (pc := 11) okX5_needMetal dX5_mine_11 w_573 [.int m] [] rfl rfl ⟨by decide, by decide⟩ (Nat.le_of_ble_eq_true rfl) (c2_X5_needMetal d g τ h sp0.1 m) 18 108 (Nat.le_of_ble_eq_true rfl) (Nat.le_of_ble_eq_true rfl)) (fun h58 q57 => ?_) (fun E h1 q57 => Or.inr ⟨E, rfl, (Or.inr (Or.inl ⟨q57.1, ix0, fun z => q57.2.2 z.1⟩)), τ, by rw [q57.2.1]; exact sp0⟩)
  obtain ⟨q57e, rcm⟩ := q57
  rw [q57e]
  have rcm0 := rcm
  obtain ⟨k, hk, km⟩ := rcm.k
  subst km
  have cDm : tw_DN (nI k) = k := nI_clamp (by omega)
  refine tw_iload_n 4 dX5_mine_14 rfl rfl ?_
  refine tw_iconst (v := 1) dX5_mine_15 (by decide) ?_
  refine tw_ldc (v := 99999) dX5_mine_16 w_470 ?_
  refine tw_bv (tw_callS (M := mX5_mine) (pc := 18) okX5_needRange dX5_mine_18 w_399 [.int gr, .int 1, .int 99999] [] rfl rfl ⟨by decide, by decide⟩ (Nat.le_of_ble_eq_true rfl) (c2_X5_needRange d g τ h sp0.1 gr 1 99999) 17 102 (Nat.le_of_ble_eq_true rfl) (Nat.le_of_ble_eq_true rfl)) (fun h61 q60 => ?_) (fun E h1 q60 => Or.inr ⟨E, rfl, (Or.inr (Or.inl ⟨q60.1, ix0, fun z => q60.2.2 z.2⟩)), τ, by rw [q60.2.1]; exact sp0⟩)
  obtain ⟨q60e, rlgr⟩ := q60
  rw [q60e]
  have rc0 : tw_RG1 (nI k) gr := ⟨rcm0, rlgr⟩
  obtain ⟨n9, hn1, hn, en⟩ := tw_gr1 rlgr
  subst en
  have cDgr : tw_DN (nI n9) = n9 := nI_clamp (by omega)
  refine tw_aload 0 dX5_mine_21 rfl ?_
  refine tw_iload_n 3 dX5_mine_23 rfl rfl ?_
  obtain ⟨e69, f70, a_71, b_72, rfl, k73⟩ := sp0.1 v_38 1 k42 (by decide)
  obtain ⟨b74, ow75, fa9, fb9⟩ := k73
  obtain rfl : (160 + 64 * ja + 24) = b74 := (ow75.b q56).symm
  subst fa9 fb9
  refine tw_bi (tw_callVN (M := mX5_mine) (pc := 24) okX3_of dX5_mine_24 w_189 rfl f70 [.int (nI k)] [] rfl rfl ⟨by decide, by decide⟩ (Nat.le_of_ble_eq_true rfl) (c4_X3_of d g τ h sp0.1 v_38 k42 (160 + 64 * ja + 24) q56 k (by omega)) 17 102 (Nat.le_of_ble_eq_true rfl) (Nat.le_of_ble_eq_true rfl)) (fun r68 h67 q66 => ?_) (fun E h1 q => q.elim)
  obtain ⟨q66e, q66v⟩ := q66
  rw [q66e]
  refine tw_ldc (v := 999999) dX5_mine_27 w_614 ?_
  refine tw_iload_n 4 dX5_mine_29 rfl rfl ?_
  refine tw_isub dX5_mine_30 ?_
  refine tw_nmi (fun v76 ev76 => ?_)
  refine tw_icmp_le 44 dX5_mine_31 (by decide) (fun c77 => ?_) (fun c77 => ?_)
  · have lc9 : (g.1 (160 + 64 * ja + 24 + k) ≤ 999999 - nI n9) := by rw [← q66v, ← ev76]; exact c77
    refine tw_aload 0 dX5_mine_44 rfl ?_
    refine tw_iload_n 3 dX5_mine_46 rfl rfl ?_
    refine tw_iload_n 4 dX5_mine_47 rfl rfl ?_
    refine tw_bv (tw_callVN (M := mX5_mine) (pc := 48) okX3_add dX5_mine_48 w_534 rfl f70 [.int (nI k), .int (nI n9)] [] rfl rfl ⟨by decide, by decide⟩ (Nat.le_of_ble_eq_true rfl) (c4_X3_add d g τ h sp0.1 v_38 k42 (160 + 64 * ja + 24) q56 k (by omega) (nI n9)) 17 102 (Nat.le_of_ble_eq_true rfl) (Nat.le_of_ble_eq_true rfl)) (fun h82 q81 => ?_) (fun E h1 q => q.elim)
    have sp84 := sp0.tr q81
    refine tw_aload_n 1 dX5_mine_51 rfl rfl ?_
    obtain ⟨e85, f86, td_87, ca_88, ha_89, da_90, c1_91, c2_92, c3_93, c4_94, rfl, k95, k96, k97, k98, k99, k100, k101, k102, k103, k104, k105, k106, k107, k108, k109, k110, k111⟩ := sp84.1 x 11 kx (by decide)
    refine tw_get (v := .ref c4_94) rfl in_9 11 dX5_mine_52 w_151 rfl (by decide) f86 rfl ?_
    refine tw_iload_n 3 dX5_mine_55 rfl rfl ?_
    refine tw_iload_n 4 dX5_mine_56 rfl rfl ?_
    obtain ⟨e118, f119, a_120, b_121, rfl, k122⟩ := sp84.1 c4_94 1 k101 (by decide)
    obtain ⟨b123, ow124, fa9, fb9⟩ := k122
    obtain rfl : 1336 = b123 := (ow124.b k111).symm
    subst fa9 fb9
    refine tw_bv (tw_callVN (M := mX5_mine) (pc := 57) okX3_add dX5_mine_57 w_534 rfl f119 [.int (nI k), .int (nI n9)] [] rfl rfl ⟨by decide, by decide⟩ (Nat.le_of_ble_eq_true rfl) (c4_X3_add d (tw_ad g ((160 + 64 * ja + 24) + k) (nI n9)) τ h82 sp84.1 c4_94 k101 1336 k111 k (by omega) (nI n9)) 17 102 (Nat.le_of_ble_eq_true rfl) (Nat.le_of_ble_eq_true rfl)) (fun h116 q115 => ?_) (fun E h1 q => q.elim)
    have sp125 := sp84.tr q115
    refine tw_aload 0 dX5_mine_60 rfl ?_
    refine tw_iload_n 3 dX5_mine_62 rfl rfl ?_
    obtain ⟨e132, f133, a_134, b_135, rfl, k136⟩ := sp125.1 v_38 1 k42 (by decide)
    obtain ⟨b137, ow138, fa9, fb9⟩ := k136
    obtain rfl : (160 + 64 * ja + 24) = b137 := (ow138.b q56).symm
    subst fa9 fb9
    refine tw_bi (tw_callVN (M := mX5_mine) (pc := 63) okX3_of dX5_mine_63 w_189 rfl f133 [.int (nI k)] [] rfl rfl ⟨by decide, by decide⟩ (Nat.le_of_ble_eq_true rfl) (c4_X3_of d (tw_ad (tw_ad g ((160 + 64 * ja + 24) + k) (nI n9)) (1336 + k) (nI n9)) τ h116 sp125.1 v_38 k42 (160 + 64 * ja + 24) q56 k (by omega)) 17 102 (Nat.le_of_ble_eq_true rfl) (Nat.le_of_ble_eq_true rfl)) (fun r131 h130 q129 => ?_) (fun E h1 q => q.elim)
    obtain ⟨q129e, q129v⟩ := q129
    rw [q129e]
    exact tw_iret dX5_mine_66 rfl (Or.inl ⟨_, rfl, (by (try rw [cDa]); (try rw [cDm]); (try rw [cDgr]); first | done | exact (by rw [q129v, tw_ad_ne (by omega), tw_ad_eq])), ix0, rc0, (by (try rw [cDa]); (try rw [cDm]); (try rw [cDgr]); first | done | exact lc9), _, (by (try rw [cDa]); (try rw [cDm]); (try rw [cDgr]); first | done | exact sp125)⟩)
  · have lc9 : ¬ (g.1 (160 + 64 * ja + 24 + k) ≤ 999999 - nI n9) := by rw [← q66v, ← ev76]; exact c77
    exact tw_throwS (i := 5) (by decide +kernel) w_471 w_88 rfl at_ISE dX5_mine_34 dX5_mine_37 dX5_mine_38 dX5_mine_40 dX5_mine_43 ⟨by decide, Nat.le_of_ble_eq_true rfl⟩ (Nat.le_of_ble_eq_true rfl) (Nat.le_of_ble_eq_true rfl) (Or.inr ⟨_, rfl, (Or.inr (Or.inr (⟨rfl, ix0, rc0, (by (try rw [cDa]); (try rw [cDm]); (try rw [cDgr]); first | done | exact lc9)⟩))), _, sp0⟩)

set_option maxHeartbeats 4000000 in
set_option maxRecDepth 100000 in
theorem c2_X5_use (d : tw_D) (g : tw_G) (τ : tw_K) (h : tw_H) (hw : tw_wt d g τ h) (x : Nat) (kx : τ x = 11) (a : Int32) (m : Int32) (gr : Int32) : tw_Ct d mX5_use 20 120 [.ref x, .int a, .int m, .int gr] h (tw_qi (fun r9 h1 => r9 = g.1 (160 + 64 * tw_DN a + 24 + tw_DN m) + (-gr) ∧ (tw_ix (g.2 6) a) ∧ (tw_RG1 m gr) ∧ (gr ≤ g.1 (160 + 64 * tw_DN a + 24 + tw_DN m)) ∧ ∃ τ1, tw_sp d τ h (tw_ad (tw_ad g (160 + 64 * tw_DN a + 24 + tw_DN m) (-gr)) (1320 + tw_DN m) gr) τ1 h1) (fun E h1 => (E = tw_IOE ∧ ¬ (tw_ix (g.2 6) a) ∨ E = tw_IAE ∧ tw_ix (g.2 6) a ∧ ¬ (tw_RG1 m gr) ∨ E = tw_ISE ∧ tw_ix (g.2 6) a ∧ tw_RG1 m gr ∧ ¬ (gr ≤ g.1 (160 + 64 * tw_DN a + 24 + tw_DN m))) ∧ ∃ τ1, tw_sp d τ h g τ1 h1)) := by
  refine tw_of (by decide +kernel) (Nat.le_of_ble_eq_true rfl) ?_
  show tw_W d mX5_use _ 0 [(0, .ref x), (1, .int a), (2, .int m), (3, .int gr)] [] h 20 120
  have sp0 := tw_sp.rf hw
  obtain ⟨b96, b97, b98⟩ := tw_b678 hw kx
  refine tw_aload_n 0 dX5_use_0 rfl rfl ?_
  refine tw_iload_n 1 dX5_use_1 rfl rfl ?_
  obtain ⟨e4, f5, td_6, ca_7, ha_8, da_9, c1_10, c2_11, c3_12, c4_13, rfl, k14, k15, k16, k17, k18, k19, k20, k21, k22, k23, k24, k25, k26, k27, k28, k29, k30⟩ := sp0.1 x 11 kx (by decide)
  refine tw_br (tw_callV (M := mX5_use) (pc := 2) okX5_countryAt dX5_use_2 w_546 rfl f5 [.int a] [] rfl rfl ⟨by decide, by decide⟩ (Nat.le_of_ble_eq_true rfl) (c3_X5_countryAt d g τ h sp0.1 x kx a) 19 114 (Nat.le_of_ble_eq_true rfl) (Nat.le_of_ble_eq_true rfl)) (fun r3 h2 q1 => ?_) (fun E h1 q1 => Or.inr ⟨E, rfl, (Or.inl ⟨q1.1, q1.2.2⟩), τ, by rw [q1.2.1]; exact sp0⟩)
  obtain ⟨q1e, q1k, ja, hja, q1n, q1b⟩ := q1
  rw [q1e]
  subst q1n
  have cDa : tw_DN (nI ja) = ja := nI_clamp (by omega)
  have ixa : tw_ix (g.2 6) (nI ja) := ⟨ja, hja, rfl⟩
  have ix0 := ixa
  obtain ⟨e31, f32, n_33, r_34, c_35, go_36, so_37, v_38, rd_39, rf_40, t_41, rfl, k42, k43, k44, k45, k46, k47, k48, k49, k50⟩ := sp0.1 r3 2 q1k (by decide)
  obtain ⟨j51, ow52, fn9, fr9, fc9, fg9, fs9, q53, q54, q55, q56⟩ := k50
  obtain rfl : ja = j51 := by have z := ow52.b q1b; omega
  subst fn9 fr9 fc9 fg9 fs9
  refine tw_getN (v := .ref v_38) rfl in_4 3 dX5_use_5 w_508 rfl (by decide) f32 rfl ?_
  refine tw_astore [(4, .ref v_38), (0, .ref x), (1, .int (nI ja)), (2, .int m), (3, .int gr)] dX5_use_8 (by decide) rfl ?_
  refine tw_iload_n 3 dX5_use_10 rfl rfl ?_
  refine tw_bv (tw_callS (M := mX5_use) (pc := 11) okX5_needMetal dX5_use_11 w_573 [.int m] [] rfl rfl ⟨by decide, by decide⟩ (Nat.le_of_ble_eq_true rfl) (c2_X5_needMetal d g τ h sp0.1 m) 18 108 (Nat.le_of_ble_eq_true rfl) (Nat.le_of_ble_eq_true rfl)) (fun h58 q57 => ?_) (fun E h1 q57 => Or.inr ⟨E, rfl, (Or.inr (Or.inl ⟨q57.1, ix0, fun z => q57.2.2 z.1⟩)), τ, by rw [q57.2.1]; exact sp0⟩)
  obtain ⟨q57e, rcm⟩ := q57
  rw [q57e]
  have rcm0 := rcm
  obtain ⟨k, hk, km⟩ := rcm.k
  subst km
  have cDm : tw_DN (nI k) = k := nI_clamp (by omega)
  refine tw_iload_n 4 dX5_use_14 rfl rfl ?_
  refine tw_iconst (v := 1) dX5_use_15 (by decide) ?_
  refine tw_ldc (v := 99999) dX5_use_16 w_470 ?_
  refine tw_bv (tw_callS (M := mX5_use) (pc := 18) okX5_needRange dX5_use_18 w_399 [.int gr, .int 1, .int 99999] [] rfl rfl ⟨by decide, by decide⟩ (Nat.le_of_ble_eq_true rfl) (c2_X5_needRange d g τ h sp0.1 gr 1 99999) 17 102 (Nat.le_of_ble_eq_true rfl) (Nat.le_of_ble_eq_true rfl)) (fun h61 q60 => ?_) (fun E h1 q60 => Or.inr ⟨E, rfl, (Or.inr (Or.inl ⟨q60.1, ix0, fun z => q60.2.2 z.2⟩)), τ, by rw [q60.2.1]; exact sp0⟩)
  obtain ⟨q60e, rlgr⟩ := q60
  rw [q60e]
  have rc0 : tw_RG1 (nI k) gr := ⟨rcm0, rlgr⟩
  obtain ⟨n9, hn1, hn, en⟩ := tw_gr1 rlgr
  subst en
  have cDgr : tw_DN (nI n9) = n9 := nI_clamp (by omega)
  refine tw_aload 0 dX5_use_21 rfl ?_
  refine tw_iload_n 3 dX5_use_23 rfl rfl ?_
  obtain ⟨e69, f70, a_71, b_72, rfl, k73⟩ := sp0.1 v_38 1 k42 (by decide)
  obtain ⟨b74, ow75, fa9, fb9⟩ := k73
  obtain rfl : (160 + 64 * ja + 24) = b74 := (ow75.b q56).symm
  subst fa9 fb9
  refine tw_bi (tw_callVN (M := mX5_use) (pc := 24) okX3_of dX5_use_24 w_189 rfl f70 [.int (nI k)] [] rfl rfl ⟨by decide, by decide⟩ (Nat.le_of_ble_eq_true rfl) (c4_X3_of d g τ h sp0.1 v_38 k42 (160 + 64 * ja + 24) q56 k (by omega)) 17 102 (Nat.le_of_ble_eq_true rfl) (Nat.le_of_ble_eq_true rfl)) (fun r68 h67 q66 => ?_) (fun E h1 q => q.elim)
  obtain ⟨q66e, q66v⟩ := q66
  rw [q66e]
  refine tw_iload_n 4 dX5_use_27 rfl rfl ?_
  refine tw_icmp_ge 41 dX5_use_28 (by decide) (fun c76 => ?_) (fun c76 => ?_)
  · have lc9 : (nI n9 ≤ g.1 (160 + 64 * ja + 24 + k)) := by rw [← q66v]; exact c76
    refine tw_aload 0 dX5_use_41 rfl ?_
    refine tw_iload_n 3 dX5_use_43 rfl rfl ?_
    refine tw_iload_n 4 dX5_use_44 rfl rfl ?_
    refine tw_ineg dX5_use_45 ?_
    refine tw_nmi (fun v77 ev77 => ?_)
    refine tw_bv (tw_callVN (M := mX5_use) (pc := 46) okX3_add dX5_use_46 w_534 rfl f70 [.int (nI k), .int v77] [] rfl rfl ⟨by decide, by decide⟩ (Nat.le_of_ble_eq_true rfl) (c4_X3_add d g τ h sp0.1 v_38 k42 (160 + 64 * ja + 24) q56 k (by omega) v77) 17 102 (Nat.le_of_ble_eq_true rfl) (Nat.le_of_ble_eq_true rfl)) (fun h82 q81 => ?_) (fun E h1 q => q.elim)
    have sp84 := sp0.tr q81
    refine tw_aload_n 1 dX5_use_49 rfl rfl ?_
    obtain ⟨e85, f86, td_87, ca_88, ha_89, da_90, c1_91, c2_92, c3_93, c4_94, rfl, k95, k96, k97, k98, k99, k100, k101, k102, k103, k104, k105, k106, k107, k108, k109, k110, k111⟩ := sp84.1 x 11 kx (by decide)
    refine tw_get (v := .ref c2_92) rfl in_9 9 dX5_use_50 w_149 rfl (by decide) f86 rfl ?_
    refine tw_iload_n 3 dX5_use_53 rfl rfl ?_
    refine tw_iload_n 4 dX5_use_54 rfl rfl ?_
    obtain ⟨e118, f119, a_120, b_121, rfl, k122⟩ := sp84.1 c2_92 1 k99 (by decide)
    obtain ⟨b123, ow124, fa9, fb9⟩ := k122
    obtain rfl : 1320 = b123 := (ow124.b k109).symm
    subst fa9 fb9
    refine tw_bv (tw_callVN (M := mX5_use) (pc := 55) okX3_add dX5_use_55 w_534 rfl f119 [.int (nI k), .int (nI n9)] [] rfl rfl ⟨by decide, by decide⟩ (Nat.le_of_ble_eq_true rfl) (c4_X3_add d (tw_ad g ((160 + 64 * ja + 24) + k) v77) τ h82 sp84.1 c2_92 k99 1320 k109 k (by omega) (nI n9)) 17 102 (Nat.le_of_ble_eq_true rfl) (Nat.le_of_ble_eq_true rfl)) (fun h116 q115 => ?_) (fun E h1 q => q.elim)
    have sp125 := sp84.tr q115
    refine tw_aload 0 dX5_use_58 rfl ?_
    refine tw_iload_n 3 dX5_use_60 rfl rfl ?_
    obtain ⟨e132, f133, a_134, b_135, rfl, k136⟩ := sp125.1 v_38 1 k42 (by decide)
    obtain ⟨b137, ow138, fa9, fb9⟩ := k136
    obtain rfl : (160 + 64 * ja + 24) = b137 := (ow138.b q56).symm
    subst fa9 fb9
    refine tw_bi (tw_callVN (M := mX5_use) (pc := 61) okX3_of dX5_use_61 w_189 rfl f133 [.int (nI k)] [] rfl rfl ⟨by decide, by decide⟩ (Nat.le_of_ble_eq_true rfl) (c4_X3_of d (tw_ad (tw_ad g ((160 + 64 * ja + 24) + k) v77) (1320 + k) (nI n9)) τ h116 sp125.1 v_38 k42 (160 + 64 * ja + 24) q56 k (by omega)) 17 102 (Nat.le_of_ble_eq_true rfl) (Nat.le_of_ble_eq_true rfl)) (fun r131 h130 q129 => ?_) (fun E h1 q => q.elim)
    obtain ⟨q129e, q129v⟩ := q129
    rw [q129e]
    exact tw_iret dX5_use_64 rfl (Or.inl ⟨_, rfl, (by (try rw [cDa]); (try rw [cDm]); (try rw [cDgr]); first | done | exact (by rw [q129v, tw_ad_ne (by omega), tw_ad_eq, ev77])), ix0, rc0, (by (try rw [cDa]); (try rw [cDm]); (try rw [cDgr]); first | done | exact lc9), _, (by (try rw [cDa]); (try rw [cDm]); (try rw [cDgr]); first | done | exact (by have z := sp125; rw [ev77] at z; exact z))⟩)
  · have lc9 : ¬ (nI n9 ≤ g.1 (160 + 64 * ja + 24 + k)) := by rw [← q66v]; exact c76
    exact tw_throwS (i := 6) (by decide +kernel) w_471 w_88 rfl at_ISE dX5_use_31 dX5_use_34 dX5_use_35 dX5_use_37 dX5_use_40 ⟨by decide, Nat.le_of_ble_eq_true rfl⟩ (Nat.le_of_ble_eq_true rfl) (Nat.le_of_ble_eq_true rfl) (Or.inr ⟨_, rfl, (Or.inr (Or.inr (⟨rfl, ix0, rc0, (by (try rw [cDa]); (try rw [cDm]); (try rw [cDgr]); first | done | exact lc9)⟩))), _, sp0⟩)

set_option maxHeartbeats 4000000 in
set_option maxRecDepth 100000 in
theorem c2_X5_change (d : tw_D) (g : tw_G) (τ : tw_K) (h : tw_H) (hw : tw_wt d g τ h) (x : Nat) (kx : τ x = 11) (a : Int32) (m : Int32) (gr : Int32) (he : tw_CH g) : tw_Ct d mX5_change 20 120 [.ref x, .int a, .int m, .int gr] h (tw_qi (fun r9 h1 => r9 = nI (tw_cg g (tw_DN a) (tw_DN m) (tw_DN gr)) ∧ (tw_ix (g.2 7) a) ∧ (tw_RG1 m gr) ∧ (tw_LC g (tw_DN a) (tw_DN m) (tw_DN gr)) ∧ ∃ τ1, tw_sp d τ h (tw_ad (tw_ad (tw_ad (tw_ad g (768 + 32 * tw_DN a + 8 + tw_DN m) (-gr)) (160 + 64 * tw_cP g (tw_DN a) + 24 + tw_DN m) gr) (160 + 64 * tw_cP g (tw_DN a) + 24 + (1 - tw_DN m)) (-nI (tw_cg g (tw_DN a) (tw_DN m) (tw_DN gr)))) (768 + 32 * tw_DN a + 8 + (1 - tw_DN m)) (nI (tw_cg g (tw_DN a) (tw_DN m) (tw_DN gr)))) τ1 h1) (fun E h1 => (E = tw_IOE ∧ ¬ (tw_ix (g.2 7) a) ∨ E = tw_IAE ∧ tw_ix (g.2 7) a ∧ ¬ (tw_RG1 m gr) ∨ E = tw_ISE ∧ tw_ix (g.2 7) a ∧ tw_RG1 m gr ∧ ¬ (tw_LC g (tw_DN a) (tw_DN m) (tw_DN gr))) ∧ ∃ τ1, tw_sp d τ h g τ1 h1)) := by
  refine tw_of (by decide +kernel) (Nat.le_of_ble_eq_true rfl) ?_
  show tw_W d mX5_change _ 0 [(0, .ref x), (1, .int a), (2, .int m), (3, .int gr)] [] h 20 120
  have sp0 := tw_sp.rf hw
  obtain ⟨b96, b97, b98⟩ := tw_b678 hw kx
  refine tw_aload_n 0 dX5_change_0 rfl rfl ?_
  refine tw_iload_n 1 dX5_change_1 rfl rfl ?_
  obtain ⟨e4, f5, td_6, ca_7, ha_8, da_9, c1_10, c2_11, c3_12, c4_13, rfl, k14, k15, k16, k17, k18, k19, k20, k21, k22, k23, k24, k25, k26, k27, k28, k29, k30⟩ := sp0.1 x 11 kx (by decide)
  refine tw_br (tw_callV (M := mX5_change) (pc := 2) okX5_houseAt dX5_change_2 w_664 rfl f5 [.int a] [] rfl rfl ⟨by decide, by decide⟩ (Nat.le_of_ble_eq_true rfl) (c4_X5_houseAt d g τ h sp0.1 x kx a) 19 114 (Nat.le_of_ble_eq_true rfl) (Nat.le_of_ble_eq_true rfl)) (fun r3 h2 q1 => ?_) (fun E h1 q1 => Or.inr ⟨E, rfl, (Or.inl ⟨q1.1, q1.2.2⟩), τ, by rw [q1.2.1]; exact sp0⟩)
  obtain ⟨q1e, q1k, ja, hja, q1n, q1b⟩ := q1
  rw [q1e]
  subst q1n
  have cDa : tw_DN (nI ja) = ja := nI_clamp (by omega)
  have ixa : tw_ix (g.2 7) (nI ja) := ⟨ja, hja, rfl⟩
  have ix0 := ixa
  refine tw_astore [(4, .ref r3), (0, .ref x), (1, .int (nI ja)), (2, .int m), (3, .int gr)] dX5_change_5 (by decide) rfl ?_
  refine tw_iload_n 3 dX5_change_7 rfl rfl ?_
  refine tw_bv (tw_callS (M := mX5_change) (pc := 8) okX5_needMetal dX5_change_8 w_573 [.int m] [] rfl rfl ⟨by decide, by decide⟩ (Nat.le_of_ble_eq_true rfl) (c2_X5_needMetal d g τ h sp0.1 m) 18 108 (Nat.le_of_ble_eq_true rfl) (Nat.le_of_ble_eq_true rfl)) (fun h32 q31 => ?_) (fun E h1 q31 => Or.inr ⟨E, rfl, (Or.inr (Or.inl ⟨q31.1, ix0, fun z => q31.2.2 z.1⟩)), τ, by rw [q31.2.1]; exact sp0⟩)
  obtain ⟨q31e, rcm⟩ := q31
  rw [q31e]
  have rcm0 := rcm
  obtain ⟨k, hk, km⟩ := rcm.k
  subst km
  have cDm : tw_DN (nI k) = k := nI_clamp (by omega)
  refine tw_iload_n 4 dX5_change_11 rfl rfl ?_
  refine tw_iconst (v := 1) dX5_change_12 (by decide) ?_
  refine tw_ldc (v := 99999) dX5_change_13 w_470 ?_
  refine tw_bv (tw_callS (M := mX5_change) (pc := 15) okX5_needRange dX5_change_15 w_399 [.int gr, .int 1, .int 99999] [] rfl rfl ⟨by decide, by decide⟩ (Nat.le_of_ble_eq_true rfl) (c2_X5_needRange d g τ h sp0.1 gr 1 99999) 17 102 (Nat.le_of_ble_eq_true rfl) (Nat.le_of_ble_eq_true rfl)) (fun h35 q34 => ?_) (fun E h1 q34 => Or.inr ⟨E, rfl, (Or.inr (Or.inl ⟨q34.1, ix0, fun z => q34.2.2 z.2⟩)), τ, by rw [q34.2.1]; exact sp0⟩)
  obtain ⟨q34e, rlgr⟩ := q34
  rw [q34e]
  have rc0 : tw_RG1 (nI k) gr := ⟨rcm0, rlgr⟩
  obtain ⟨n9, hn1, hn, en⟩ := tw_gr1 rlgr
  subst en
  have cDgr : tw_DN (nI n9) = n9 := nI_clamp (by omega)
  refine tw_aload 0 dX5_change_18 rfl ?_
  obtain ⟨e37, f38, n_39, ar_40, p_41, pl_42, go_43, rfl, k44, k45, k46, k47⟩ := sp0.1 r3 3 q1k (by decide)
  obtain ⟨j48, ow49, fn9, fa9, pc50, pc51, lp52⟩ := k47
  obtain rfl : ja = j48 := by have z := ow49.b q1b; omega
  subst fn9 fa9
  cases pl_42 with
  | none =>
    have pe54 := pc50.n
    refine tw_getN (v := .null) rfl in_6 2 dX5_change_20 w_641 rfl (by decide) f38 rfl ?_
    refine tw_astoreN [(5, .null), (4, .ref r3), (0, .ref x), (1, .int (nI ja)), (2, .int (nI k)), (3, .int (nI n9))] dX5_change_23 (by decide) rfl ?_
    refine tw_aloadN 0 dX5_change_25 rfl ?_
    refine tw_ifnullN 43 dX5_change_27 (by decide) ?_
    exact tw_throwS (i := 9) (by decide +kernel) w_471 w_88 rfl at_ISE dX5_change_43 dX5_change_46 dX5_change_47 dX5_change_49 dX5_change_52 ⟨by decide, Nat.le_of_ble_eq_true rfl⟩ (Nat.le_of_ble_eq_true rfl) (Nat.le_of_ble_eq_true rfl) (Or.inr ⟨_, rfl, (Or.inr (Or.inr (⟨rfl, ix0, rc0, (by (try rw [cDa]); (try rw [cDm]); (try rw [cDgr]); first | done | exact (fun z => z.1 pe54))⟩))), _, sp0⟩)
  | some q53 =>
    obtain ⟨i55, hi56, ei57, bi58⟩ := pc50.s
    refine tw_getN (v := .ref q53) rfl in_6 2 dX5_change_20 w_641 rfl (by decide) f38 rfl ?_
    refine tw_astore [(5, .ref q53), (4, .ref r3), (0, .ref x), (1, .int (nI ja)), (2, .int (nI k)), (3, .int (nI n9))] dX5_change_23 (by decide) rfl ?_
    refine tw_aload 0 dX5_change_25 rfl ?_
    refine tw_ifnull dX5_change_27 ?_
    refine tw_aload 1 dX5_change_30 rfl ?_
    refine tw_getN (v := .ref p_41) rfl in_6 1 dX5_change_32 w_639 rfl (by decide) f38 rfl ?_
    refine tw_iload_n 4 dX5_change_35 rfl rfl ?_
    obtain ⟨e65, f66, a_67, b_68, rfl, k69⟩ := sp0.1 p_41 1 k44 (by decide)
    obtain ⟨b70, ow71, fa9, fb9⟩ := k69
    obtain rfl : (768 + 32 * ja + 8) = b70 := (ow71.b lp52).symm
    subst fa9 fb9
    refine tw_bi (tw_callVN (M := mX5_change) (pc := 36) okX3_of dX5_change_36 w_189 rfl f66 [.int (nI k)] [] rfl rfl ⟨by decide, by decide⟩ (Nat.le_of_ble_eq_true rfl) (c4_X3_of d g τ h sp0.1 p_41 k44 (768 + 32 * ja + 8) lp52 k (by omega)) 17 102 (Nat.le_of_ble_eq_true rfl) (Nat.le_of_ble_eq_true rfl)) (fun r64 h63 q62 => ?_) (fun E h1 q => q.elim)
    obtain ⟨q62e, q62v⟩ := q62
    rw [q62e]
    refine tw_iload_n 5 dX5_change_39 rfl rfl ?_
    refine tw_icmp_ge 53 dX5_change_40 (by decide) (fun c72 => ?_) (fun c72 => ?_)
    · have l2 : (nI n9 ≤ g.1 (768 + 32 * ja + 8 + k)) := by rw [← q62v]; exact c72
      refine tw_aload 0 dX5_change_53 rfl ?_
      refine tw_iload_n 4 dX5_change_55 rfl rfl ?_
      refine tw_iload_n 5 dX5_change_56 rfl rfl ?_
      have hp9 := he.p hja (by omega) b96 ei57
      have E9 := he.1 i55 hp9
      obtain ⟨e73, f74, n_75, r_76, c_77, go_78, so_79, v_80, rd_81, rf_82, t_83, rfl, k84, k85, k86, k87, k88, k89, k90, k91, k92⟩ := sp0.1 q53 2 (k45 _ rfl) (by decide)
      obtain ⟨j93, ow94, fn9, fr9, fc9, fg9, fs9, q95, q96, q97, q98⟩ := k92
      obtain rfl : i55 = j93 := by have z := ow94.b bi58; omega
      subst fn9 fr9 fc9 fg9 fs9
      refine tw_bi (tw_callVN (M := mX5_change) (pc := 57) okX0_minted dX5_change_57 w_299 rfl f74 [.int (nI k), .int (nI n9)] [] rfl rfl ⟨by decide, by decide⟩ (Nat.le_of_ble_eq_true rfl) (c3_X0_minted d g τ h sp0.1 q53 (k45 _ rfl) i55 (by omega) bi58 k hk (nI n9) n9 _ rfl E9.1.2.2 E9.1.1 E9.1.2.1 (by omega) _ E9.2.1.2 E9.2.1.1) 17 102 (Nat.le_of_ble_eq_true rfl) (Nat.le_of_ble_eq_true rfl)) (fun r101 h100 q99 => ?_) (fun E h1 q => q.elim)
      obtain ⟨q99e, q99v⟩ := q99
      rw [q99e]
      have mv9 : r101 = nI (tw_cg g ja k n9) := by unfold tw_cg; rw [tw_cP_e ei57 (by omega)]; exact q99v
      subst mv9
      refine tw_istore [(6, .int (nI (tw_cg g ja k n9))), (5, .ref q53), (4, .ref r3), (0, .ref x), (1, .int (nI ja)), (2, .int (nI k)), (3, .int (nI n9))] dX5_change_60 (by decide) rfl ?_
      refine tw_iload_n 5 dX5_change_62 rfl rfl ?_
      refine tw_bi (tw_callS (M := mX5_change) (pc := 63) okX5_otherMetal dX5_change_63 w_318 [.int (nI k)] [] rfl rfl ⟨by decide, by decide⟩ (Nat.le_of_ble_eq_true rfl) (c3_X5_otherMetal d g τ h sp0.1 k hk) 17 102 (Nat.le_of_ble_eq_true rfl) (Nat.le_of_ble_eq_true rfl)) (fun r104 h103 q102 => ?_) (fun E h1 q => q.elim)
      obtain ⟨q102e, q102v⟩ := q102
      rw [q102e, q102v]
      refine tw_istore [(7, .int (nI (1 - k))), (6, .int (nI (tw_cg g ja k n9))), (5, .ref q53), (4, .ref r3), (0, .ref x), (1, .int (nI ja)), (2, .int (nI k)), (3, .int (nI n9))] dX5_change_66 (by decide) rfl ?_
      refine tw_aload 2 dX5_change_68 rfl ?_
      refine tw_iload_n 6 dX5_change_70 rfl rfl ?_
      refine tw_bi (tw_callVN (M := mX5_change) (pc := 71) okX0_isOpenFor dX5_change_71 w_577 rfl f74 [.int (nI k)] [] rfl rfl ⟨by decide, by decide⟩ (Nat.le_of_ble_eq_true rfl) (c2_X0_isOpenFor d g τ h sp0.1 q53 (k45 _ rfl) i55 (by omega) bi58 k hk) 17 102 (Nat.le_of_ble_eq_true rfl) (Nat.le_of_ble_eq_true rfl)) (fun r107 h106 q105 => ?_) (fun E h1 q => q.elim)
      obtain ⟨q105e, q105v, q105z⟩ := q105
      rw [q105e]
      refine tw_if_eq 92 dX5_change_74 (by decide) (fun c108 => ?_) (fun c108 => ?_)
      · have l3 : (g.1 (160 + 64 * tw_cP g ja + 2 + k) = 0) := by rw [tw_cP_e ei57 (by omega), ← q105v]; exact c108
        exact tw_throwS (i := 10) (by decide +kernel) w_471 w_88 rfl at_ISE dX5_change_92 dX5_change_95 dX5_change_96 dX5_change_98 dX5_change_101 ⟨by decide, Nat.le_of_ble_eq_true rfl⟩ (Nat.le_of_ble_eq_true rfl) (Nat.le_of_ble_eq_true rfl) (Or.inr ⟨_, rfl, (Or.inr (Or.inr (⟨rfl, ix0, rc0, (by (try rw [cDa]); (try rw [cDm]); (try rw [cDgr]); first | done | exact (fun z => z.2.2.1 l3))⟩))), _, sp0⟩)
      · have l3 : ¬ (g.1 (160 + 64 * tw_cP g ja + 2 + k) = 0) := by rw [tw_cP_e ei57 (by omega), ← q105v]; exact c108
        refine tw_aload 2 dX5_change_77 rfl ?_
        refine tw_getN (v := .ref v_80) rfl in_4 3 dX5_change_79 w_508 rfl (by decide) f74 rfl ?_
        refine tw_iload 0 dX5_change_82 rfl ?_
        obtain ⟨e115, f116, a_117, b_118, rfl, k119⟩ := sp0.1 v_80 1 k84 (by decide)
        obtain ⟨b120, ow121, fa9, fb9⟩ := k119
        obtain rfl : (160 + 64 * i55 + 24) = b120 := (ow121.b q98).symm
        subst fa9 fb9
        refine tw_bi (tw_callVN (M := mX5_change) (pc := 84) okX3_of dX5_change_84 w_189 rfl f116 [.int (nI (1 - k))] [] rfl rfl ⟨by decide, by decide⟩ (Nat.le_of_ble_eq_true rfl) (c4_X3_of d g τ h sp0.1 v_80 k84 (160 + 64 * i55 + 24) q98 (1 - k) (by omega)) 17 102 (Nat.le_of_ble_eq_true rfl) (Nat.le_of_ble_eq_true rfl)) (fun r114 h113 q112 => ?_) (fun E h1 q => q.elim)
        obtain ⟨q112e, q112v⟩ := q112
        rw [q112e]
        refine tw_iload 1 dX5_change_87 rfl ?_
        refine tw_icmp_ge 102 dX5_change_89 (by decide) (fun c122 => ?_) (fun c122 => ?_)
        · have l4 : (nI (tw_cg g ja k n9) ≤ g.1 (160 + 64 * tw_cP g ja + 24 + (1 - k))) := by rw [tw_cP_e ei57 (by omega), ← q112v]; exact c122
          have lc9 : tw_LC g ja k n9 := ⟨by rw [ei57]; exact tw_nm1 (by omega), l2, l3, l4⟩
          refine tw_aload 3 dX5_change_102 rfl ?_
          refine tw_getN (v := .ref p_41) rfl in_6 1 dX5_change_104 w_639 rfl (by decide) f38 rfl ?_
          refine tw_iload_n 6 dX5_change_107 rfl rfl ?_
          refine tw_iload_n 7 dX5_change_108 rfl rfl ?_
          refine tw_ineg dX5_change_109 ?_
          refine tw_nmi (fun v123 ev123 => ?_)
          refine tw_bv (tw_callVN (M := mX5_change) (pc := 110) okX3_add dX5_change_110 w_534 rfl f66 [.int (nI k), .int v123] [] rfl rfl ⟨by decide, by decide⟩ (Nat.le_of_ble_eq_true rfl) (c4_X3_add d g τ h sp0.1 p_41 k44 (768 + 32 * ja + 8) lp52 k (by omega) v123) 17 102 (Nat.le_of_ble_eq_true rfl) (Nat.le_of_ble_eq_true rfl)) (fun h128 q127 => ?_) (fun E h1 q => q.elim)
          have sp130 := sp0.tr q127
          refine tw_aload 2 dX5_change_113 rfl ?_
          obtain ⟨e131, f132, n_133, r_134, c_135, go_136, so_137, v_138, rd_139, rf_140, t_141, rfl, k142, k143, k144, k145, k146, k147, k148, k149, k150⟩ := sp130.1 q53 2 (k45 _ rfl) (by decide)
          obtain ⟨j151, ow152, fn9, fr9, fc9, fg9, fs9, q153, q154, q155, q156⟩ := k150
          obtain rfl : i55 = j151 := by have z := ow152.b bi58; omega
          subst fn9 fr9 fc9 fg9 fs9
          refine tw_getN (v := .ref v_138) rfl in_4 3 dX5_change_115 w_508 rfl (by decide) f132 rfl ?_
          refine tw_iload_n 6 dX5_change_118 rfl rfl ?_
          refine tw_iload_n 7 dX5_change_119 rfl rfl ?_
          obtain ⟨e163, f164, a_165, b_166, rfl, k167⟩ := sp130.1 v_138 1 k142 (by decide)
          obtain ⟨b168, ow169, fa9, fb9⟩ := k167
          obtain rfl : (160 + 64 * i55 + 24) = b168 := (ow169.b q156).symm
          subst fa9 fb9
          refine tw_bv (tw_callVN (M := mX5_change) (pc := 120) okX3_add dX5_change_120 w_534 rfl f164 [.int (nI k), .int (nI n9)] [] rfl rfl ⟨by decide, by decide⟩ (Nat.le_of_ble_eq_true rfl) (c4_X3_add d (tw_ad g ((768 + 32 * ja + 8) + k) v123) τ h128 sp130.1 v_138 k142 (160 + 64 * i55 + 24) q156 k (by omega) (nI n9)) 17 102 (Nat.le_of_ble_eq_true rfl) (Nat.le_of_ble_eq_true rfl)) (fun h161 q160 => ?_) (fun E h1 q => q.elim)
          have sp170 := sp130.tr q160
          refine tw_aload 2 dX5_change_123 rfl ?_
          obtain ⟨e171, f172, n_173, r_174, c_175, go_176, so_177, v_178, rd_179, rf_180, t_181, rfl, k182, k183, k184, k185, k186, k187, k188, k189, k190⟩ := sp170.1 q53 2 (k45 _ rfl) (by decide)
          obtain ⟨j191, ow192, fn9, fr9, fc9, fg9, fs9, q193, q194, q195, q196⟩ := k190
          obtain rfl : i55 = j191 := by have z := ow192.b bi58; omega
          subst fn9 fr9 fc9 fg9 fs9
          refine tw_getN (v := .ref v_178) rfl in_4 3 dX5_change_125 w_508 rfl (by decide) f172 rfl ?_
          refine tw_iload 0 dX5_change_128 rfl ?_
          refine tw_iload 1 dX5_change_130 rfl ?_
          refine tw_ineg dX5_change_132 ?_
          refine tw_nmi (fun v197 ev197 => ?_)
          obtain ⟨e204, f205, a_206, b_207, rfl, k208⟩ := sp170.1 v_178 1 k182 (by decide)
          obtain ⟨b209, ow210, fa9, fb9⟩ := k208
          obtain rfl : (160 + 64 * i55 + 24) = b209 := (ow210.b q196).symm
          subst fa9 fb9
          refine tw_bv (tw_callVN (M := mX5_change) (pc := 133) okX3_add dX5_change_133 w_534 rfl f205 [.int (nI (1 - k)), .int v197] [] rfl rfl ⟨by decide, by decide⟩ (Nat.le_of_ble_eq_true rfl) (c4_X3_add d (tw_ad (tw_ad g ((768 + 32 * ja + 8) + k) v123) ((160 + 64 * i55 + 24) + k) (nI n9)) τ h161 sp170.1 v_178 k182 (160 + 64 * i55 + 24) q196 (1 - k) (by omega) v197) 17 102 (Nat.le_of_ble_eq_true rfl) (Nat.le_of_ble_eq_true rfl)) (fun h202 q201 => ?_) (fun E h1 q => q.elim)
          have sp211 := sp170.tr q201
          refine tw_aload 3 dX5_change_136 rfl ?_
          obtain ⟨e212, f213, n_214, ar_215, p_216, pl_217, go_218, rfl, k219, k220, k221, k222⟩ := sp211.1 r3 3 q1k (by decide)
          obtain ⟨j223, ow224, fn9, fa9, pc225, pc226, lp227⟩ := k222
          obtain rfl : ja = j223 := by have z := ow224.b q1b; omega
          subst fn9 fa9
          refine tw_getN (v := .ref p_216) rfl in_6 1 dX5_change_138 w_639 rfl (by decide) f213 rfl ?_
          refine tw_iload 0 dX5_change_141 rfl ?_
          refine tw_iload 1 dX5_change_143 rfl ?_
          obtain ⟨e234, f235, a_236, b_237, rfl, k238⟩ := sp211.1 p_216 1 k219 (by decide)
          obtain ⟨b239, ow240, fa9, fb9⟩ := k238
          obtain rfl : (768 + 32 * ja + 8) = b239 := (ow240.b lp227).symm
          subst fa9 fb9
          refine tw_bv (tw_callVN (M := mX5_change) (pc := 145) okX3_add dX5_change_145 w_534 rfl f235 [.int (nI (1 - k)), .int (nI (tw_cg g ja k n9))] [] rfl rfl ⟨by decide, by decide⟩ (Nat.le_of_ble_eq_true rfl) (c4_X3_add d (tw_ad (tw_ad (tw_ad g ((768 + 32 * ja + 8) + k) v123) ((160 + 64 * i55 + 24) + k) (nI n9)) ((160 + 64 * i55 + 24) + (1 - k)) v197) τ h202 sp211.1 p_216 k219 (768 + 32 * ja + 8) lp227 (1 - k) (by omega) (nI (tw_cg g ja k n9))) 17 102 (Nat.le_of_ble_eq_true rfl) (Nat.le_of_ble_eq_true rfl)) (fun h232 q231 => ?_) (fun E h1 q => q.elim)
          have sp241 := sp211.tr q231
          refine tw_iload 1 dX5_change_148 rfl ?_
          exact tw_iret dX5_change_150 rfl (Or.inl ⟨_, rfl, (by (try rw [cDa]); (try rw [cDm]); (try rw [cDgr]); first | done | exact rfl), ix0, rc0, (by (try rw [cDa]); (try rw [cDm]); (try rw [cDgr]); first | done | exact lc9), _, (by (try rw [cDa]); (try rw [cDm]); (try rw [cDgr]); first | done | exact (by rw [tw_cP_e ei57 (by omega)]; exact (by have z := sp241; rw [ev123, ev197] at z; exact z)))⟩)
        · have l4 : ¬ (nI (tw_cg g ja k n9) ≤ g.1 (160 + 64 * tw_cP g ja + 24 + (1 - k))) := by rw [tw_cP_e ei57 (by omega), ← q112v]; exact c122
          exact tw_throwS (i := 10) (by decide +kernel) w_471 w_88 rfl at_ISE dX5_change_92 dX5_change_95 dX5_change_96 dX5_change_98 dX5_change_101 ⟨by decide, Nat.le_of_ble_eq_true rfl⟩ (Nat.le_of_ble_eq_true rfl) (Nat.le_of_ble_eq_true rfl) (Or.inr ⟨_, rfl, (Or.inr (Or.inr (⟨rfl, ix0, rc0, (by (try rw [cDa]); (try rw [cDm]); (try rw [cDgr]); first | done | exact (fun z => l4 z.2.2.2))⟩))), _, sp0⟩)
    · have l2 : ¬ (nI n9 ≤ g.1 (768 + 32 * ja + 8 + k)) := by rw [← q62v]; exact c72
      exact tw_throwS (i := 9) (by decide +kernel) w_471 w_88 rfl at_ISE dX5_change_43 dX5_change_46 dX5_change_47 dX5_change_49 dX5_change_52 ⟨by decide, Nat.le_of_ble_eq_true rfl⟩ (Nat.le_of_ble_eq_true rfl) (Nat.le_of_ble_eq_true rfl) (Or.inr ⟨_, rfl, (Or.inr (Or.inr (⟨rfl, ix0, rc0, (by (try rw [cDa]); (try rw [cDm]); (try rw [cDgr]); first | done | exact (fun z => l2 z.2.1))⟩))), _, sp0⟩)

set_option maxHeartbeats 4000000 in
set_option maxRecDepth 100000 in
theorem c2_X5_send (d : tw_D) (g : tw_G) (τ : tw_K) (h : tw_H) (hw : tw_wt d g τ h) (x : Nat) (kx : τ x = 11) (a : Int32) (b : Int32) (he : tw_CH g) : tw_Ct d mX5_send 20 120 [.ref x, .int a, .int b] h (tw_qi (fun r9 h1 => r9 = tw_sD g (tw_DN a) (tw_DN b) ∧ (tw_ix (g.2 7) a ∧ tw_ix (g.2 6) b) ∧ (tw_LS g (tw_DN a) b) ∧ ∃ τ1, tw_sp d τ h (tw_g1 (tw_g1 (tw_g1 (tw_ad (tw_ad (tw_ad (tw_ad g (768 + 32 * tw_DN a + 8 + 0) (-nI (tw_fr g (tw_DN a) (tw_DN b) 0))) (1312 + 0) (nI (tw_fr g (tw_DN a) (tw_DN b) 0))) (768 + 32 * tw_DN a + 8 + 1) (-nI (tw_fr g (tw_DN a) (tw_DN b) 1))) (1312 + 1) (nI (tw_fr g (tw_DN a) (tw_DN b) 1))) (768 + 32 * tw_DN a + 1) (-1)) (768 + 32 * tw_DN a + 2) b) (768 + 32 * tw_DN a + 0) (tw_sD g (tw_DN a) (tw_DN b))) τ1 h1) (fun E h1 => (E = tw_IOE ∧ ¬ (tw_ix (g.2 7) a ∧ tw_ix (g.2 6) b) ∨ E = tw_ISE ∧ (tw_ix (g.2 7) a ∧ tw_ix (g.2 6) b) ∧ ¬ (tw_LS g (tw_DN a) b)) ∧ ∃ τ1, tw_sp d τ h g τ1 h1)) := by
  refine tw_of (by decide +kernel) (Nat.le_of_ble_eq_true rfl) ?_
  show tw_W d mX5_send _ 0 [(0, .ref x), (1, .int a), (2, .int b)] [] h 20 120
  have sp0 := tw_sp.rf hw
  obtain ⟨b96, b97, b98⟩ := tw_b678 hw kx
  refine tw_aload_n 0 dX5_send_0 rfl rfl ?_
  refine tw_iload_n 1 dX5_send_1 rfl rfl ?_
  obtain ⟨e4, f5, td_6, ca_7, ha_8, da_9, c1_10, c2_11, c3_12, c4_13, rfl, k14, k15, k16, k17, k18, k19, k20, k21, k22, k23, k24, k25, k26, k27, k28, k29, k30⟩ := sp0.1 x 11 kx (by decide)
  refine tw_br (tw_callV (M := mX5_send) (pc := 2) okX5_houseAt dX5_send_2 w_664 rfl f5 [.int a] [] rfl rfl ⟨by decide, by decide⟩ (Nat.le_of_ble_eq_true rfl) (c4_X5_houseAt d g τ h sp0.1 x kx a) 19 114 (Nat.le_of_ble_eq_true rfl) (Nat.le_of_ble_eq_true rfl)) (fun r3 h2 q1 => ?_) (fun E h1 q1 => Or.inr ⟨E, rfl, (Or.inl ⟨q1.1, fun z => q1.2.2 z.1⟩), τ, by rw [q1.2.1]; exact sp0⟩)
  obtain ⟨q1e, q1k, ja, hja, q1n, q1b⟩ := q1
  rw [q1e]
  subst q1n
  have cDa : tw_DN (nI ja) = ja := nI_clamp (by omega)
  have ixa : tw_ix (g.2 7) (nI ja) := ⟨ja, hja, rfl⟩
  refine tw_astore_n [(3, .ref r3), (0, .ref x), (1, .int (nI ja)), (2, .int b)] dX5_send_5 rfl (by decide) rfl ?_
  refine tw_aload_n 1 dX5_send_6 rfl rfl ?_
  refine tw_iload_n 3 dX5_send_7 rfl rfl ?_
  refine tw_br (tw_callV (M := mX5_send) (pc := 8) okX5_countryAt dX5_send_8 w_546 rfl f5 [.int b] [] rfl rfl ⟨by decide, by decide⟩ (Nat.le_of_ble_eq_true rfl) (c3_X5_countryAt d g τ h sp0.1 x kx b) 18 108 (Nat.le_of_ble_eq_true rfl) (Nat.le_of_ble_eq_true rfl)) (fun r33 h32 q31 => ?_) (fun E h1 q31 => Or.inr ⟨E, rfl, (Or.inl ⟨q31.1, fun z => q31.2.2 z.2⟩), τ, by rw [q31.2.1]; exact sp0⟩)
  obtain ⟨q31e, q31k, jb, hjb, q31n, q31b⟩ := q31
  rw [q31e]
  subst q31n
  have cDb : tw_DN (nI jb) = jb := nI_clamp (by omega)
  have ixb : tw_ix (g.2 6) (nI jb) := ⟨jb, hjb, rfl⟩
  have ix0 := And.intro ixa ixb
  refine tw_astore [(4, .ref r33), (3, .ref r3), (0, .ref x), (1, .int (nI ja)), (2, .int (nI jb))] dX5_send_11 (by decide) rfl ?_
  refine tw_aload_n 1 dX5_send_13 rfl rfl ?_
  obtain ⟨e34, f35, n_36, ar_37, p_38, pl_39, go_40, rfl, k41, k42, k43, k44⟩ := sp0.1 r3 3 q1k (by decide)
  obtain ⟨j45, ow46, fn9, fa9, pc47, pc48, lp49⟩ := k44
  obtain rfl : ja = j45 := by have z := ow46.b q1b; omega
  subst fn9 fa9
  cases pl_39 with
  | none =>
    have pe51 := pc47.n
    refine tw_getN (v := .null) rfl in_6 2 dX5_send_14 w_641 rfl (by decide) f35 rfl ?_
    refine tw_astoreN [(5, .null), (4, .ref r33), (3, .ref r3), (0, .ref x), (1, .int (nI ja)), (2, .int (nI jb))] dX5_send_17 (by decide) rfl ?_
    refine tw_aloadN 0 dX5_send_19 rfl ?_
    refine tw_ifnullN 31 dX5_send_21 (by decide) ?_
    exact tw_throwS (i := 11) (by decide +kernel) w_471 w_88 rfl at_ISE dX5_send_31 dX5_send_34 dX5_send_35 dX5_send_37 dX5_send_40 ⟨by decide, Nat.le_of_ble_eq_true rfl⟩ (Nat.le_of_ble_eq_true rfl) (Nat.le_of_ble_eq_true rfl) (Or.inr ⟨_, rfl, (Or.inr (⟨rfl, ix0, (by (try rw [cDa]); (try rw [cDb]); first | done | exact (fun z => z.1 pe51))⟩)), _, sp0⟩)
  | some q50 =>
    obtain ⟨i52, hi53, ei54, bi55⟩ := pc47.s
    refine tw_getN (v := .ref q50) rfl in_6 2 dX5_send_14 w_641 rfl (by decide) f35 rfl ?_
    refine tw_astore [(5, .ref q50), (4, .ref r33), (3, .ref r3), (0, .ref x), (1, .int (nI ja)), (2, .int (nI jb))] dX5_send_17 (by decide) rfl ?_
    refine tw_aload 0 dX5_send_19 rfl ?_
    refine tw_ifnull dX5_send_21 ?_
    refine tw_aload 0 dX5_send_24 rfl ?_
    refine tw_aload 1 dX5_send_26 rfl ?_
    refine tw_acmp_ne (rx := (some q50)) (ry := (some r33)) 41 dX5_send_28 (by decide) (fun c56 => ?_) (fun c56 => ?_)
    · have nij : i52 ≠ jb := fun z => c56 (congrArg some (tw_own2 sp0.1 (k42 _ rfl) q31k (by rw [bi55, z]; exact q31b.symm)))
      have lc9 : tw_LS g ja (nI jb) := ⟨by rw [ei54]; exact tw_nm1 (by omega), by rw [ei54]; exact fun z => nij (tw_nIj z (by omega) (by omega))⟩
      refine tw_aload_n 3 dX5_send_41 rfl rfl ?_
      refine tw_aload_n 2 dX5_send_42 rfl rfl ?_
      refine tw_getN (v := .ref p_38) rfl in_6 1 dX5_send_43 w_639 rfl (by decide) f35 rfl ?_
      refine tw_iconst (v := 0) dX5_send_46 (by decide) ?_
      refine tw_aload 0 dX5_send_47 rfl ?_
      refine tw_aload 1 dX5_send_49 rfl ?_
      obtain ⟨e57, f58, n_59, r_60, c_61, go_62, so_63, v_64, rd_65, rf_66, t_67, rfl, k68, k69, k70, k71, k72, k73, k74, k75, k76⟩ := sp0.1 r33 2 q31k (by decide)
      obtain ⟨j77, ow78, fn9, fr9, fc9, fg9, fs9, q79, q80, q81, q82⟩ := k76
      obtain rfl : jb = j77 := by have z := ow78.b q31b; omega
      subst fn9 fr9 fc9 fg9 fs9
      refine tw_getN (v := .int (nI jb)) rfl in_4 0 dX5_send_51 w_502 rfl (by decide) f58 rfl ?_
      obtain ⟨e86, f87, n_88, r_89, c_90, go_91, so_92, v_93, rd_94, rf_95, t_96, rfl, k97, k98, k99, k100, k101, k102, k103, k104, k105⟩ := sp0.1 q50 2 (k42 _ rfl) (by decide)
      obtain ⟨j106, ow107, fn9, fr9, fc9, fg9, fs9, q108, q109, q110, q111⟩ := k105
      obtain rfl : i52 = j106 := by have z := ow107.b bi55; omega
      subst fn9 fr9 fc9 fg9 fs9
      refine tw_bi (tw_callVN (M := mX5_send) (pc := 54) okX0_freightTo dX5_send_54 w_231 rfl f87 [.int (nI jb)] [.int 0, .ref p_38, .ref x] rfl rfl ⟨by decide, by decide⟩ (Nat.le_of_ble_eq_true rfl) (c2_X0_freightTo d g τ h sp0.1 q50 (k42 _ rfl) i52 (by omega) bi55 jb (by omega)) 18 108 (Nat.le_of_ble_eq_true rfl) (Nat.le_of_ble_eq_true rfl)) (fun r85 h84 q83 => ?_) (fun E h1 q => q.elim)
      obtain ⟨q83e, q83v⟩ := q83
      rw [q83e]
      have hp9 := he.p hja (by omega) b96 ei54
      have E9 := he.1 i52 hp9
      have F9 := E9.2.2 jb (by omega)
      obtain ⟨A0, hA0, eA0⟩ := (he.2.1 ja hja).2 0 (by decide)
      have ef0 : r85 = nI (tw_DN (g.1 (160 + 64 * i52 + 16 + jb))) := by rw [q83v]; exact F9.2
      have ea0 : g.1 ((768 + 32 * ja + 8) + 0) = nI A0 := eA0
      refine tw_bv (tw_callV (M := mX5_send) (pc := 57) okX5_payFreight dX5_send_57 w_679 rfl f5 [.ref p_38, .int 0, .int r85] [] rfl rfl ⟨by decide, by decide⟩ (Nat.le_of_ble_eq_true rfl) (c4_X5_payFreight d g τ h sp0.1 x kx p_38 k41 (768 + 32 * ja + 8) lp49 0 (by decide) r85 A0 _ ea0 ef0 hA0 F9.1) 18 108 (Nat.le_of_ble_eq_true rfl) (Nat.le_of_ble_eq_true rfl)) (fun h113 q112 => ?_) (fun E h1 q => q.elim)
      have fr0 : tw_up3 A0 (tw_DN (g.1 (160 + 64 * i52 + 16 + jb))) = tw_fr g ja jb 0 := by unfold tw_fr; rw [tw_cP_e ei54 (by omega), eA0, tw_DN_nI (by omega)]
      rw [fr0] at q112
      have sp114 := sp0.tr q112
      refine tw_aload_n 3 dX5_send_60 rfl rfl ?_
      refine tw_aload_n 2 dX5_send_61 rfl rfl ?_
      obtain ⟨e115, f116, n_117, ar_118, p_119, pl_120, go_121, rfl, k122, k123, k124, k125⟩ := sp114.1 r3 3 q1k (by decide)
      obtain ⟨j126, ow127, fn9, fa9, pc128, pc129, lp130⟩ := k125
      obtain rfl : ja = j126 := by have z := ow127.b q1b; omega
      subst fn9 fa9
      refine tw_getN (v := .ref p_119) rfl in_6 1 dX5_send_62 w_639 rfl (by decide) f116 rfl ?_
      refine tw_iconst (v := 1) dX5_send_65 (by decide) ?_
      refine tw_aload 0 dX5_send_66 rfl ?_
      refine tw_aload 1 dX5_send_68 rfl ?_
      obtain ⟨e131, f132, n_133, r_134, c_135, go_136, so_137, v_138, rd_139, rf_140, t_141, rfl, k142, k143, k144, k145, k146, k147, k148, k149, k150⟩ := sp114.1 r33 2 q31k (by decide)
      obtain ⟨j151, ow152, fn9, fr9, fc9, fg9, fs9, q153, q154, q155, q156⟩ := k150
      obtain rfl : jb = j151 := by have z := ow152.b q31b; omega
      subst fn9 fr9 fc9 fg9 fs9
      refine tw_getN (v := .int (nI jb)) rfl in_4 0 dX5_send_70 w_502 rfl (by decide) f132 rfl ?_
      obtain ⟨e160, f161, n_162, r_163, c_164, go_165, so_166, v_167, rd_168, rf_169, t_170, rfl, k171, k172, k173, k174, k175, k176, k177, k178, k179⟩ := sp114.1 q50 2 (k42 _ rfl) (by decide)
      obtain ⟨j180, ow181, fn9, fr9, fc9, fg9, fs9, q182, q183, q184, q185⟩ := k179
      obtain rfl : i52 = j180 := by have z := ow181.b bi55; omega
      subst fn9 fr9 fc9 fg9 fs9
      refine tw_bi (tw_callVN (M := mX5_send) (pc := 73) okX0_freightTo dX5_send_73 w_231 rfl f161 [.int (nI jb)] [.int 1, .ref p_119, .ref x] rfl rfl ⟨by decide, by decide⟩ (Nat.le_of_ble_eq_true rfl) (c2_X0_freightTo d (tw_ad (tw_ad g ((768 + 32 * ja + 8) + 0) (-nI (tw_fr g ja jb 0))) (1312 + 0) (nI (tw_fr g ja jb 0))) τ h113 sp114.1 q50 (k42 _ rfl) i52 (by omega) bi55 jb (by omega)) 18 108 (Nat.le_of_ble_eq_true rfl) (Nat.le_of_ble_eq_true rfl)) (fun r159 h158 q157 => ?_) (fun E h1 q => q.elim)
      obtain ⟨q157e, q157v⟩ := q157
      rw [q157e]
      obtain ⟨A1, hA1, eA1⟩ := (he.2.1 ja hja).2 1 (by decide)
      have ef1 : r159 = nI (tw_DN (g.1 (160 + 64 * i52 + 16 + jb))) := by rw [q157v, tw_ad_ne (by omega), tw_ad_ne (by omega)]; exact F9.2
      have ea1 : (tw_ad (tw_ad g ((768 + 32 * ja + 8) + 0) (-nI (tw_fr g ja jb 0))) (1312 + 0) (nI (tw_fr g ja jb 0))).1 ((768 + 32 * ja + 8) + 1) = nI A1 := by rw [tw_ad_ne (by omega), tw_ad_ne (by omega)]; exact eA1
      obtain ⟨e188, f189, td_190, ca_191, ha_192, da_193, c1_194, c2_195, c3_196, c4_197, rfl, k198, k199, k200, k201, k202, k203, k204, k205, k206, k207, k208, k209, k210, k211, k212, k213, k214⟩ := sp114.1 x 11 kx (by decide)
      refine tw_bv (tw_callV (M := mX5_send) (pc := 76) okX5_payFreight dX5_send_76 w_679 rfl f189 [.ref p_119, .int 1, .int r159] [] rfl rfl ⟨by decide, by decide⟩ (Nat.le_of_ble_eq_true rfl) (c4_X5_payFreight d (tw_ad (tw_ad g ((768 + 32 * ja + 8) + 0) (-nI (tw_fr g ja jb 0))) (1312 + 0) (nI (tw_fr g ja jb 0))) τ h113 sp114.1 x kx p_119 k122 (768 + 32 * ja + 8) lp130 1 (by decide) r159 A1 _ ea1 ef1 hA1 F9.1) 18 108 (Nat.le_of_ble_eq_true rfl) (Nat.le_of_ble_eq_true rfl)) (fun h187 q186 => ?_) (fun E h1 q => q.elim)
      have fr1 : tw_up3 A1 (tw_DN (g.1 (160 + 64 * i52 + 16 + jb))) = tw_fr g ja jb 1 := by unfold tw_fr; rw [tw_cP_e ei54 (by omega), eA1, tw_DN_nI (by omega)]
      rw [fr1] at q186
      have sp215 := sp114.tr q186
      refine tw_aload_n 2 dX5_send_79 rfl rfl ?_
      refine tw_aload 1 dX5_send_80 rfl ?_
      refine tw_aload_n 3 dX5_send_82 rfl rfl ?_
      obtain ⟨e216, f217, td_218, ca_219, ha_220, da_221, c1_222, c2_223, c3_224, c4_225, rfl, k226, k227, k228, k229, k230, k231, k232, k233, k234, k235, k236, k237, k238, k239, k240, k241, k242⟩ := sp215.1 x 11 kx (by decide)
      refine tw_get (v := .int td_218) rfl in_9 0 dX5_send_83 w_140 rfl (by decide) f217 rfl ?_
      refine tw_aload 0 dX5_send_86 rfl ?_
      refine tw_aload 1 dX5_send_88 rfl ?_
      obtain ⟨e243, f244, n_245, r_246, c_247, go_248, so_249, v_250, rd_251, rf_252, t_253, rfl, k254, k255, k256, k257, k258, k259, k260, k261, k262⟩ := sp215.1 r33 2 q31k (by decide)
      obtain ⟨j263, ow264, fn9, fr9, fc9, fg9, fs9, q265, q266, q267, q268⟩ := k262
      obtain rfl : jb = j263 := by have z := ow264.b q31b; omega
      subst fn9 fr9 fc9 fg9 fs9
      refine tw_getN (v := .int (nI jb)) rfl in_4 0 dX5_send_90 w_502 rfl (by decide) f244 rfl ?_
      obtain ⟨e272, f273, n_274, r_275, c_276, go_277, so_278, v_279, rd_280, rf_281, t_282, rfl, k283, k284, k285, k286, k287, k288, k289, k290, k291⟩ := sp215.1 q50 2 (k42 _ rfl) (by decide)
      obtain ⟨j292, ow293, fn9, fr9, fc9, fg9, fs9, q294, q295, q296, q297⟩ := k291
      obtain rfl : i52 = j292 := by have z := ow293.b bi55; omega
      subst fn9 fr9 fc9 fg9 fs9
      refine tw_bi (tw_callVN (M := mX5_send) (pc := 93) okX0_daysTo dX5_send_93 w_226 rfl f273 [.int (nI jb)] [.int td_218, .ref r33, .ref r3] rfl rfl ⟨by decide, by decide⟩ (Nat.le_of_ble_eq_true rfl) (c2_X0_daysTo d (tw_ad (tw_ad (tw_ad (tw_ad g ((768 + 32 * ja + 8) + 0) (-nI (tw_fr g ja jb 0))) (1312 + 0) (nI (tw_fr g ja jb 0))) ((768 + 32 * ja + 8) + 1) (-nI (tw_fr g ja jb 1))) (1312 + 1) (nI (tw_fr g ja jb 1))) τ h187 sp215.1 q50 (k42 _ rfl) i52 (by omega) bi55 jb (by omega)) 18 108 (Nat.le_of_ble_eq_true rfl) (Nat.le_of_ble_eq_true rfl)) (fun r271 h270 q269 => ?_) (fun E h1 q => q.elim)
      obtain ⟨q269e, q269v⟩ := q269
      rw [q269e]
      refine tw_iadd dX5_send_96 ?_
      refine tw_nmi (fun v298 ev298 => ?_)
      have sd9 : v298 = tw_sD g ja jb := by rw [ev298, q269v]; unfold tw_sD; rw [tw_cP_e ei54 (by omega), tw_ad_ne (by omega), tw_ad_ne (by omega), tw_ad_ne (by omega), tw_ad_ne (by omega)]; rw [k237]; first | done | rfl
      subst sd9
      obtain ⟨e301, f302, n_303, ar_304, p_305, pl_306, go_307, rfl, k308, k309, k310, k311⟩ := sp215.1 r3 3 q1k (by decide)
      obtain ⟨j312, ow313, fn9, fa9, pc314, pc315, lp316⟩ := k311
      obtain rfl : ja = j312 := by have z := ow313.b q1b; omega
      subst fn9 fa9
      refine tw_bv (tw_callVN (M := mX5_send) (pc := 97) okX2_leaveFor dX5_send_97 w_683 rfl f302 [.ref r33, .int (tw_sD g ja jb)] [] rfl rfl ⟨by decide, by decide⟩ (Nat.le_of_ble_eq_true rfl) (c4_X2_leaveFor d (tw_ad (tw_ad (tw_ad (tw_ad g ((768 + 32 * ja + 8) + 0) (-nI (tw_fr g ja jb 0))) (1312 + 0) (nI (tw_fr g ja jb 0))) ((768 + 32 * ja + 8) + 1) (-nI (tw_fr g ja jb 1))) (1312 + 1) (nI (tw_fr g ja jb 1))) τ h187 sp215.1 r3 q1k ja (by omega) q1b r33 q31k jb (by omega) q31b (tw_sD g ja jb)) 18 108 (Nat.le_of_ble_eq_true rfl) (Nat.le_of_ble_eq_true rfl)) (fun h300 q299 => ?_) (fun E h1 q => q.elim)
      have sp317 := sp215.tr q299
      refine tw_aload_n 2 dX5_send_100 rfl rfl ?_
      obtain ⟨e318, f319, n_320, ar_321, p_322, pl_323, go_324, rfl, k325, k326, k327, k328⟩ := sp317.1 r3 3 q1k (by decide)
      obtain ⟨j329, ow330, fn9, fa9, pc331, pc332, lp333⟩ := k328
      obtain rfl : ja = j329 := by have z := ow330.b q1b; omega
      subst fn9 fa9
      refine tw_getN (v := .int ((tw_g1 (tw_g1 (tw_g1 (tw_ad (tw_ad (tw_ad (tw_ad g ((768 + 32 * ja + 8) + 0) (-nI (tw_fr g ja jb 0))) (1312 + 0) (nI (tw_fr g ja jb 0))) ((768 + 32 * ja + 8) + 1) (-nI (tw_fr g ja jb 1))) (1312 + 1) (nI (tw_fr g ja jb 1))) (768 + 32 * ja + 1) (-1)) (768 + 32 * ja + 2) (nI jb)) (768 + 32 * ja + 0) (tw_sD g ja jb)).1 (768 + 32 * ja + 0))) rfl in_6 4 dX5_send_101 w_645 rfl (by decide) f319 rfl ?_
      exact tw_iret dX5_send_104 rfl (Or.inl ⟨_, rfl, (by (try rw [cDa]); (try rw [cDb]); first | done | exact tw_g1_eq), ix0, (by (try rw [cDa]); (try rw [cDb]); first | done | exact lc9), _, (by (try rw [cDa]); (try rw [cDb]); first | done | exact sp317)⟩)
    · have ij9 : i52 = jb := by have z1 := bi55; rw [Option.some.inj c56] at z1; have z2 := q31b; omega
      exact tw_throwS (i := 11) (by decide +kernel) w_471 w_88 rfl at_ISE dX5_send_31 dX5_send_34 dX5_send_35 dX5_send_37 dX5_send_40 ⟨by decide, Nat.le_of_ble_eq_true rfl⟩ (Nat.le_of_ble_eq_true rfl) (Nat.le_of_ble_eq_true rfl) (Or.inr ⟨_, rfl, (Or.inr (⟨rfl, ix0, (by (try rw [cDa]); (try rw [cDb]); first | done | exact (fun z => z.2 (by rw [ei54, ij9])))⟩)), _, sp0⟩)

set_option maxHeartbeats 4000000 in
set_option maxRecDepth 100000 in
theorem c2_X5_settle (d : tw_D) (g : tw_G) (τ : tw_K) (h : tw_H) (hw : tw_wt d g τ h) (x : Nat) (kx : τ x = 11) (a : Int32) (m : Int32) (he : tw_CH g) : tw_Ct d mX5_settle 20 120 [.ref x, .int a, .int m] h (tw_qi (fun r9 h1 => r9 = nI (tw_sg g (tw_DN a) (tw_DN m)) ∧ (tw_ix (g.2 8) a) ∧ (tw_RM m) ∧ (tw_LT g (tw_DN a) (tw_DN m)) ∧ ∃ τ1, tw_sp d τ h (tw_g1 (tw_ad (tw_ad g (768 + 32 * tw_dF g (tw_DN a) + 8 + tw_DN m) (-nI (tw_sg g (tw_DN a) (tw_DN m)))) (768 + 32 * tw_dT g (tw_DN a) + 8 + tw_DN m) (nI (tw_sg g (tw_DN a) (tw_DN m)))) (1152 + 8 * tw_DN a + 2) 1) τ1 h1) (fun E h1 => (E = tw_IOE ∧ ¬ (tw_ix (g.2 8) a) ∨ E = tw_IAE ∧ tw_ix (g.2 8) a ∧ ¬ (tw_RM m) ∨ E = tw_ISE ∧ tw_ix (g.2 8) a ∧ tw_RM m ∧ ¬ (tw_LT g (tw_DN a) (tw_DN m))) ∧ ∃ τ1, tw_sp d τ h g τ1 h1)) := by
  refine tw_of (by decide +kernel) (Nat.le_of_ble_eq_true rfl) ?_
  show tw_W d mX5_settle _ 0 [(0, .ref x), (1, .int a), (2, .int m)] [] h 20 120
  have sp0 := tw_sp.rf hw
  obtain ⟨b96, b97, b98⟩ := tw_b678 hw kx
  refine tw_aload_n 0 dX5_settle_0 rfl rfl ?_
  refine tw_iload_n 1 dX5_settle_1 rfl rfl ?_
  obtain ⟨e4, f5, td_6, ca_7, ha_8, da_9, c1_10, c2_11, c3_12, c4_13, rfl, k14, k15, k16, k17, k18, k19, k20, k21, k22, k23, k24, k25, k26, k27, k28, k29, k30⟩ := sp0.1 x 11 kx (by decide)
  refine tw_br (tw_callV (M := mX5_settle) (pc := 2) okX5_debtAt dX5_settle_2 w_747 rfl f5 [.int a] [] rfl rfl ⟨by decide, by decide⟩ (Nat.le_of_ble_eq_true rfl) (c4_X5_debtAt d g τ h sp0.1 x kx a) 19 114 (Nat.le_of_ble_eq_true rfl) (Nat.le_of_ble_eq_true rfl)) (fun r3 h2 q1 => ?_) (fun E h1 q1 => Or.inr ⟨E, rfl, (Or.inl ⟨q1.1, q1.2.2⟩), τ, by rw [q1.2.1]; exact sp0⟩)
  obtain ⟨q1e, q1k, ja, hja, q1n, q1b⟩ := q1
  rw [q1e]
  subst q1n
  have cDa : tw_DN (nI ja) = ja := nI_clamp (by omega)
  have ixa : tw_ix (g.2 8) (nI ja) := ⟨ja, hja, rfl⟩
  have ix0 := ixa
  refine tw_astore_n [(3, .ref r3), (0, .ref x), (1, .int (nI ja)), (2, .int m)] dX5_settle_5 rfl (by decide) rfl ?_
  refine tw_iload_n 3 dX5_settle_6 rfl rfl ?_
  refine tw_bv (tw_callS (M := mX5_settle) (pc := 7) okX5_needMetal dX5_settle_7 w_573 [.int m] [] rfl rfl ⟨by decide, by decide⟩ (Nat.le_of_ble_eq_true rfl) (c2_X5_needMetal d g τ h sp0.1 m) 18 108 (Nat.le_of_ble_eq_true rfl) (Nat.le_of_ble_eq_true rfl)) (fun h32 q31 => ?_) (fun E h1 q31 => Or.inr ⟨E, rfl, (Or.inr (Or.inl ⟨q31.1, ix0, q31.2.2⟩)), τ, by rw [q31.2.1]; exact sp0⟩)
  obtain ⟨q31e, rcm⟩ := q31
  rw [q31e]
  have rcm0 := rcm
  obtain ⟨k, hk, km⟩ := rcm.k
  subst km
  have cDm : tw_DN (nI k) = k := nI_clamp (by omega)
  have rc0 := rcm0
  refine tw_aload_n 0 dX5_settle_10 rfl rfl ?_
  obtain ⟨e34, f35, v_36, dy_37, pd_38, a_39, b_40, rfl, k41, k42, k43, k44⟩ := sp0.1 r3 4 q1k (by decide)
  obtain ⟨j45, ow46, fv9, fd9, fp9, ⟨i47, hi48, ei49, bi50⟩, i51, hi52, ei53, bi54⟩ := k44
  obtain rfl : ja = j45 := by have z := ow46.b q1b; omega
  subst fv9 fd9 fp9
  refine tw_getN (v := .ref a_39) rfl in_5 0 dX5_settle_11 w_720 rfl (by decide) f35 rfl ?_
  obtain ⟨e55, f56, n_57, ar_58, p_59, pl_60, go_61, rfl, k62, k63, k64, k65⟩ := sp0.1 a_39 3 k41 (by decide)
  obtain ⟨j66, ow67, fn9, fa9, pc68, pc69, lp70⟩ := k65
  obtain rfl : i47 = j66 := by have z := ow67.b bi50; omega
  subst fn9 fa9
  cases pl_60 with
  | none =>
    have pe72 := pc68.n
    refine tw_getN (v := .null) rfl in_6 2 dX5_settle_14 w_641 rfl (by decide) f56 rfl ?_
    have e39 : tw_dF g ja = i47 := tw_dN_e ei49 (by omega)
    have e49 : tw_dT g ja = i51 := tw_dN_e ei53 (by omega)
    refine tw_astoreN [(4, .null), (3, .ref r3), (0, .ref x), (1, .int (nI ja)), (2, .int (nI k))] dX5_settle_17 (by decide) rfl ?_
    refine tw_aload_n 1 dX5_settle_19 rfl rfl ?_
    refine tw_getN (v := .int (g.1 (1152 + 8 * ja + 2))) rfl in_5 4 dX5_settle_20 w_728 rfl (by decide) f35 rfl ?_
    refine tw_if_ne 41 dX5_settle_23 (by decide) (fun c73 => ?_) (fun c73 => ?_)
    · have l1 : ¬ (g.1 (1152 + 8 * ja + 2) = 0) := c73
      exact tw_throwS (i := 15) (by decide +kernel) w_471 w_88 rfl at_ISE dX5_settle_41 dX5_settle_44 dX5_settle_45 dX5_settle_47 dX5_settle_50 ⟨by decide, Nat.le_of_ble_eq_true rfl⟩ (Nat.le_of_ble_eq_true rfl) (Nat.le_of_ble_eq_true rfl) (Or.inr ⟨_, rfl, (Or.inr (Or.inr (⟨rfl, ix0, rc0, (by (try rw [cDa]); (try rw [cDm]); first | done | exact (fun z => l1 z.1))⟩))), _, sp0⟩)
    · have l1 : (g.1 (1152 + 8 * ja + 2) = 0) := c73
      refine tw_aloadN 0 dX5_settle_26 rfl ?_
      refine tw_ifnullN 41 dX5_settle_28 (by decide) ?_
      exact tw_throwS (i := 15) (by decide +kernel) w_471 w_88 rfl at_ISE dX5_settle_41 dX5_settle_44 dX5_settle_45 dX5_settle_47 dX5_settle_50 ⟨by decide, Nat.le_of_ble_eq_true rfl⟩ (Nat.le_of_ble_eq_true rfl) (Nat.le_of_ble_eq_true rfl) (Or.inr ⟨_, rfl, (Or.inr (Or.inr (⟨rfl, ix0, rc0, (by (try rw [cDa]); (try rw [cDm]); first | done | exact (fun z => z.2.1 (by rw [e39]; exact pe72)))⟩))), _, sp0⟩)
  | some q71 =>
    obtain ⟨i74, hi75, ei76, bi77⟩ := pc68.s
    refine tw_getN (v := .ref q71) rfl in_6 2 dX5_settle_14 w_641 rfl (by decide) f56 rfl ?_
    have e39 : tw_dF g ja = i47 := tw_dN_e ei49 (by omega)
    have e49 : tw_dT g ja = i51 := tw_dN_e ei53 (by omega)
    have hf9 := he.d hja (by omega) b97 (Or.inl rfl) ei49
    have hp9 := he.p hf9 (by omega) b96 ei76
    have E9 := he.1 i74 hp9
    refine tw_astore [(4, .ref q71), (3, .ref r3), (0, .ref x), (1, .int (nI ja)), (2, .int (nI k))] dX5_settle_17 (by decide) rfl ?_
    refine tw_aload_n 1 dX5_settle_19 rfl rfl ?_
    refine tw_getN (v := .int (g.1 (1152 + 8 * ja + 2))) rfl in_5 4 dX5_settle_20 w_728 rfl (by decide) f35 rfl ?_
    refine tw_if_ne 41 dX5_settle_23 (by decide) (fun c78 => ?_) (fun c78 => ?_)
    · have l1 : ¬ (g.1 (1152 + 8 * ja + 2) = 0) := c78
      exact tw_throwS (i := 15) (by decide +kernel) w_471 w_88 rfl at_ISE dX5_settle_41 dX5_settle_44 dX5_settle_45 dX5_settle_47 dX5_settle_50 ⟨by decide, Nat.le_of_ble_eq_true rfl⟩ (Nat.le_of_ble_eq_true rfl) (Nat.le_of_ble_eq_true rfl) (Or.inr ⟨_, rfl, (Or.inr (Or.inr (⟨rfl, ix0, rc0, (by (try rw [cDa]); (try rw [cDm]); first | done | exact (fun z => l1 z.1))⟩))), _, sp0⟩)
    · have l1 : (g.1 (1152 + 8 * ja + 2) = 0) := c78
      refine tw_aload 0 dX5_settle_26 rfl ?_
      refine tw_ifnull dX5_settle_28 ?_
      refine tw_aload_n 1 dX5_settle_31 rfl rfl ?_
      refine tw_getN (v := .ref b_40) rfl in_5 1 dX5_settle_32 w_722 rfl (by decide) f35 rfl ?_
      obtain ⟨e79, f80, n_81, ar_82, p_83, pl_84, go_85, rfl, k86, k87, k88, k89⟩ := sp0.1 b_40 3 k42 (by decide)
      obtain ⟨j90, ow91, fn9, fa9, pc92, pc93, lp94⟩ := k89
      obtain rfl : i51 = j90 := by have z := ow91.b bi54; omega
      subst fn9 fa9
      cases pl_84 with
      | none =>
        have pe96 := pc92.n
        refine tw_getN (v := .null) rfl in_6 2 dX5_settle_35 w_641 rfl (by decide) f80 rfl ?_
        refine tw_ifnonnullN dX5_settle_38 ?_
        exact tw_throwS (i := 15) (by decide +kernel) w_471 w_88 rfl at_ISE dX5_settle_41 dX5_settle_44 dX5_settle_45 dX5_settle_47 dX5_settle_50 ⟨by decide, Nat.le_of_ble_eq_true rfl⟩ (Nat.le_of_ble_eq_true rfl) (Nat.le_of_ble_eq_true rfl) (Or.inr ⟨_, rfl, (Or.inr (Or.inr (⟨rfl, ix0, rc0, (by (try rw [cDa]); (try rw [cDm]); first | done | exact (fun z => z.2.2.1 (by rw [e49]; exact pe96)))⟩))), _, sp0⟩)
      | some q95 =>
        obtain ⟨i97, hi98, ei99, bi100⟩ := pc92.s
        refine tw_getN (v := .ref q95) rfl in_6 2 dX5_settle_35 w_641 rfl (by decide) f80 rfl ?_
        refine tw_ifnonnull 51 dX5_settle_38 (by decide) ?_
        refine tw_aload_n 1 dX5_settle_51 rfl rfl ?_
        refine tw_aload_n 2 dX5_settle_52 rfl rfl ?_
        refine tw_get (v := .int td_6) rfl in_9 0 dX5_settle_53 w_140 rfl (by decide) f5 rfl ?_
        obtain ⟨⟨V9, hV9, eV9⟩, ⟨D9, hD9, eD9⟩, -⟩ := he.2.2 ja hja
        have T9 := k26
        rw [k25]
        refine tw_bi (tw_callVN (M := mX5_settle) (pc := 56) okX1_dueOn dX5_settle_56 w_355 rfl f35 [.int (nI (g.2 21))] [] rfl rfl ⟨by decide, by decide⟩ (Nat.le_of_ble_eq_true rfl) (c4_X1_dueOn d g τ h sp0.1 r3 q1k ja (by omega) q1b (g.2 21) V9 D9 eV9 eD9 hV9 (by omega) hD9) 18 108 (Nat.le_of_ble_eq_true rfl) (Nat.le_of_ble_eq_true rfl)) (fun r103 h102 q101 => ?_) (fun E h1 q => q.elim)
        obtain ⟨q101e, q101v⟩ := q101
        rw [q101e]
        have dv9 : r103 = nI (tw_sd g ja) := by unfold tw_sd; rw [eV9, eD9, tw_DN_nI (by omega), tw_DN_nI (by omega)]; exact q101v
        have dl9 : tw_sd g ja ≤ 40000 := by unfold tw_sd; rw [eV9, eD9, tw_DN_nI (by omega), tw_DN_nI (by omega)]; exact tw_dueI hV9 (by omega)
        subst dv9
        refine tw_istore [(5, .int (nI (tw_sd g ja))), (4, .ref q71), (3, .ref r3), (0, .ref x), (1, .int (nI ja)), (2, .int (nI k))] dX5_settle_59 (by decide) rfl ?_
        refine tw_iload_n 5 dX5_settle_61 rfl rfl ?_
        refine tw_if_ne 75 dX5_settle_62 (by decide) (fun c104 => ?_) (fun c104 => ?_)
        · refine tw_iload 0 dX5_settle_75 rfl ?_
          have k09 : k ≠ 0 := fun z => c104 (by rw [z]; rfl)
          have gs9 : (nI (tw_sd g ja)) = nI (tw_sg g ja k) := by unfold tw_sg; rw [if_neg k09]
          rw [gs9]
          refine tw_istore [(6, .int (nI (tw_sg g ja k))), (5, .int (nI (tw_sg g ja k))), (4, .ref q71), (3, .ref r3), (0, .ref x), (1, .int (nI ja)), (2, .int (nI k))] dX5_settle_77 (by decide) rfl ?_
          refine tw_aload_n 3 dX5_settle_79 rfl rfl ?_
          refine tw_getN (v := .ref a_39) rfl in_5 0 dX5_settle_80 w_720 rfl (by decide) f35 rfl ?_
          refine tw_getN (v := .ref p_59) rfl in_6 1 dX5_settle_83 w_639 rfl (by decide) f56 rfl ?_
          refine tw_iload_n 6 dX5_settle_86 rfl rfl ?_
          obtain ⟨e111, f112, a_113, b_114, rfl, k115⟩ := sp0.1 p_59 1 k62 (by decide)
          obtain ⟨b116, ow117, fa9, fb9⟩ := k115
          obtain rfl : (768 + 32 * i47 + 8) = b116 := (ow117.b lp70).symm
          subst fa9 fb9
          refine tw_bi (tw_callVN (M := mX5_settle) (pc := 87) okX3_of dX5_settle_87 w_189 rfl f112 [.int (nI k)] [] rfl rfl ⟨by decide, by decide⟩ (Nat.le_of_ble_eq_true rfl) (c4_X3_of d g τ h sp0.1 p_59 k62 (768 + 32 * i47 + 8) lp70 k (by omega)) 18 108 (Nat.le_of_ble_eq_true rfl) (Nat.le_of_ble_eq_true rfl)) (fun r110 h109 q108 => ?_) (fun E h1 q => q.elim)
          obtain ⟨q108e, q108v⟩ := q108
          rw [q108e]
          refine tw_iload 0 dX5_settle_90 rfl ?_
          refine tw_icmp_ge 105 dX5_settle_92 (by decide) (fun c118 => ?_) (fun c118 => ?_)
          · have l4 : (nI (tw_sg g ja k) ≤ g.1 (768 + 32 * tw_dF g ja + 8 + k)) := by rw [e39, ← q108v]; exact c118
            have lc9 : tw_LT g ja k := ⟨l1, by rw [e39, ei76]; exact tw_nm1 (by omega), by rw [e49, ei99]; exact tw_nm1 (by omega), l4⟩
            refine tw_aload_n 3 dX5_settle_105 rfl rfl ?_
            refine tw_getN (v := .ref a_39) rfl in_5 0 dX5_settle_106 w_720 rfl (by decide) f35 rfl ?_
            refine tw_getN (v := .ref p_59) rfl in_6 1 dX5_settle_109 w_639 rfl (by decide) f56 rfl ?_
            refine tw_iload_n 6 dX5_settle_112 rfl rfl ?_
            refine tw_iload 0 dX5_settle_113 rfl ?_
            refine tw_ineg dX5_settle_115 ?_
            refine tw_nmi (fun v119 ev119 => ?_)
            refine tw_bv (tw_callVN (M := mX5_settle) (pc := 116) okX3_add dX5_settle_116 w_534 rfl f112 [.int (nI k), .int v119] [] rfl rfl ⟨by decide, by decide⟩ (Nat.le_of_ble_eq_true rfl) (c4_X3_add d g τ h sp0.1 p_59 k62 (768 + 32 * i47 + 8) lp70 k (by omega) v119) 18 108 (Nat.le_of_ble_eq_true rfl) (Nat.le_of_ble_eq_true rfl)) (fun h124 q123 => ?_) (fun E h1 q => q.elim)
            have sp126 := sp0.tr q123
            refine tw_aload_n 3 dX5_settle_119 rfl rfl ?_
            obtain ⟨e127, f128, v_129, dy_130, pd_131, a_132, b_133, rfl, k134, k135, k136, k137⟩ := sp126.1 r3 4 q1k (by decide)
            obtain ⟨j138, ow139, fv9, fd9, fp9, ⟨i140, hi141, ei142, bi143⟩, i144, hi145, ei146, bi147⟩ := k137
            obtain rfl : ja = j138 := by have z := ow139.b q1b; omega
            subst fv9 fd9 fp9
            refine tw_getN (v := .ref b_133) rfl in_5 1 dX5_settle_120 w_722 rfl (by decide) f128 rfl ?_
            obtain ⟨e148, f149, n_150, ar_151, p_152, pl_153, go_154, rfl, k155, k156, k157, k158⟩ := sp126.1 b_133 3 k135 (by decide)
            obtain ⟨j159, ow160, fn9, fa9, pc161, pc162, lp163⟩ := k158
            obtain rfl : i144 = j159 := by have z := ow160.b bi147; omega
            subst fn9 fa9
            refine tw_getN (v := .ref p_152) rfl in_6 1 dX5_settle_123 w_639 rfl (by decide) f149 rfl ?_
            refine tw_iload_n 6 dX5_settle_126 rfl rfl ?_
            refine tw_iload 0 dX5_settle_127 rfl ?_
            obtain ⟨e170, f171, a_172, b_173, rfl, k174⟩ := sp126.1 p_152 1 k155 (by decide)
            obtain ⟨b175, ow176, fa9, fb9⟩ := k174
            obtain rfl : (768 + 32 * i144 + 8) = b175 := (ow176.b lp163).symm
            subst fa9 fb9
            refine tw_bv (tw_callVN (M := mX5_settle) (pc := 129) okX3_add dX5_settle_129 w_534 rfl f171 [.int (nI k), .int (nI (tw_sg g ja k))] [] rfl rfl ⟨by decide, by decide⟩ (Nat.le_of_ble_eq_true rfl) (c4_X3_add d (tw_ad g ((768 + 32 * i47 + 8) + k) v119) τ h124 sp126.1 p_152 k155 (768 + 32 * i144 + 8) lp163 k (by omega) (nI (tw_sg g ja k))) 18 108 (Nat.le_of_ble_eq_true rfl) (Nat.le_of_ble_eq_true rfl)) (fun h168 q167 => ?_) (fun E h1 q => q.elim)
            have sp177 := sp126.tr q167
            refine tw_aload_n 3 dX5_settle_132 rfl rfl ?_
            refine tw_iconst (v := 1) dX5_settle_133 (by decide) ?_
            obtain ⟨e178, f179, v_180, dy_181, pd_182, a_183, b_184, rfl, k185, k186, k187, k188⟩ := sp177.1 r3 4 q1k (by decide)
            obtain ⟨j189, ow190, fv9, fd9, fp9, ⟨i191, hi192, ei193, bi194⟩, i195, hi196, ei197, bi198⟩ := k188
            obtain rfl : ja = j189 := by have z := ow190.b q1b; omega
            subst fv9 fd9 fp9
            refine tw_putN rfl in_5 tyX1 tyX1_ok nmX1 4 dX5_settle_134 w_728 rfl (by decide) f179 rfl rfl rfl rfl (Nat.le_of_ble_eq_true rfl) [.ref a_183, .ref b_184, .int ((tw_ad (tw_ad g ((768 + 32 * i47 + 8) + k) v119) ((768 + 32 * i144 + 8) + k) (nI (tw_sg g ja k))).1 (1152 + 8 * ja + 0)), .int ((tw_ad (tw_ad g ((768 + 32 * i47 + 8) + k) v119) ((768 + 32 * i144 + 8) + k) (nI (tw_sg g ja k))).1 (1152 + 8 * ja + 1)), .int 1] rfl ?_
            obtain ⟨h199, eh199⟩ : ∃ z : tw_H, z = tw_up h168 r3 (.inr (5, [.ref a_183, .ref b_184, .int ((tw_ad (tw_ad g ((768 + 32 * i47 + 8) + k) v119) ((768 + 32 * i144 + 8) + k) (nI (tw_sg g ja k))).1 (1152 + 8 * ja + 0)), .int ((tw_ad (tw_ad g ((768 + 32 * i47 + 8) + k) v119) ((768 + 32 * i144 + 8) + k) (nI (tw_sg g ja k))).1 (1152 + 8 * ja + 1)), .int 1])) := ⟨_, rfl⟩
            rw [← eh199]
            have sp200 : tw_sp d τ h (tw_g1 (tw_ad (tw_ad g ((768 + 32 * i47 + 8) + k) v119) ((768 + 32 * i144 + 8) + k) (nI (tw_sg g ja k))) (1152 + 8 * ja + 2) 1) τ h199 := by rw [eh199]; exact sp177.wb q1k (by decide) ow190 ⟨_, _, _, _, _, rfl, k185, k186, (by unfold tw_01; decide), ja, ow190, (tw_g1_ne (by omega)).symm, (tw_g1_ne (by omega)).symm, tw_g1_eq.symm, ⟨i191, hi192, (tw_g1_ne (by omega)).trans ei193, bi194⟩, i195, hi196, (tw_g1_ne (by omega)).trans ei197, bi198⟩ (fun q9 hq9 => tw_g1_ne (by omega)) rfl
            refine tw_iload 0 dX5_settle_137 rfl ?_
            exact tw_iret dX5_settle_139 rfl (Or.inl ⟨_, rfl, (by (try rw [cDa]); (try rw [cDm]); first | done | exact rfl), ix0, rc0, (by (try rw [cDa]); (try rw [cDm]); first | done | exact lc9), _, (by (try rw [cDa]); (try rw [cDm]); first | done | exact (by rw [e39, e49, ← show i144 = i51 from (by have y := ei146; (repeat rw [tw_ad_ne (by omega)] at y); exact tw_nIj (y.symm.trans ei53) (by omega) (by omega))]; exact (by have z := sp200; rw [ev119] at z; exact z)))⟩)
          · have l4 : ¬ (nI (tw_sg g ja k) ≤ g.1 (768 + 32 * tw_dF g ja + 8 + k)) := by rw [e39, ← q108v]; exact c118
            exact tw_throwS (i := 16) (by decide +kernel) w_471 w_88 rfl at_ISE dX5_settle_95 dX5_settle_98 dX5_settle_99 dX5_settle_101 dX5_settle_104 ⟨by decide, Nat.le_of_ble_eq_true rfl⟩ (Nat.le_of_ble_eq_true rfl) (Nat.le_of_ble_eq_true rfl) (Or.inr ⟨_, rfl, (Or.inr (Or.inr (⟨rfl, ix0, rc0, (by (try rw [cDa]); (try rw [cDm]); first | done | exact (fun z => l4 z.2.2.2))⟩))), _, sp0⟩)
        · refine tw_aload 1 dX5_settle_65 rfl ?_
          refine tw_iload 0 dX5_settle_67 rfl ?_
          obtain ⟨e204, f205, n_206, r_207, c_208, go_209, so_210, v_211, rd_212, rf_213, t_214, rfl, k215, k216, k217, k218, k219, k220, k221, k222, k223⟩ := sp0.1 q71 2 (k63 _ rfl) (by decide)
          obtain ⟨j224, ow225, fn9, fr9, fc9, fg9, fs9, q226, q227, q228, q229⟩ := k223
          obtain rfl : i74 = j224 := by have z := ow225.b bi77; omega
          subst fn9 fr9 fc9 fg9 fs9
          refine tw_bi (tw_callVN (M := mX5_settle) (pc := 69) okX0_goldFor dX5_settle_69 w_364 rfl f205 [.int (nI (tw_sd g ja))] [] rfl rfl ⟨by decide, by decide⟩ (Nat.le_of_ble_eq_true rfl) (c4_X0_goldFor d g τ h sp0.1 q71 (k63 _ rfl) i74 (by omega) bi77 (nI (tw_sd g ja)) _ _ rfl E9.1.2.2 E9.1.1 E9.1.2.1 dl9) 18 108 (Nat.le_of_ble_eq_true rfl) (Nat.le_of_ble_eq_true rfl)) (fun r203 h202 q201 => ?_) (fun E h1 q => q.elim)
          obtain ⟨q201e, q201v⟩ := q201
          rw [q201e]
          refine tw_goto 77 dX5_settle_72 (by decide) ?_
          have k09 : k = 0 := tw_nIj (b := 0) c104 (by omega) (by decide)
          have gs9 : r203 = nI (tw_sg g ja k) := by unfold tw_sg; rw [if_pos k09, e39, tw_cP_e ei76 (by omega)]; exact q201v
          subst gs9
          refine tw_istore [(6, .int (nI (tw_sg g ja k))), (5, .int (nI (tw_sd g ja))), (4, .ref q71), (3, .ref r3), (0, .ref x), (1, .int (nI ja)), (2, .int (nI k))] dX5_settle_77 (by decide) rfl ?_
          refine tw_aload_n 3 dX5_settle_79 rfl rfl ?_
          refine tw_getN (v := .ref a_39) rfl in_5 0 dX5_settle_80 w_720 rfl (by decide) f35 rfl ?_
          refine tw_getN (v := .ref p_59) rfl in_6 1 dX5_settle_83 w_639 rfl (by decide) f56 rfl ?_
          refine tw_iload_n 6 dX5_settle_86 rfl rfl ?_
          obtain ⟨e236, f237, a_238, b_239, rfl, k240⟩ := sp0.1 p_59 1 k62 (by decide)
          obtain ⟨b241, ow242, fa9, fb9⟩ := k240
          obtain rfl : (768 + 32 * i47 + 8) = b241 := (ow242.b lp70).symm
          subst fa9 fb9
          refine tw_bi (tw_callVN (M := mX5_settle) (pc := 87) okX3_of dX5_settle_87 w_189 rfl f237 [.int (nI k)] [] rfl rfl ⟨by decide, by decide⟩ (Nat.le_of_ble_eq_true rfl) (c4_X3_of d g τ h sp0.1 p_59 k62 (768 + 32 * i47 + 8) lp70 k (by omega)) 18 108 (Nat.le_of_ble_eq_true rfl) (Nat.le_of_ble_eq_true rfl)) (fun r235 h234 q233 => ?_) (fun E h1 q => q.elim)
          obtain ⟨q233e, q233v⟩ := q233
          rw [q233e]
          refine tw_iload 0 dX5_settle_90 rfl ?_
          refine tw_icmp_ge 105 dX5_settle_92 (by decide) (fun c243 => ?_) (fun c243 => ?_)
          · have l4 : (nI (tw_sg g ja k) ≤ g.1 (768 + 32 * tw_dF g ja + 8 + k)) := by rw [e39, ← q233v]; exact c243
            have lc9 : tw_LT g ja k := ⟨l1, by rw [e39, ei76]; exact tw_nm1 (by omega), by rw [e49, ei99]; exact tw_nm1 (by omega), l4⟩
            refine tw_aload_n 3 dX5_settle_105 rfl rfl ?_
            refine tw_getN (v := .ref a_39) rfl in_5 0 dX5_settle_106 w_720 rfl (by decide) f35 rfl ?_
            refine tw_getN (v := .ref p_59) rfl in_6 1 dX5_settle_109 w_639 rfl (by decide) f56 rfl ?_
            refine tw_iload_n 6 dX5_settle_112 rfl rfl ?_
            refine tw_iload 0 dX5_settle_113 rfl ?_
            refine tw_ineg dX5_settle_115 ?_
            refine tw_nmi (fun v244 ev244 => ?_)
            refine tw_bv (tw_callVN (M := mX5_settle) (pc := 116) okX3_add dX5_settle_116 w_534 rfl f237 [.int (nI k), .int v244] [] rfl rfl ⟨by decide, by decide⟩ (Nat.le_of_ble_eq_true rfl) (c4_X3_add d g τ h sp0.1 p_59 k62 (768 + 32 * i47 + 8) lp70 k (by omega) v244) 18 108 (Nat.le_of_ble_eq_true rfl) (Nat.le_of_ble_eq_true rfl)) (fun h249 q248 => ?_) (fun E h1 q => q.elim)
            have sp251 := sp0.tr q248
            refine tw_aload_n 3 dX5_settle_119 rfl rfl ?_
            obtain ⟨e252, f253, v_254, dy_255, pd_256, a_257, b_258, rfl, k259, k260, k261, k262⟩ := sp251.1 r3 4 q1k (by decide)
            obtain ⟨j263, ow264, fv9, fd9, fp9, ⟨i265, hi266, ei267, bi268⟩, i269, hi270, ei271, bi272⟩ := k262
            obtain rfl : ja = j263 := by have z := ow264.b q1b; omega
            subst fv9 fd9 fp9
            refine tw_getN (v := .ref b_258) rfl in_5 1 dX5_settle_120 w_722 rfl (by decide) f253 rfl ?_
            obtain ⟨e273, f274, n_275, ar_276, p_277, pl_278, go_279, rfl, k280, k281, k282, k283⟩ := sp251.1 b_258 3 k260 (by decide)
            obtain ⟨j284, ow285, fn9, fa9, pc286, pc287, lp288⟩ := k283
            obtain rfl : i269 = j284 := by have z := ow285.b bi272; omega
            subst fn9 fa9
            refine tw_getN (v := .ref p_277) rfl in_6 1 dX5_settle_123 w_639 rfl (by decide) f274 rfl ?_
            refine tw_iload_n 6 dX5_settle_126 rfl rfl ?_
            refine tw_iload 0 dX5_settle_127 rfl ?_
            obtain ⟨e295, f296, a_297, b_298, rfl, k299⟩ := sp251.1 p_277 1 k280 (by decide)
            obtain ⟨b300, ow301, fa9, fb9⟩ := k299
            obtain rfl : (768 + 32 * i269 + 8) = b300 := (ow301.b lp288).symm
            subst fa9 fb9
            refine tw_bv (tw_callVN (M := mX5_settle) (pc := 129) okX3_add dX5_settle_129 w_534 rfl f296 [.int (nI k), .int (nI (tw_sg g ja k))] [] rfl rfl ⟨by decide, by decide⟩ (Nat.le_of_ble_eq_true rfl) (c4_X3_add d (tw_ad g ((768 + 32 * i47 + 8) + k) v244) τ h249 sp251.1 p_277 k280 (768 + 32 * i269 + 8) lp288 k (by omega) (nI (tw_sg g ja k))) 18 108 (Nat.le_of_ble_eq_true rfl) (Nat.le_of_ble_eq_true rfl)) (fun h293 q292 => ?_) (fun E h1 q => q.elim)
            have sp302 := sp251.tr q292
            refine tw_aload_n 3 dX5_settle_132 rfl rfl ?_
            refine tw_iconst (v := 1) dX5_settle_133 (by decide) ?_
            obtain ⟨e303, f304, v_305, dy_306, pd_307, a_308, b_309, rfl, k310, k311, k312, k313⟩ := sp302.1 r3 4 q1k (by decide)
            obtain ⟨j314, ow315, fv9, fd9, fp9, ⟨i316, hi317, ei318, bi319⟩, i320, hi321, ei322, bi323⟩ := k313
            obtain rfl : ja = j314 := by have z := ow315.b q1b; omega
            subst fv9 fd9 fp9
            refine tw_putN rfl in_5 tyX1 tyX1_ok nmX1 4 dX5_settle_134 w_728 rfl (by decide) f304 rfl rfl rfl rfl (Nat.le_of_ble_eq_true rfl) [.ref a_308, .ref b_309, .int ((tw_ad (tw_ad g ((768 + 32 * i47 + 8) + k) v244) ((768 + 32 * i269 + 8) + k) (nI (tw_sg g ja k))).1 (1152 + 8 * ja + 0)), .int ((tw_ad (tw_ad g ((768 + 32 * i47 + 8) + k) v244) ((768 + 32 * i269 + 8) + k) (nI (tw_sg g ja k))).1 (1152 + 8 * ja + 1)), .int 1] rfl ?_
            obtain ⟨h324, eh324⟩ : ∃ z : tw_H, z = tw_up h293 r3 (.inr (5, [.ref a_308, .ref b_309, .int ((tw_ad (tw_ad g ((768 + 32 * i47 + 8) + k) v244) ((768 + 32 * i269 + 8) + k) (nI (tw_sg g ja k))).1 (1152 + 8 * ja + 0)), .int ((tw_ad (tw_ad g ((768 + 32 * i47 + 8) + k) v244) ((768 + 32 * i269 + 8) + k) (nI (tw_sg g ja k))).1 (1152 + 8 * ja + 1)), .int 1])) := ⟨_, rfl⟩
            rw [← eh324]
            have sp325 : tw_sp d τ h (tw_g1 (tw_ad (tw_ad g ((768 + 32 * i47 + 8) + k) v244) ((768 + 32 * i269 + 8) + k) (nI (tw_sg g ja k))) (1152 + 8 * ja + 2) 1) τ h324 := by rw [eh324]; exact sp302.wb q1k (by decide) ow315 ⟨_, _, _, _, _, rfl, k310, k311, (by unfold tw_01; decide), ja, ow315, (tw_g1_ne (by omega)).symm, (tw_g1_ne (by omega)).symm, tw_g1_eq.symm, ⟨i316, hi317, (tw_g1_ne (by omega)).trans ei318, bi319⟩, i320, hi321, (tw_g1_ne (by omega)).trans ei322, bi323⟩ (fun q9 hq9 => tw_g1_ne (by omega)) rfl
            refine tw_iload 0 dX5_settle_137 rfl ?_
            exact tw_iret dX5_settle_139 rfl (Or.inl ⟨_, rfl, (by (try rw [cDa]); (try rw [cDm]); first | done | exact rfl), ix0, rc0, (by (try rw [cDa]); (try rw [cDm]); first | done | exact lc9), _, (by (try rw [cDa]); (try rw [cDm]); first | done | exact (by rw [e39, e49, ← show i269 = i51 from (by have y := ei271; (repeat rw [tw_ad_ne (by omega)] at y); exact tw_nIj (y.symm.trans ei53) (by omega) (by omega))]; exact (by have z := sp325; rw [ev244] at z; exact z)))⟩)
          · have l4 : ¬ (nI (tw_sg g ja k) ≤ g.1 (768 + 32 * tw_dF g ja + 8 + k)) := by rw [e39, ← q233v]; exact c243
            exact tw_throwS (i := 16) (by decide +kernel) w_471 w_88 rfl at_ISE dX5_settle_95 dX5_settle_98 dX5_settle_99 dX5_settle_101 dX5_settle_104 ⟨by decide, Nat.le_of_ble_eq_true rfl⟩ (Nat.le_of_ble_eq_true rfl) (Nat.le_of_ble_eq_true rfl) (Or.inr ⟨_, rfl, (Or.inr (Or.inr (⟨rfl, ix0, rc0, (by (try rw [cDa]); (try rw [cDm]); first | done | exact (fun z => l4 z.2.2.2))⟩))), _, sp0⟩)

set_option maxHeartbeats 4000000 in
set_option maxRecDepth 100000 in
theorem c2_X5_house (d : tw_D) (g : tw_G) (τ : tw_K) (h : tw_H) (hw : tw_wt d g τ h) (x : Nat) (kx : τ x = 11) (a : Int32) (go : Int32) (si : Int32) (he6 : g.2 7 = g.2 1) (he24 : g.2 130 = 768 + 32 * g.2 7) : tw_Ct d mX5_house 20 120 [.ref x, .int a, .int go, .int si] h (tw_qi (fun r9 h1 => r9 = nI (g.2 1) ∧ (tw_ix (g.2 6) a) ∧ (tw_RH go si) ∧ (g.2 1 < 6) ∧ ∃ y9 p9 τ1, tw_sp d τ h (tw_ad (tw_ad (tw_gI (tw_gH g (768 + 32 * g.2 7) y9 p9 a go si) 7 1) (1336 + 0) go) (1336 + 1) si) τ1 h1) (fun E h1 => (E = tw_IOE ∧ ¬ (tw_ix (g.2 6) a) ∨ E = tw_IAE ∧ tw_ix (g.2 6) a ∧ ¬ (tw_RH go si) ∨ E = tw_ISE ∧ tw_ix (g.2 6) a ∧ tw_RH go si ∧ ¬ (g.2 1 < 6)) ∧ ∃ τ1, tw_sp d τ h g τ1 h1)) := by
  refine tw_of (by decide +kernel) (Nat.le_of_ble_eq_true rfl) ?_
  show tw_W d mX5_house _ 0 [(0, .ref x), (1, .int a), (2, .int go), (3, .int si)] [] h 20 120
  have sp0 := tw_sp.rf hw
  obtain ⟨b96, b97, b98⟩ := tw_b678 hw kx
  refine tw_aload_n 0 dX5_house_0 rfl rfl ?_
  refine tw_iload_n 1 dX5_house_1 rfl rfl ?_
  obtain ⟨e4, f5, td_6, ca_7, ha_8, da_9, c1_10, c2_11, c3_12, c4_13, rfl, k14, k15, k16, k17, k18, k19, k20, k21, k22, k23, k24, k25, k26, k27, k28, k29, k30⟩ := sp0.1 x 11 kx (by decide)
  refine tw_br (tw_callV (M := mX5_house) (pc := 2) okX5_countryAt dX5_house_2 w_546 rfl f5 [.int a] [] rfl rfl ⟨by decide, by decide⟩ (Nat.le_of_ble_eq_true rfl) (c3_X5_countryAt d g τ h sp0.1 x kx a) 19 114 (Nat.le_of_ble_eq_true rfl) (Nat.le_of_ble_eq_true rfl)) (fun r3 h2 q1 => ?_) (fun E h1 q1 => Or.inr ⟨E, rfl, (Or.inl ⟨q1.1, q1.2.2⟩), τ, by rw [q1.2.1]; exact sp0⟩)
  obtain ⟨q1e, q1k, ja, hja, q1n, q1b⟩ := q1
  rw [q1e]
  subst q1n
  have cDa : tw_DN (nI ja) = ja := nI_clamp (by omega)
  have ixa : tw_ix (g.2 6) (nI ja) := ⟨ja, hja, rfl⟩
  have ix0 := ixa
  refine tw_astore [(4, .ref r3), (0, .ref x), (1, .int (nI ja)), (2, .int go), (3, .int si)] dX5_house_5 (by decide) rfl ?_
  refine tw_iload_n 3 dX5_house_7 rfl rfl ?_
  refine tw_iconst (v := 0) dX5_house_8 (by decide) ?_
  refine tw_ldc (v := 99999) dX5_house_9 w_470 ?_
  refine tw_bv (tw_callS (M := mX5_house) (pc := 11) okX5_needRange dX5_house_11 w_399 [.int go, .int 0, .int 99999] [] rfl rfl ⟨by decide, by decide⟩ (Nat.le_of_ble_eq_true rfl) (c2_X5_needRange d g τ h sp0.1 go 0 99999) 18 108 (Nat.le_of_ble_eq_true rfl) (Nat.le_of_ble_eq_true rfl)) (fun h32 q31 => ?_) (fun E h1 q31 => Or.inr ⟨E, rfl, (Or.inr (Or.inl ⟨q31.1, ix0, fun z => q31.2.2 z.1⟩)), τ, by rw [q31.2.1]; exact sp0⟩)
  obtain ⟨q31e, rlgo⟩ := q31
  rw [q31e]
  refine tw_iload_n 4 dX5_house_14 rfl rfl ?_
  refine tw_iconst (v := 0) dX5_house_15 (by decide) ?_
  refine tw_ldc (v := 99999) dX5_house_16 w_470 ?_
  refine tw_bv (tw_callS (M := mX5_house) (pc := 18) okX5_needRange dX5_house_18 w_399 [.int si, .int 0, .int 99999] [] rfl rfl ⟨by decide, by decide⟩ (Nat.le_of_ble_eq_true rfl) (c2_X5_needRange d g τ h sp0.1 si 0 99999) 17 102 (Nat.le_of_ble_eq_true rfl) (Nat.le_of_ble_eq_true rfl)) (fun h35 q34 => ?_) (fun E h1 q34 => Or.inr ⟨E, rfl, (Or.inr (Or.inl ⟨q34.1, ix0, fun z => q34.2.2 z.2⟩)), τ, by rw [q34.2.1]; exact sp0⟩)
  obtain ⟨q34e, rlsi⟩ := q34
  rw [q34e]
  have rc0 : tw_RH go si := ⟨rlgo, rlsi⟩
  refine tw_aload_n 1 dX5_house_21 rfl rfl ?_
  refine tw_get (v := .int (nI (g.2 1))) rfl in_9 5 dX5_house_22 w_145 rfl (by decide) f5 rfl ?_
  refine tw_aload_n 1 dX5_house_25 rfl rfl ?_
  refine tw_get (v := .ref ha_8) rfl in_9 4 dX5_house_26 w_144 rfl (by decide) f5 rfl ?_
  obtain ⟨e37, f38, F39, rfl, k40, pn41, pb42, px43, pf44⟩ := sp0.1 ha_8 9 k15 (by decide)
  refine tw_alen (v := nI 6) 5 rfl dX5_house_29 f38 rfl ?_
  refine tw_icmp_lt 43 dX5_house_30 (by decide) (fun c45 => ?_) (fun c45 => ?_)
  · refine tw_aload_n 1 dX5_house_43 rfl rfl ?_
    refine tw_get (v := .int (nI (g.2 1))) rfl in_9 5 dX5_house_44 w_145 rfl (by decide) f5 rfl ?_
    refine tw_istore [(5, .int (nI (g.2 1))), (4, .ref r3), (0, .ref x), (1, .int (nI ja)), (2, .int go), (3, .int si)] dX5_house_47 (by decide) rfl ?_
    refine tw_aload_n 2 dX5_house_49 rfl rfl ?_
    refine tw_get (v := .ref ha_8) rfl in_9 4 dX5_house_50 w_144 rfl (by decide) f5 rfl ?_
    refine tw_iload 0 dX5_house_53 rfl ?_
    refine tw_new (ci := 6) rfl in_6 tyX2 tyX2_ok dX5_house_55 w_121 w_217 w_99 (fs := [.int 0, .null, .null, .null, .int 0]) (fun j hj => by rcases (show j = 0 ∨ j = 1 ∨ j = 2 ∨ j = 3 ∨ j = 4 by omega) with rfl | rfl | rfl | rfl | rfl <;> rfl) 16 97 (Nat.le_of_ble_eq_true rfl) (Nat.le_of_ble_eq_true rfl) (fun q46 hq47 hA48 => ?_)
    have n49 := sp0.nn hq47
    have z50 := sp0.1.none hq47
    obtain ⟨h51, eh51⟩ : ∃ z : tw_H, z = tw_up h q46 (.inr (6, [.int 0, .null, .null, .null, .int 0])) := ⟨_, rfl⟩
    rw [← eh51]
    have sp52 : tw_sp d τ h g τ h51 := by rw [eh51]; exact sp0.mk hq47
    have f53 : h51 q46 = some (.inr (6, [.int 0, .null, .null, .null, .int 0])) := by rw [eh51]; exact tw_up_s
    refine tw_dup dX5_house_58 rfl ?_
    refine tw_iload 0 dX5_house_59 rfl ?_
    refine tw_aload 1 dX5_house_61 rfl ?_
    refine tw_new (ci := 7) rfl in_7 tyX3 tyX3_ok dX5_house_63 w_125 w_126 w_78 (fs := [.int 0, .int 0]) (fun j hj => by rcases (show j = 0 ∨ j = 1 by omega) with rfl | rfl <;> rfl) 15 95 (Nat.le_of_ble_eq_true rfl) (Nat.le_of_ble_eq_true rfl) (fun q54 hq55 hA56 => ?_)
    have n57 := sp52.nn hq55
    have z58 := sp52.1.none hq55
    have ne59 := tw_neF f53 hq55
    obtain ⟨h60, eh60⟩ : ∃ z : tw_H, z = tw_up h51 q54 (.inr (7, [.int 0, .int 0])) := ⟨_, rfl⟩
    rw [← eh60]
    have sp61 : tw_sp d τ h g τ h60 := by rw [eh60]; exact sp52.mk hq55
    have f62 : h60 q46 = some (.inr (6, [.int 0, .null, .null, .null, .int 0])) := by rw [eh60, tw_up_n ne59]; exact f53
    have f63 : h60 q54 = some (.inr (7, [.int 0, .int 0])) := by rw [eh60]; exact tw_up_s
    refine tw_dup dX5_house_66 rfl ?_
    refine tw_iload_n 4 dX5_house_67 rfl rfl ?_
    refine tw_iload_n 5 dX5_house_68 rfl rfl ?_
    refine tw_bv (tw_callIN (M := mX5_house) (pc := 69) okX3_init dX5_house_69 w_127 rfl [.int go, .int si] [.ref q54, .ref r3, .int (nI (g.2 1)), .ref q46, .ref q46, .int (nI (g.2 1)), .ref ha_8] rfl rfl ⟨by decide, by decide⟩ (Nat.le_of_ble_eq_true rfl) (c2_X3_init d g τ h60 sp61.1 q54 z58 f63 go si) 15 95 (Nat.le_of_ble_eq_true rfl) (Nat.le_of_ble_eq_true rfl)) (fun h68 q67 => ?_) (fun E h1 q => q.elim)
    have sp69 : tw_sp d τ h g τ h68 := by rw [q67]; exact sp61.wl n57 z58
    have f70 : h68 q46 = some (.inr (6, [.int 0, .null, .null, .null, .int 0])) := by rw [q67, tw_up_n ne59]; exact f62
    have f71 : h68 q54 = some (.inr (7, [.int go, .int si])) := by rw [q67]; exact tw_up_s
    refine tw_bv (tw_callIN (M := mX5_house) (pc := 72) okX2_init dX5_house_72 w_632 rfl [.int (nI (g.2 1)), .ref r3, .ref q54] [.ref q46, .int (nI (g.2 1)), .ref ha_8] rfl rfl ⟨by decide, by decide⟩ (Nat.le_of_ble_eq_true rfl) (c2_X2_init d g τ h68 sp69.1 q46 z50 f70 (nI (g.2 1)) r3 q54) 15 95 (Nat.le_of_ble_eq_true rfl) (Nat.le_of_ble_eq_true rfl)) (fun h76 q75 => ?_) (fun E h1 q => q.elim)
    have sp77 : tw_sp d τ h g τ h76 := by rw [q75]; exact sp69.wl n49 z50
    have f78 : h76 q54 = some (.inr (7, [.int go, .int si])) := by rw [q75, tw_up_n (Ne.symm ne59)]; exact f71
    have f79 : h76 q46 = some (.inr (6, [.int (nI (g.2 1)), .ref q54, .ref r3, .null, .int (-1)])) := by rw [q75]; exact tw_up_s
    have lt0 : g.2 1 < 6 := tw_klt2 c45 k22 (by decide)
    have lc9 := lt0
    have lt7 : g.2 7 < 6 := by omega
    have oo := tw_gH_o (g := g) (b := (768 + 32 * g.2 7)) (j := g.2 7) (x := q46) (p := q54) (r := nI ja) (gd := go) (sv := si) rfl lt7 (Ne.symm ne59)
    have vv := tw_gH_v (g := g) (b := (768 + 32 * g.2 7)) (x := q46) (p := q54) (r := nI ja) (gd := go) (sv := si)
    have ww := tw_gH_w (g := g) (b := (768 + 32 * g.2 7)) (j := g.2 7) (τ := τ) (x := q46) (p := q54) (r := nI ja) (gd := go) (sv := si) rfl lt7 he24 z50 z58
    have g2n : ∀ i, i < 128 → (tw_gH g (768 + 32 * g.2 7) q46 q54 (nI ja) go si).2 i = g.2 i := fun i hi => tw_gH_2 (by omega) (by omega) (by omega)
    obtain ⟨gC, egC⟩ : ∃ z : tw_G, z = tw_gH g (768 + 32 * g.2 7) q46 q54 (nI ja) go si := ⟨_, rfl⟩
    rw [← egC] at oo vv ww g2n
    have sp80 : tw_sp d τ h gC τ h76 := sp77.gw2 ww
    have bp9 : gC.2 (4096 + r3) = 160 + 64 * ja := (ww.2.2.2 r3 (by rw [q1k]; decide)).trans q1b
    obtain ⟨τ81, eτ81⟩ : ∃ z : tw_K, z = tw_ku τ q54 1 := ⟨_, rfl⟩
    have le82 : tw_le τ τ81 := by rw [eτ81]; exact tw_ku_le z58
    have k83 : τ81 x = 11 := le82.k kx (by decide)
    have k84 : τ81 ca_7 = 8 := le82.k k14 (by decide)
    have k85 : τ81 ha_8 = 9 := le82.k k15 (by decide)
    have k86 : τ81 da_9 = 10 := le82.k k16 (by decide)
    have k87 : τ81 c1_10 = 1 := le82.k k17 (by decide)
    have k88 : τ81 c2_11 = 1 := le82.k k18 (by decide)
    have k89 : τ81 c3_12 = 1 := le82.k k19 (by decide)
    have k90 : τ81 c4_13 = 1 := le82.k k20 (by decide)
    have k91 : τ81 r3 = 2 := le82.k q1k (by decide)
    have sp92 : tw_sp d τ h gC τ81 h76 := by rw [eτ81]; exact sp80.ty n57 z58 f78 (by rw [← eτ81]; exact ⟨_, _, rfl, _, oo.2, vv.2.2.2.1.symm, vv.2.2.2.2.symm⟩)
    have k93 : τ81 q54 = 1 := by rw [eτ81]; exact tw_ku_s
    have z94 : τ81 q46 = 0 := by rw [eτ81, tw_ku_n ne59]; exact z50
    obtain ⟨τ95, eτ95⟩ : ∃ z : tw_K, z = tw_ku τ81 q46 3 := ⟨_, rfl⟩
    have le96 : tw_le τ81 τ95 := by rw [eτ95]; exact tw_ku_le z94
    have k97 : τ95 x = 11 := le96.k k83 (by decide)
    have k98 : τ95 ca_7 = 8 := le96.k k84 (by decide)
    have k99 : τ95 ha_8 = 9 := le96.k k85 (by decide)
    have k100 : τ95 da_9 = 10 := le96.k k86 (by decide)
    have k101 : τ95 c1_10 = 1 := le96.k k87 (by decide)
    have k102 : τ95 c2_11 = 1 := le96.k k88 (by decide)
    have k103 : τ95 c3_12 = 1 := le96.k k89 (by decide)
    have k104 : τ95 c4_13 = 1 := le96.k k90 (by decide)
    have k105 : τ95 r3 = 2 := le96.k k91 (by decide)
    have k106 : τ95 q54 = 1 := le96.k k93 (by decide)
    have sp107 : tw_sp d τ h gC τ95 h76 := by rw [eτ95]; exact sp92.ty n49 z94 f79 (by rw [← eτ95]; exact ⟨_, _, q54, some r3, none, rfl, k106, (fun _ z => by cases z; exact k105), (fun _ z => by cases z), g.2 7, oo.1, by rw [he6], vv.1.symm, Or.inr ⟨r3, ja, rfl, by omega, vv.2.1, bp9⟩, Or.inl ⟨rfl, vv.2.2.1⟩, oo.2.2.2.2.2⟩)
    have k108 : τ95 q46 = 3 := by rw [eτ95]; exact tw_ku_s
    obtain ⟨e109, f110, F111, rfl, k112, pn113, pb114, px115, pf116⟩ := sp107.1 ha_8 9 k99 (by decide)
    refine tw_aast (ci := 6) 5 rfl rfl dX5_house_75 f110 f79 (vp_in_nI lt0 (by decide)) ?_
    have gcA : gC.2 7 = g.2 7 := g2n 7 (by decide)
    obtain ⟨gA, eA⟩ : ∃ z : tw_G, z = tw_g2 gC 7 (gC.2 7 + 1) := ⟨_, rfl⟩
    have ga1 : ∀ i, i ≠ 7 → gA.2 i = gC.2 i := by rw [eA]; intro i hi; exact if_neg hi
    have cl0 : (nI (g.2 1)).toNatClampNeg = gC.2 7 := by rw [nI_clamp (by omega), gcA, he6]
    obtain ⟨h117, eh117⟩ : ∃ z : tw_H, z = tw_up h76 ha_8 (.inl (d.2 5, 6, .inr (.inr (.inr (.inr (va_up F111 (nI (g.2 1)).toNatClampNeg (some q46))))))) := ⟨_, rfl⟩
    rw [← eh117]
    have sp118 : tw_sp d τ h gA τ95 h117 := by rw [eh117]; exact sp107.g9 k99 ⟨_, rfl, tw_okup k112 k108, by rw [eA, cl0]; exact tw_ixup pn113, by rw [eA]; show gC.2 7 + 1 ≤ 6; omega, by rw [ga1 19 (by decide)]; exact px115, fun j q hq => by rw [ga1 _ (by omega)]; rw [cl0] at hq; unfold va_up at hq; by_cases z : j = gC.2 7; (rw [if_pos z] at hq; cases hq; rw [z, gcA]; exact oo.1.2.2.2.2); (rw [if_neg z] at hq; exact pf116 j q hq)⟩ (by rw [eA]; rfl) ga1
    refine tw_aload_n 2 dX5_house_76 rfl rfl ?_
    refine tw_iload 0 dX5_house_77 rfl ?_
    refine tw_iconst (v := 1) dX5_house_79 (by decide) ?_
    refine tw_iadd dX5_house_80 ?_
    refine tw_nmi (fun v119 ev119 => ?_)
    obtain ⟨e120, f121, td_122, ca_123, ha_124, da_125, c1_126, c2_127, c3_128, c4_129, rfl, k130, k131, k132, k133, k134, k135, k136, k137, k138, k139, k140, k141, k142, k143, k144, k145, k146⟩ := sp118.1 x 11 k97 (by decide)
    obtain ⟨gB, eB⟩ : ∃ z : tw_G, z = tw_g2 gA 1 (gA.2 1 + 1) := ⟨_, rfl⟩
    have eGG : gB = tw_gI gC 7 1 := by rw [eB, eA]; rfl
    have gcK : gC.2 1 = g.2 1 := g2n 1 (by decide)
    have q147 : v119 = nI (gB.2 1) := by rw [ev119, nI_1, eB]; show nI (g.2 1 + 1) = nI (gA.2 1 + 1); rw [ga1 1 (by decide), gcK]
    subst q147
    have egB : gB = tw_g2 gA 1 (gA.2 1 + 1) := eB
    refine tw_put rfl in_9 tyX5 tyX5_ok nmX5 5 dX5_house_81 w_145 rfl (by decide) f121 rfl rfl rfl rfl (Nat.le_of_ble_eq_true rfl) [.int td_122, .int (gA.1 0), .ref ca_123, .int (nI (gA.2 0)), .ref ha_124, .int (nI (gB.2 1)), .ref da_125, .int (nI (gA.2 2)), .ref c1_126, .ref c2_127, .ref c3_128, .ref c4_129] rfl ?_
    obtain ⟨h148, eh148⟩ : ∃ z : tw_H, z = tw_up h117 x (.inr (9, [.int td_122, .int (gA.1 0), .ref ca_123, .int (nI (gA.2 0)), .ref ha_124, .int (nI (gB.2 1)), .ref da_125, .int (nI (gA.2 2)), .ref c1_126, .ref c2_127, .ref c3_128, .ref c4_129])) := ⟨_, rfl⟩
    rw [← eh148]
    have sp149 : tw_sp d τ h gB τ95 h148 := by rw [eh148]; exact sp118.g11 k97 ⟨td_122, ca_123, ha_124, da_125, c1_126, c2_127, c3_128, c4_129, (by rw [egB]; rfl), k130, k131, k132, k133, k134, k135, k136, (by rw [egB]; exact k137), (by rw [egB]; exact (show gA.2 1 + 1 ≤ 6 by rw [ga1 1 (by decide), gcK]; exact lt0)), (by rw [egB]; exact k139), (by rw [egB]; exact k140), (by rw [egB]; exact k141), (by rw [egB]; exact k142), (by rw [egB]; exact (tw_g2_ne (by omega)).trans k143), (by rw [egB]; exact (tw_g2_ne (by omega)).trans k144), (by rw [egB]; exact (tw_g2_ne (by omega)).trans k145), (by rw [egB]; exact (tw_g2_ne (by omega)).trans k146)⟩ (by rw [egB]; intro i hi; rfl) (by rw [egB]; intro i hi hj; exact if_neg (by omega))
    refine tw_aload_n 2 dX5_house_84 rfl rfl ?_
    obtain ⟨e150, f151, td_152, ca_153, ha_154, da_155, c1_156, c2_157, c3_158, c4_159, rfl, k160, k161, k162, k163, k164, k165, k166, k167, k168, k169, k170, k171, k172, k173, k174, k175, k176⟩ := sp149.1 x 11 k97 (by decide)
    refine tw_get (v := .ref c4_159) rfl in_9 11 dX5_house_85 w_151 rfl (by decide) f151 rfl ?_
    refine tw_iconst (v := 0) dX5_house_88 (by decide) ?_
    refine tw_iload_n 4 dX5_house_89 rfl rfl ?_
    obtain ⟨e183, f184, a_185, b_186, rfl, k187⟩ := sp149.1 c4_159 1 k166 (by decide)
    obtain ⟨b188, ow189, fa9, fb9⟩ := k187
    obtain rfl : 1336 = b188 := (ow189.b k176).symm
    subst fa9 fb9
    refine tw_bv (tw_callVN (M := mX5_house) (pc := 90) okX3_add dX5_house_90 w_534 rfl f184 [.int 0, .int go] [] rfl rfl ⟨by decide, by decide⟩ (Nat.le_of_ble_eq_true rfl) (c4_X3_add d gB τ95 h148 sp149.1 c4_159 k166 1336 k176 0 (by omega) go) 15 95 (Nat.le_of_ble_eq_true rfl) (Nat.le_of_ble_eq_true rfl)) (fun h181 q180 => ?_) (fun E h1 q => q.elim)
    have sp190 := sp149.tr q180
    refine tw_aload_n 2 dX5_house_93 rfl rfl ?_
    obtain ⟨e191, f192, td_193, ca_194, ha_195, da_196, c1_197, c2_198, c3_199, c4_200, rfl, k201, k202, k203, k204, k205, k206, k207, k208, k209, k210, k211, k212, k213, k214, k215, k216, k217⟩ := sp190.1 x 11 k97 (by decide)
    refine tw_get (v := .ref c4_200) rfl in_9 11 dX5_house_94 w_151 rfl (by decide) f192 rfl ?_
    refine tw_iconst (v := 1) dX5_house_97 (by decide) ?_
    refine tw_iload_n 5 dX5_house_98 rfl rfl ?_
    obtain ⟨e224, f225, a_226, b_227, rfl, k228⟩ := sp190.1 c4_200 1 k207 (by decide)
    obtain ⟨b229, ow230, fa9, fb9⟩ := k228
    obtain rfl : 1336 = b229 := (ow230.b k217).symm
    subst fa9 fb9
    refine tw_bv (tw_callVN (M := mX5_house) (pc := 99) okX3_add dX5_house_99 w_534 rfl f225 [.int 1, .int si] [] rfl rfl ⟨by decide, by decide⟩ (Nat.le_of_ble_eq_true rfl) (c4_X3_add d (tw_ad gB (1336 + 0) go) τ95 h181 sp190.1 c4_200 k207 1336 k217 1 (by omega) si) 15 95 (Nat.le_of_ble_eq_true rfl) (Nat.le_of_ble_eq_true rfl)) (fun h222 q221 => ?_) (fun E h1 q => q.elim)
    have sp231 := sp190.tr q221
    refine tw_iload 0 dX5_house_102 rfl ?_
    exact tw_iret dX5_house_104 rfl (Or.inl ⟨_, rfl, (by (try rw [cDa]); first | done | exact rfl), ix0, rc0, (by (try rw [cDa]); first | done | exact lc9), q46, q54, _, (by (try rw [cDa]); first | done | exact (by rw [← egC, ← eGG]; exact sp231))⟩)
  · exact tw_throwS (i := 7) (by decide +kernel) w_471 w_88 rfl at_ISE dX5_house_33 dX5_house_36 dX5_house_37 dX5_house_39 dX5_house_42 ⟨by decide, Nat.le_of_ble_eq_true rfl⟩ (Nat.le_of_ble_eq_true rfl) (Nat.le_of_ble_eq_true rfl) (Or.inr ⟨_, rfl, (Or.inr (Or.inr (⟨rfl, ix0, rc0, (by (try rw [cDa]); first | done | exact (fun z => c45 (nI_lt z (by decide))))⟩))), _, sp0⟩)

set_option maxHeartbeats 4000000 in
set_option maxRecDepth 100000 in
theorem c2_X5_owe (d : tw_D) (g : tw_G) (τ : tw_K) (h : tw_H) (hw : tw_wt d g τ h) (x : Nat) (kx : τ x = 11) (a : Int32) (b : Int32) (v : Int32) (dy : Int32) (he6 : g.2 8 = g.2 2) (he24 : g.2 132 = 1152 + 8 * g.2 8) : tw_Ct d mX5_owe 20 120 [.ref x, .int a, .int b, .int v, .int dy] h (tw_qi (fun r9 h1 => r9 = nI (g.2 2) ∧ (tw_ix (g.2 7) a ∧ tw_ix (g.2 7) b) ∧ (tw_RO a b v dy) ∧ (g.2 2 < 10) ∧ ∃ y9 τ1, tw_sp d τ h (tw_gI (tw_gD g (1152 + 8 * g.2 8) y9 v (nI (g.2 21) + dy) a b) 8 2) τ1 h1) (fun E h1 => (E = tw_IOE ∧ ¬ (tw_ix (g.2 7) a ∧ tw_ix (g.2 7) b) ∨ E = tw_IAE ∧ (tw_ix (g.2 7) a ∧ tw_ix (g.2 7) b) ∧ ¬ (tw_RO a b v dy) ∨ E = tw_ISE ∧ (tw_ix (g.2 7) a ∧ tw_ix (g.2 7) b) ∧ tw_RO a b v dy ∧ ¬ (g.2 2 < 10)) ∧ ∃ τ1, tw_sp d τ h g τ1 h1)) := by
  refine tw_of (by decide +kernel) (Nat.le_of_ble_eq_true rfl) ?_
  show tw_W d mX5_owe _ 0 [(0, .ref x), (1, .int a), (2, .int b), (3, .int v), (4, .int dy)] [] h 20 120
  have sp0 := tw_sp.rf hw
  obtain ⟨b96, b97, b98⟩ := tw_b678 hw kx
  refine tw_aload_n 0 dX5_owe_0 rfl rfl ?_
  refine tw_iload_n 1 dX5_owe_1 rfl rfl ?_
  obtain ⟨e4, f5, td_6, ca_7, ha_8, da_9, c1_10, c2_11, c3_12, c4_13, rfl, k14, k15, k16, k17, k18, k19, k20, k21, k22, k23, k24, k25, k26, k27, k28, k29, k30⟩ := sp0.1 x 11 kx (by decide)
  refine tw_br (tw_callV (M := mX5_owe) (pc := 2) okX5_houseAt dX5_owe_2 w_664 rfl f5 [.int a] [] rfl rfl ⟨by decide, by decide⟩ (Nat.le_of_ble_eq_true rfl) (c4_X5_houseAt d g τ h sp0.1 x kx a) 19 114 (Nat.le_of_ble_eq_true rfl) (Nat.le_of_ble_eq_true rfl)) (fun r3 h2 q1 => ?_) (fun E h1 q1 => Or.inr ⟨E, rfl, (Or.inl ⟨q1.1, fun z => q1.2.2 z.1⟩), τ, by rw [q1.2.1]; exact sp0⟩)
  obtain ⟨q1e, q1k, ja, hja, q1n, q1b⟩ := q1
  rw [q1e]
  subst q1n
  have cDa : tw_DN (nI ja) = ja := nI_clamp (by omega)
  have ixa : tw_ix (g.2 7) (nI ja) := ⟨ja, hja, rfl⟩
  refine tw_astore [(5, .ref r3), (0, .ref x), (1, .int (nI ja)), (2, .int b), (3, .int v), (4, .int dy)] dX5_owe_5 (by decide) rfl ?_
  refine tw_aload_n 1 dX5_owe_7 rfl rfl ?_
  refine tw_iload_n 3 dX5_owe_8 rfl rfl ?_
  refine tw_br (tw_callV (M := mX5_owe) (pc := 9) okX5_houseAt dX5_owe_9 w_664 rfl f5 [.int b] [] rfl rfl ⟨by decide, by decide⟩ (Nat.le_of_ble_eq_true rfl) (c4_X5_houseAt d g τ h sp0.1 x kx b) 18 108 (Nat.le_of_ble_eq_true rfl) (Nat.le_of_ble_eq_true rfl)) (fun r33 h32 q31 => ?_) (fun E h1 q31 => Or.inr ⟨E, rfl, (Or.inl ⟨q31.1, fun z => q31.2.2 z.2⟩), τ, by rw [q31.2.1]; exact sp0⟩)
  obtain ⟨q31e, q31k, jb, hjb, q31n, q31b⟩ := q31
  rw [q31e]
  subst q31n
  have cDb : tw_DN (nI jb) = jb := nI_clamp (by omega)
  have ixb : tw_ix (g.2 7) (nI jb) := ⟨jb, hjb, rfl⟩
  have ix0 := And.intro ixa ixb
  refine tw_astore [(6, .ref r33), (5, .ref r3), (0, .ref x), (1, .int (nI ja)), (2, .int (nI jb)), (3, .int v), (4, .int dy)] dX5_owe_12 (by decide) rfl ?_
  refine tw_iload_n 3 dX5_owe_14 rfl rfl ?_
  refine tw_iload_n 4 dX5_owe_15 rfl rfl ?_
  refine tw_bv (tw_callS (M := mX5_owe) (pc := 16) okX5_needDifferent dX5_owe_16 w_599 [.int (nI ja), .int (nI jb)] [] rfl rfl ⟨by decide, by decide⟩ (Nat.le_of_ble_eq_true rfl) (c2_X5_needDifferent d g τ h sp0.1 (nI ja) (nI jb)) 17 102 (Nat.le_of_ble_eq_true rfl) (Nat.le_of_ble_eq_true rfl)) (fun h35 q34 => ?_) (fun E h1 q34 => Or.inr ⟨E, rfl, (Or.inr (Or.inl ⟨q34.1, ix0, fun z => q34.2.2 z.1⟩)), τ, by rw [q34.2.1]; exact sp0⟩)
  obtain ⟨q34e, nd9⟩ := q34
  rw [q34e]
  refine tw_iload_n 5 dX5_owe_19 rfl rfl ?_
  refine tw_iconst (v := 1) dX5_owe_20 (by decide) ?_
  refine tw_sipush (v := 9999) dX5_owe_21 (by decide) ?_
  refine tw_bv (tw_callS (M := mX5_owe) (pc := 24) okX5_needRange dX5_owe_24 w_399 [.int v, .int 1, .int 9999] [] rfl rfl ⟨by decide, by decide⟩ (Nat.le_of_ble_eq_true rfl) (c2_X5_needRange d g τ h sp0.1 v 1 9999) 16 96 (Nat.le_of_ble_eq_true rfl) (Nat.le_of_ble_eq_true rfl)) (fun h38 q37 => ?_) (fun E h1 q37 => Or.inr ⟨E, rfl, (Or.inr (Or.inl ⟨q37.1, ix0, fun z => q37.2.2 z.2.1⟩)), τ, by rw [q37.2.1]; exact sp0⟩)
  obtain ⟨q37e, rlv⟩ := q37
  rw [q37e]
  refine tw_iload 6 dX5_owe_27 rfl ?_
  refine tw_iconst (v := 0) dX5_owe_29 (by decide) ?_
  refine tw_sipush (v := 1000) dX5_owe_30 (by decide) ?_
  refine tw_bv (tw_callS (M := mX5_owe) (pc := 33) okX5_needRange dX5_owe_33 w_399 [.int dy, .int 0, .int 1000] [] rfl rfl ⟨by decide, by decide⟩ (Nat.le_of_ble_eq_true rfl) (c2_X5_needRange d g τ h sp0.1 dy 0 1000) 15 90 (Nat.le_of_ble_eq_true rfl) (Nat.le_of_ble_eq_true rfl)) (fun h41 q40 => ?_) (fun E h1 q40 => Or.inr ⟨E, rfl, (Or.inr (Or.inl ⟨q40.1, ix0, fun z => q40.2.2 z.2.2⟩)), τ, by rw [q40.2.1]; exact sp0⟩)
  obtain ⟨q40e, rldy⟩ := q40
  rw [q40e]
  have rc0 : tw_RO (nI ja) (nI jb) v dy := ⟨nd9, rlv, rldy⟩
  refine tw_aload_n 2 dX5_owe_36 rfl rfl ?_
  refine tw_get (v := .int (nI (g.2 2))) rfl in_9 7 dX5_owe_37 w_147 rfl (by decide) f5 rfl ?_
  refine tw_aload_n 2 dX5_owe_40 rfl rfl ?_
  refine tw_get (v := .ref da_9) rfl in_9 6 dX5_owe_41 w_146 rfl (by decide) f5 rfl ?_
  obtain ⟨e43, f44, F45, rfl, k46, pn47, pb48, px49, pf50⟩ := sp0.1 da_9 10 k16 (by decide)
  refine tw_alen (v := nI 10) 6 rfl dX5_owe_44 f44 rfl ?_
  refine tw_icmp_lt 58 dX5_owe_45 (by decide) (fun c51 => ?_) (fun c51 => ?_)
  · refine tw_aload_n 2 dX5_owe_58 rfl rfl ?_
    refine tw_get (v := .int (nI (g.2 2))) rfl in_9 7 dX5_owe_59 w_147 rfl (by decide) f5 rfl ?_
    refine tw_istore [(7, .int (nI (g.2 2))), (6, .ref r33), (5, .ref r3), (0, .ref x), (1, .int (nI ja)), (2, .int (nI jb)), (3, .int v), (4, .int dy)] dX5_owe_62 (by decide) rfl ?_
    refine tw_aload_n 3 dX5_owe_64 rfl rfl ?_
    refine tw_get (v := .ref da_9) rfl in_9 6 dX5_owe_65 w_146 rfl (by decide) f5 rfl ?_
    refine tw_iload 0 dX5_owe_68 rfl ?_
    refine tw_new (ci := 5) rfl in_5 tyX1 tyX1_ok dX5_owe_70 w_123 w_358 w_102 (fs := [.null, .null, .int 0, .int 0, .int 0]) (fun j hj => by rcases (show j = 0 ∨ j = 1 ∨ j = 2 ∨ j = 3 ∨ j = 4 by omega) with rfl | rfl | rfl | rfl | rfl <;> rfl) 14 85 (Nat.le_of_ble_eq_true rfl) (Nat.le_of_ble_eq_true rfl) (fun q52 hq53 hA54 => ?_)
    have n55 := sp0.nn hq53
    have z56 := sp0.1.none hq53
    obtain ⟨h57, eh57⟩ : ∃ z : tw_H, z = tw_up h q52 (.inr (5, [.null, .null, .int 0, .int 0, .int 0])) := ⟨_, rfl⟩
    rw [← eh57]
    have sp58 : tw_sp d τ h g τ h57 := by rw [eh57]; exact sp0.mk hq53
    have f59 : h57 q52 = some (.inr (5, [.null, .null, .int 0, .int 0, .int 0])) := by rw [eh57]; exact tw_up_s
    refine tw_dup dX5_owe_73 rfl ?_
    refine tw_aload 2 dX5_owe_74 rfl ?_
    refine tw_aload 1 dX5_owe_76 rfl ?_
    refine tw_iload_n 6 dX5_owe_78 rfl rfl ?_
    refine tw_aload_n 3 dX5_owe_79 rfl rfl ?_
    obtain ⟨e60, f61, td_62, ca_63, ha_64, da_65, c1_66, c2_67, c3_68, c4_69, rfl, k70, k71, k72, k73, k74, k75, k76, k77, k78, k79, k80, k81, k82, k83, k84, k85, k86⟩ := sp58.1 x 11 kx (by decide)
    refine tw_get (v := .int td_62) rfl in_9 0 dX5_owe_80 w_140 rfl (by decide) f61 rfl ?_
    refine tw_iload 7 dX5_owe_83 rfl ?_
    refine tw_iadd dX5_owe_85 ?_
    refine tw_nmi (fun v87 ev87 => ?_)
    refine tw_bv (tw_callIN (M := mX5_owe) (pc := 86) okX1_init dX5_owe_86 w_715 rfl [.ref r3, .ref r33, .int v, .int v87] [.ref q52, .int (nI (g.2 2)), .ref da_9] rfl rfl ⟨by decide, by decide⟩ (Nat.le_of_ble_eq_true rfl) (c2_X1_init d g τ h57 sp58.1 q52 z56 f59 r3 r33 v v87) 14 85 (Nat.le_of_ble_eq_true rfl) (Nat.le_of_ble_eq_true rfl)) (fun h92 q91 => ?_) (fun E h1 q => q.elim)
    have sp93 : tw_sp d τ h g τ h92 := by rw [q91]; exact sp58.wl n55 z56
    have f94 : h92 q52 = some (.inr (5, [.ref r3, .ref r33, .int v, .int v87, .int 0])) := by rw [q91]; exact tw_up_s
    have lt0 : g.2 2 < 10 := tw_klt2 c51 k79 (by decide)
    have lc9 := lt0
    have lt7 : g.2 8 < 10 := by omega
    have dy9 : v87 = nI (g.2 21) + dy := by rw [ev87, k81]
    have oo := tw_gD_o (g := g) (b := (1152 + 8 * g.2 8)) (j := g.2 8) (x := q52) (v := v) (dy := v87) (f := nI ja) (c := nI jb) rfl lt7
    have vv := tw_gD_v (g := g) (b := (1152 + 8 * g.2 8)) (x := q52) (v := v) (dy := v87) (f := nI ja) (c := nI jb)
    have ww := tw_gD_w (g := g) (b := (1152 + 8 * g.2 8)) (j := g.2 8) (τ := τ) (x := q52) (v := v) (dy := v87) (f := nI ja) (c := nI jb) rfl lt7 he24 z56
    have g2n : ∀ i, i < 128 → (tw_gD g (1152 + 8 * g.2 8) q52 v v87 (nI ja) (nI jb)).2 i = g.2 i := fun i hi => tw_gD_2 (by omega) (by omega) (by omega)
    obtain ⟨gC, egC⟩ : ∃ z : tw_G, z = tw_gD g (1152 + 8 * g.2 8) q52 v v87 (nI ja) (nI jb) := ⟨_, rfl⟩
    rw [← egC] at oo vv ww g2n
    have sp95 : tw_sp d τ h gC τ h92 := sp93.gw2 ww
    have ba9 : gC.2 (4096 + r3) = 768 + 32 * ja := (ww.2.2.2 r3 (by rw [q1k]; decide)).trans q1b
    have bb9 : gC.2 (4096 + r33) = 768 + 32 * jb := (ww.2.2.2 r33 (by rw [q31k]; decide)).trans q31b
    obtain ⟨τ96, eτ96⟩ : ∃ z : tw_K, z = tw_ku τ q52 4 := ⟨_, rfl⟩
    have le97 : tw_le τ τ96 := by rw [eτ96]; exact tw_ku_le z56
    have k98 : τ96 x = 11 := le97.k kx (by decide)
    have k99 : τ96 ca_7 = 8 := le97.k k14 (by decide)
    have k100 : τ96 ha_8 = 9 := le97.k k15 (by decide)
    have k101 : τ96 da_9 = 10 := le97.k k16 (by decide)
    have k102 : τ96 c1_10 = 1 := le97.k k17 (by decide)
    have k103 : τ96 c2_11 = 1 := le97.k k18 (by decide)
    have k104 : τ96 c3_12 = 1 := le97.k k19 (by decide)
    have k105 : τ96 c4_13 = 1 := le97.k k20 (by decide)
    have k106 : τ96 r3 = 3 := le97.k q1k (by decide)
    have k107 : τ96 r33 = 3 := le97.k q31k (by decide)
    have k108 : τ96 ca_63 = 8 := le97.k k70 (by decide)
    have k109 : τ96 ha_64 = 9 := le97.k k71 (by decide)
    have k110 : τ96 da_65 = 10 := le97.k k72 (by decide)
    have k111 : τ96 c1_66 = 1 := le97.k k73 (by decide)
    have k112 : τ96 c2_67 = 1 := le97.k k74 (by decide)
    have k113 : τ96 c3_68 = 1 := le97.k k75 (by decide)
    have k114 : τ96 c4_69 = 1 := le97.k k76 (by decide)
    have sp115 : tw_sp d τ h gC τ96 h92 := by rw [eτ96]; exact sp95.ty n55 z56 f94 (by rw [← eτ96]; exact ⟨_, _, 0, r3, r33, rfl, k106, k107, by unfold tw_01; decide, g.2 8, oo, vv.1.symm, vv.2.1.symm, vv.2.2.1.symm, ⟨ja, by omega, vv.2.2.2.1, ba9⟩, jb, by omega, vv.2.2.2.2, bb9⟩)
    have k116 : τ96 q52 = 4 := by rw [eτ96]; exact tw_ku_s
    obtain ⟨e117, f118, F119, rfl, k120, pn121, pb122, px123, pf124⟩ := sp115.1 da_9 10 k101 (by decide)
    refine tw_aast (ci := 5) 6 rfl rfl dX5_owe_89 f118 f94 (vp_in_nI lt0 (by decide)) ?_
    have gcA : gC.2 8 = g.2 8 := g2n 8 (by decide)
    obtain ⟨gA, eA⟩ : ∃ z : tw_G, z = tw_g2 gC 8 (gC.2 8 + 1) := ⟨_, rfl⟩
    have ga1 : ∀ i, i ≠ 8 → gA.2 i = gC.2 i := by rw [eA]; intro i hi; exact if_neg hi
    have cl0 : (nI (g.2 2)).toNatClampNeg = gC.2 8 := by rw [nI_clamp (by omega), gcA, he6]
    obtain ⟨h125, eh125⟩ : ∃ z : tw_H, z = tw_up h92 da_9 (.inl (d.2 6, 10, .inr (.inr (.inr (.inr (va_up F119 (nI (g.2 2)).toNatClampNeg (some q52))))))) := ⟨_, rfl⟩
    rw [← eh125]
    have sp126 : tw_sp d τ h gA τ96 h125 := by rw [eh125]; exact sp115.g10 k101 ⟨_, rfl, tw_okup k120 k116, by rw [eA, cl0]; exact tw_ixup pn121, by rw [eA]; show gC.2 8 + 1 ≤ 10; omega, by rw [ga1 20 (by decide)]; exact px123, fun j q hq => by rw [ga1 _ (by omega)]; rw [cl0] at hq; unfold va_up at hq; by_cases z : j = gC.2 8; (rw [if_pos z] at hq; cases hq; rw [z, gcA]; exact oo.2.2.2.2); (rw [if_neg z] at hq; exact pf124 j q hq)⟩ (by rw [eA]; rfl) ga1
    refine tw_aload_n 3 dX5_owe_90 rfl rfl ?_
    refine tw_iload 0 dX5_owe_91 rfl ?_
    refine tw_iconst (v := 1) dX5_owe_93 (by decide) ?_
    refine tw_iadd dX5_owe_94 ?_
    refine tw_nmi (fun v127 ev127 => ?_)
    obtain ⟨e128, f129, td_130, ca_131, ha_132, da_133, c1_134, c2_135, c3_136, c4_137, rfl, k138, k139, k140, k141, k142, k143, k144, k145, k146, k147, k148, k149, k150, k151, k152, k153, k154⟩ := sp126.1 x 11 k98 (by decide)
    obtain ⟨gB, eB⟩ : ∃ z : tw_G, z = tw_g2 gA 2 (gA.2 2 + 1) := ⟨_, rfl⟩
    have eGG : gB = tw_gI gC 8 2 := by rw [eB, eA]; rfl
    have gcK : gC.2 2 = g.2 2 := g2n 2 (by decide)
    have q155 : v127 = nI (gB.2 2) := by rw [ev127, nI_1, eB]; show nI (g.2 2 + 1) = nI (gA.2 2 + 1); rw [ga1 2 (by decide), gcK]
    subst q155
    have egB : gB = tw_g2 gA 2 (gA.2 2 + 1) := eB
    refine tw_put rfl in_9 tyX5 tyX5_ok nmX5 7 dX5_owe_95 w_147 rfl (by decide) f129 rfl rfl rfl rfl (Nat.le_of_ble_eq_true rfl) [.int td_130, .int (gA.1 0), .ref ca_131, .int (nI (gA.2 0)), .ref ha_132, .int (nI (gA.2 1)), .ref da_133, .int (nI (gB.2 2)), .ref c1_134, .ref c2_135, .ref c3_136, .ref c4_137] rfl ?_
    obtain ⟨h156, eh156⟩ : ∃ z : tw_H, z = tw_up h125 x (.inr (9, [.int td_130, .int (gA.1 0), .ref ca_131, .int (nI (gA.2 0)), .ref ha_132, .int (nI (gA.2 1)), .ref da_133, .int (nI (gB.2 2)), .ref c1_134, .ref c2_135, .ref c3_136, .ref c4_137])) := ⟨_, rfl⟩
    rw [← eh156]
    have sp157 : tw_sp d τ h gB τ96 h156 := by rw [eh156]; exact sp126.g11 k98 ⟨td_130, ca_131, ha_132, da_133, c1_134, c2_135, c3_136, c4_137, (by rw [egB]; rfl), k138, k139, k140, k141, k142, k143, k144, (by rw [egB]; exact k145), (by rw [egB]; exact k146), (by rw [egB]; exact (show gA.2 2 + 1 ≤ 10 by rw [ga1 2 (by decide), gcK]; exact lt0)), (by rw [egB]; exact k148), (by rw [egB]; exact k149), (by rw [egB]; exact k150), (by rw [egB]; exact (tw_g2_ne (by omega)).trans k151), (by rw [egB]; exact (tw_g2_ne (by omega)).trans k152), (by rw [egB]; exact (tw_g2_ne (by omega)).trans k153), (by rw [egB]; exact (tw_g2_ne (by omega)).trans k154)⟩ (by rw [egB]; intro i hi; rfl) (by rw [egB]; intro i hi hj; exact if_neg (by omega))
    refine tw_iload 0 dX5_owe_98 rfl ?_
    exact tw_iret dX5_owe_100 rfl (Or.inl ⟨_, rfl, (by (try rw [cDa]); (try rw [cDb]); first | done | exact rfl), ix0, rc0, (by (try rw [cDa]); (try rw [cDb]); first | done | exact lc9), q52, _, (by (try rw [cDa]); (try rw [cDb]); first | done | exact (by rw [← dy9, ← egC, ← eGG]; exact sp157))⟩)
  · exact tw_throwS (i := 13) (by decide +kernel) w_471 w_88 rfl at_ISE dX5_owe_48 dX5_owe_51 dX5_owe_52 dX5_owe_54 dX5_owe_57 ⟨by decide, Nat.le_of_ble_eq_true rfl⟩ (Nat.le_of_ble_eq_true rfl) (Nat.le_of_ble_eq_true rfl) (Or.inr ⟨_, rfl, (Or.inr (Or.inr (⟨rfl, ix0, rc0, (by (try rw [cDa]); (try rw [cDb]); first | done | exact (fun z => c51 (nI_lt z (by decide))))⟩))), _, sp0⟩)

set_option maxHeartbeats 4000000 in
set_option maxRecDepth 100000 in
theorem c2_X0_init (d : tw_D) (g : tw_G) (τ : tw_K) (h : tw_H) (hw : tw_wt d g τ h) (x : Nat) (hz : τ x = 0) (hx : h x = some (.inr (4, [.int 0, .int 0, .int 0, .null, .int 0, .int 0, .null, .null, .null]))) (j : Nat) (hj : j < 4) (h24 : g.2 24 = 160 + 64 * j) (r ct : Int32) (v : Nat) (zv : τ v = 0) (gd sv : Int32) (hv : h v = some (.inr (7, [.int gd, .int sv]))) (nxv : x ≠ v) (rlaw : 100 ≤ r ∧ r ≤ 200) : tw_Ct d mX0_init 6 30 [.ref x, .int (nI j), .int r, .int ct, .ref v] h (tw_qv (fun h1 => ∃ (rd rf t m : Nat) (τ1 : tw_K), tw_sp d τ (tw_rm (tw_rm h x) v) (tw_gC g (160 + 64 * j) x rd rf t m v r ct gd sv) τ1 h1 ∧ τ1 x = 2 ∧ τ1 v = 1) tw_nx) := by
  refine tw_of (by decide +kernel) (Nat.le_of_ble_eq_true rfl) ?_
  show tw_W d mX0_init _ 0 [(0, .ref x), (1, .int (nI j)), (2, .int r), (3, .int ct), (4, .ref v)] [] h 6 30
  have sp0 := tw_sp.rm2 hw x v
  refine tw_aload_n 0 dX0_init_0 rfl rfl ?_
  refine tw_objInit dX0_init_1 w_490 w_117 w_118 ⟨by decide, Nat.le_of_ble_eq_true rfl⟩ ?_
  refine tw_aload_n 0 dX0_init_4 rfl rfl ?_
  refine tw_iload_n 1 dX0_init_5 rfl rfl ?_
  refine tw_putF rfl in_4 tyX0 tyX0_ok nmX0 0 dX0_init_6 w_501 rfl (by decide) hx rfl rfl rfl rfl rfl rfl (Nat.le_of_ble_eq_true rfl) [.int (nI j), .int 0, .int 0, .null, .int 0, .int 0, .null, .null, .null] rfl ?_
  obtain ⟨h1, eh1⟩ : ∃ z : tw_H, z = tw_up h x (.inr (4, [.int (nI j), .int 0, .int 0, .null, .int 0, .int 0, .null, .null, .null])) := ⟨_, rfl⟩
  rw [← eh1]
  have sp2 : tw_sp d τ (tw_rm (tw_rm h x) v) g τ h1 := by rw [eh1]; exact sp0.wl tw_rm_s2 hz
  have f3 : h1 v = some (.inr (7, [.int gd, .int sv])) := by rw [eh1, tw_up_n (Ne.symm nxv)]; exact hv
  have f4 : h1 x = some (.inr (4, [.int (nI j), .int 0, .int 0, .null, .int 0, .int 0, .null, .null, .null])) := by rw [eh1]; exact tw_up_s
  refine tw_aload_n 0 dX0_init_9 rfl rfl ?_
  refine tw_iload_n 2 dX0_init_10 rfl rfl ?_
  refine tw_put rfl in_4 tyX0 tyX0_ok nmX0 1 dX0_init_11 w_503 rfl (by decide) f4 rfl rfl rfl rfl (Nat.le_of_ble_eq_true rfl) [.int (nI j), .int r, .int 0, .null, .int 0, .int 0, .null, .null, .null] rfl ?_
  obtain ⟨h5, eh5⟩ : ∃ z : tw_H, z = tw_up h1 x (.inr (4, [.int (nI j), .int r, .int 0, .null, .int 0, .int 0, .null, .null, .null])) := ⟨_, rfl⟩
  rw [← eh5]
  have sp6 : tw_sp d τ (tw_rm (tw_rm h x) v) g τ h5 := by rw [eh5]; exact sp2.wl tw_rm_s2 hz
  have f7 : h5 v = some (.inr (7, [.int gd, .int sv])) := by rw [eh5, tw_up_n (Ne.symm nxv)]; exact f3
  have f8 : h5 x = some (.inr (4, [.int (nI j), .int r, .int 0, .null, .int 0, .int 0, .null, .null, .null])) := by rw [eh5]; exact tw_up_s
  refine tw_aload_n 0 dX0_init_14 rfl rfl ?_
  refine tw_iload_n 3 dX0_init_15 rfl rfl ?_
  refine tw_put rfl in_4 tyX0 tyX0_ok nmX0 2 dX0_init_16 w_505 rfl (by decide) f8 rfl rfl rfl rfl (Nat.le_of_ble_eq_true rfl) [.int (nI j), .int r, .int ct, .null, .int 0, .int 0, .null, .null, .null] rfl ?_
  obtain ⟨h9, eh9⟩ : ∃ z : tw_H, z = tw_up h5 x (.inr (4, [.int (nI j), .int r, .int ct, .null, .int 0, .int 0, .null, .null, .null])) := ⟨_, rfl⟩
  rw [← eh9]
  have sp10 : tw_sp d τ (tw_rm (tw_rm h x) v) g τ h9 := by rw [eh9]; exact sp6.wl tw_rm_s2 hz
  have f11 : h9 v = some (.inr (7, [.int gd, .int sv])) := by rw [eh9, tw_up_n (Ne.symm nxv)]; exact f7
  have f12 : h9 x = some (.inr (4, [.int (nI j), .int r, .int ct, .null, .int 0, .int 0, .null, .null, .null])) := by rw [eh9]; exact tw_up_s
  refine tw_aload_n 0 dX0_init_19 rfl rfl ?_
  refine tw_aload 4 dX0_init_20 rfl ?_
  refine tw_putF rfl in_4 tyX0 tyX0_ok nmX0 3 dX0_init_22 w_507 rfl (by decide) f12 rfl rfl rfl rfl rfl rfl (Nat.le_of_ble_eq_true rfl) [.int (nI j), .int r, .int ct, .ref v, .int 0, .int 0, .null, .null, .null] rfl ?_
  obtain ⟨h13, eh13⟩ : ∃ z : tw_H, z = tw_up h9 x (.inr (4, [.int (nI j), .int r, .int ct, .ref v, .int 0, .int 0, .null, .null, .null])) := ⟨_, rfl⟩
  rw [← eh13]
  have sp14 : tw_sp d τ (tw_rm (tw_rm h x) v) g τ h13 := by rw [eh13]; exact sp10.wl tw_rm_s2 hz
  have f15 : h13 v = some (.inr (7, [.int gd, .int sv])) := by rw [eh13, tw_up_n (Ne.symm nxv)]; exact f11
  have f16 : h13 x = some (.inr (4, [.int (nI j), .int r, .int ct, .ref v, .int 0, .int 0, .null, .null, .null])) := by rw [eh13]; exact tw_up_s
  refine tw_aload_n 0 dX0_init_25 rfl rfl ?_
  refine tw_iconst (v := 1) dX0_init_26 (by decide) ?_
  refine tw_put rfl in_4 tyX0 tyX0_ok nmX0 4 dX0_init_27 w_509 rfl (by decide) f16 rfl rfl rfl rfl (Nat.le_of_ble_eq_true rfl) [.int (nI j), .int r, .int ct, .ref v, .int 1, .int 0, .null, .null, .null] rfl ?_
  obtain ⟨h17, eh17⟩ : ∃ z : tw_H, z = tw_up h13 x (.inr (4, [.int (nI j), .int r, .int ct, .ref v, .int 1, .int 0, .null, .null, .null])) := ⟨_, rfl⟩
  rw [← eh17]
  have sp18 : tw_sp d τ (tw_rm (tw_rm h x) v) g τ h17 := by rw [eh17]; exact sp14.wl tw_rm_s2 hz
  have f19 : h17 v = some (.inr (7, [.int gd, .int sv])) := by rw [eh17, tw_up_n (Ne.symm nxv)]; exact f15
  have f20 : h17 x = some (.inr (4, [.int (nI j), .int r, .int ct, .ref v, .int 1, .int 0, .null, .null, .null])) := by rw [eh17]; exact tw_up_s
  refine tw_aload_n 0 dX0_init_30 rfl rfl ?_
  refine tw_iconst (v := 1) dX0_init_31 (by decide) ?_
  refine tw_put rfl in_4 tyX0 tyX0_ok nmX0 5 dX0_init_32 w_510 rfl (by decide) f20 rfl rfl rfl rfl (Nat.le_of_ble_eq_true rfl) [.int (nI j), .int r, .int ct, .ref v, .int 1, .int 1, .null, .null, .null] rfl ?_
  obtain ⟨h21, eh21⟩ : ∃ z : tw_H, z = tw_up h17 x (.inr (4, [.int (nI j), .int r, .int ct, .ref v, .int 1, .int 1, .null, .null, .null])) := ⟨_, rfl⟩
  rw [← eh21]
  have sp22 : tw_sp d τ (tw_rm (tw_rm h x) v) g τ h21 := by rw [eh21]; exact sp18.wl tw_rm_s2 hz
  have f23 : h21 v = some (.inr (7, [.int gd, .int sv])) := by rw [eh21, tw_up_n (Ne.symm nxv)]; exact f19
  have f24 : h21 x = some (.inr (4, [.int (nI j), .int r, .int ct, .ref v, .int 1, .int 1, .null, .null, .null])) := by rw [eh21]; exact tw_up_s
  refine tw_aload_n 0 dX0_init_35 rfl rfl ?_
  refine tw_iconst (v := 4) dX0_init_36 (by decide) ?_
  refine tw_newa (a0 := (4, .inl (fun _ => 0))) 0 rfl dX0_init_37 rfl w_500 (fun _ => rfl) (by decide) (by decide) (by decide) 5 26 (Nat.le_of_ble_eq_true rfl) (Nat.le_of_ble_eq_true rfl) (fun q25 hq26 hA27 => ?_)
  have n28 := sp22.nn hq26
  have z29 := sp22.1.none hq26
  have ne30 := tw_neF f23 hq26
  have ne31 := tw_neF f24 hq26
  obtain ⟨h32, eh32⟩ : ∃ z : tw_H, z = tw_up h21 q25 (.inl (d.2 0, 4, .inl (fun _ => 0))) := ⟨_, rfl⟩
  rw [← eh32]
  have sp33 : tw_sp d τ (tw_rm (tw_rm h x) v) g τ h32 := by rw [eh32]; exact sp22.mk hq26
  have f34 : h32 v = some (.inr (7, [.int gd, .int sv])) := by rw [eh32, tw_up_n ne30]; exact f23
  have f35 : h32 x = some (.inr (4, [.int (nI j), .int r, .int ct, .ref v, .int 1, .int 1, .null, .null, .null])) := by rw [eh32, tw_up_n ne31]; exact f24
  have f36 : h32 q25 = some (.inl (d.2 0, 4, .inl (fun _ => 0))) := by rw [eh32]; exact tw_up_s
  refine tw_putF rfl in_4 tyX0 tyX0_ok nmX0 6 dX0_init_39 w_511 rfl (by decide) f35 rfl rfl rfl rfl rfl rfl (Nat.le_of_ble_eq_true rfl) [.int (nI j), .int r, .int ct, .ref v, .int 1, .int 1, .ref q25, .null, .null] rfl ?_
  obtain ⟨h37, eh37⟩ : ∃ z : tw_H, z = tw_up h32 x (.inr (4, [.int (nI j), .int r, .int ct, .ref v, .int 1, .int 1, .ref q25, .null, .null])) := ⟨_, rfl⟩
  rw [← eh37]
  have sp38 : tw_sp d τ (tw_rm (tw_rm h x) v) g τ h37 := by rw [eh37]; exact sp33.wl tw_rm_s2 hz
  have f39 : h37 v = some (.inr (7, [.int gd, .int sv])) := by rw [eh37, tw_up_n (Ne.symm nxv)]; exact f34
  have f40 : h37 q25 = some (.inl (d.2 0, 4, .inl (fun _ => 0))) := by rw [eh37, tw_up_n (Ne.symm ne31)]; exact f36
  have f41 : h37 x = some (.inr (4, [.int (nI j), .int r, .int ct, .ref v, .int 1, .int 1, .ref q25, .null, .null])) := by rw [eh37]; exact tw_up_s
  refine tw_aload_n 0 dX0_init_42 rfl rfl ?_
  refine tw_iconst (v := 4) dX0_init_43 (by decide) ?_
  refine tw_newa (a0 := (4, .inl (fun _ => 0))) 0 rfl dX0_init_44 rfl w_500 (fun _ => rfl) (by decide) (by decide) (by decide) 4 22 (Nat.le_of_ble_eq_true rfl) (Nat.le_of_ble_eq_true rfl) (fun q42 hq43 hA44 => ?_)
  have n45 := sp38.nn hq43
  have z46 := sp38.1.none hq43
  have ne47 := tw_neF f39 hq43
  have ne48 := tw_neF f40 hq43
  have ne49 := tw_neF f41 hq43
  obtain ⟨h50, eh50⟩ : ∃ z : tw_H, z = tw_up h37 q42 (.inl (d.2 0, 4, .inl (fun _ => 0))) := ⟨_, rfl⟩
  rw [← eh50]
  have sp51 : tw_sp d τ (tw_rm (tw_rm h x) v) g τ h50 := by rw [eh50]; exact sp38.mk hq43
  have f52 : h50 v = some (.inr (7, [.int gd, .int sv])) := by rw [eh50, tw_up_n ne47]; exact f39
  have f53 : h50 q25 = some (.inl (d.2 0, 4, .inl (fun _ => 0))) := by rw [eh50, tw_up_n ne48]; exact f40
  have f54 : h50 x = some (.inr (4, [.int (nI j), .int r, .int ct, .ref v, .int 1, .int 1, .ref q25, .null, .null])) := by rw [eh50, tw_up_n ne49]; exact f41
  have f55 : h50 q42 = some (.inl (d.2 0, 4, .inl (fun _ => 0))) := by rw [eh50]; exact tw_up_s
  refine tw_putF rfl in_4 tyX0 tyX0_ok nmX0 7 dX0_init_46 w_512 rfl (by decide) f54 rfl rfl rfl rfl rfl rfl (Nat.le_of_ble_eq_true rfl) [.int (nI j), .int r, .int ct, .ref v, .int 1, .int 1, .ref q25, .ref q42, .null] rfl ?_
  obtain ⟨h56, eh56⟩ : ∃ z : tw_H, z = tw_up h50 x (.inr (4, [.int (nI j), .int r, .int ct, .ref v, .int 1, .int 1, .ref q25, .ref q42, .null])) := ⟨_, rfl⟩
  rw [← eh56]
  have sp57 : tw_sp d τ (tw_rm (tw_rm h x) v) g τ h56 := by rw [eh56]; exact sp51.wl tw_rm_s2 hz
  have f58 : h56 v = some (.inr (7, [.int gd, .int sv])) := by rw [eh56, tw_up_n (Ne.symm nxv)]; exact f52
  have f59 : h56 q25 = some (.inl (d.2 0, 4, .inl (fun _ => 0))) := by rw [eh56, tw_up_n (Ne.symm ne31)]; exact f53
  have f60 : h56 q42 = some (.inl (d.2 0, 4, .inl (fun _ => 0))) := by rw [eh56, tw_up_n (Ne.symm ne49)]; exact f55
  have f61 : h56 x = some (.inr (4, [.int (nI j), .int r, .int ct, .ref v, .int 1, .int 1, .ref q25, .ref q42, .null])) := by rw [eh56]; exact tw_up_s
  refine tw_iconst (v := 0) dX0_init_49 (by decide) ?_
  refine tw_istore [(5, .int 0), (0, .ref x), (1, .int (nI j)), (2, .int r), (3, .int ct), (4, .ref v)] dX0_init_50 (by decide) rfl ?_
  refine tw_iload 0 dX0_init_52 rfl ?_
  refine tw_iconst (v := 4) dX0_init_54 (by decide) ?_
  refine tw_icmp_ge 81 dX0_init_55 (by decide) (fun c62 => absurd c62 (by decide)) (fun _ => ?_)
  refine tw_aload_n 1 dX0_init_58 rfl rfl ?_
  refine tw_get (v := .ref q25) rfl in_4 6 dX0_init_59 w_511 rfl (by decide) f61 rfl ?_
  refine tw_iload 0 dX0_init_62 rfl ?_
  refine tw_iconst (v := 3) dX0_init_64 (by decide) ?_
  refine tw_iast dX0_init_65 f59 (vp_in_nI (n := 0) (by decide) (by decide)) ?_
  obtain ⟨F63, eF63⟩ : ∃ z : Nat → Int32, z = upd (fun _ => 0) (0 : Int32).toNatClampNeg 3 := ⟨_, rfl⟩
  rw [← eF63]
  obtain ⟨h64, eh64⟩ : ∃ z : tw_H, z = tw_up h56 q25 (.inl (d.2 0, 4, .inl F63)) := ⟨_, rfl⟩
  rw [← eh64]
  have sp65 : tw_sp d τ (tw_rm (tw_rm h x) v) g τ h64 := by rw [eh64]; exact sp57.wl n28 z29
  have f66 : h64 v = some (.inr (7, [.int gd, .int sv])) := by rw [eh64, tw_up_n ne30]; exact f58
  have f67 : h64 q42 = some (.inl (d.2 0, 4, .inl (fun _ => 0))) := by rw [eh64, tw_up_n (Ne.symm ne48)]; exact f60
  have f68 : h64 x = some (.inr (4, [.int (nI j), .int r, .int ct, .ref v, .int 1, .int 1, .ref q25, .ref q42, .null])) := by rw [eh64, tw_up_n ne31]; exact f61
  have f69 : h64 q25 = some (.inl (d.2 0, 4, .inl F63)) := by rw [eh64]; exact tw_up_s
  refine tw_aload_n 1 dX0_init_66 rfl rfl ?_
  refine tw_get (v := .ref q42) rfl in_4 7 dX0_init_67 w_512 rfl (by decide) f68 rfl ?_
  refine tw_iload 0 dX0_init_70 rfl ?_
  refine tw_bipush (v := 10) dX0_init_72 (by decide) ?_
  refine tw_iast dX0_init_74 f67 (vp_in_nI (n := 0) (by decide) (by decide)) ?_
  obtain ⟨F70, eF70⟩ : ∃ z : Nat → Int32, z = upd (fun _ => 0) (0 : Int32).toNatClampNeg 10 := ⟨_, rfl⟩
  rw [← eF70]
  obtain ⟨h71, eh71⟩ : ∃ z : tw_H, z = tw_up h64 q42 (.inl (d.2 0, 4, .inl F70)) := ⟨_, rfl⟩
  rw [← eh71]
  have sp72 : tw_sp d τ (tw_rm (tw_rm h x) v) g τ h71 := by rw [eh71]; exact sp65.wl n45 z46
  have f73 : h71 v = some (.inr (7, [.int gd, .int sv])) := by rw [eh71, tw_up_n ne47]; exact f66
  have f74 : h71 x = some (.inr (4, [.int (nI j), .int r, .int ct, .ref v, .int 1, .int 1, .ref q25, .ref q42, .null])) := by rw [eh71, tw_up_n ne49]; exact f68
  have f75 : h71 q25 = some (.inl (d.2 0, 4, .inl F63)) := by rw [eh71, tw_up_n ne48]; exact f69
  have f76 : h71 q42 = some (.inl (d.2 0, 4, .inl F70)) := by rw [eh71]; exact tw_up_s
  refine tw_iinc [(5, .int 1), (0, .ref x), (1, .int (nI j)), (2, .int r), (3, .int ct), (4, .ref v)] 0 dX0_init_75 rfl (by decide) (by decide) rfl ?_
  refine tw_goto 52 dX0_init_78 (by decide) ?_
  refine tw_iload 0 dX0_init_52 rfl ?_
  refine tw_iconst (v := 4) dX0_init_54 (by decide) ?_
  refine tw_icmp_ge 81 dX0_init_55 (by decide) (fun c77 => absurd c77 (by decide)) (fun _ => ?_)
  refine tw_aload_n 1 dX0_init_58 rfl rfl ?_
  refine tw_get (v := .ref q25) rfl in_4 6 dX0_init_59 w_511 rfl (by decide) f74 rfl ?_
  refine tw_iload 0 dX0_init_62 rfl ?_
  refine tw_iconst (v := 3) dX0_init_64 (by decide) ?_
  refine tw_iast dX0_init_65 f75 (vp_in_nI (n := 1) (by decide) (by decide)) ?_
  obtain ⟨F78, eF78⟩ : ∃ z : Nat → Int32, z = upd F63 (1 : Int32).toNatClampNeg 3 := ⟨_, rfl⟩
  rw [← eF78]
  obtain ⟨h79, eh79⟩ : ∃ z : tw_H, z = tw_up h71 q25 (.inl (d.2 0, 4, .inl F78)) := ⟨_, rfl⟩
  rw [← eh79]
  have sp80 : tw_sp d τ (tw_rm (tw_rm h x) v) g τ h79 := by rw [eh79]; exact sp72.wl n28 z29
  have f81 : h79 v = some (.inr (7, [.int gd, .int sv])) := by rw [eh79, tw_up_n ne30]; exact f73
  have f82 : h79 x = some (.inr (4, [.int (nI j), .int r, .int ct, .ref v, .int 1, .int 1, .ref q25, .ref q42, .null])) := by rw [eh79, tw_up_n ne31]; exact f74
  have f83 : h79 q42 = some (.inl (d.2 0, 4, .inl F70)) := by rw [eh79, tw_up_n (Ne.symm ne48)]; exact f76
  have f84 : h79 q25 = some (.inl (d.2 0, 4, .inl F78)) := by rw [eh79]; exact tw_up_s
  refine tw_aload_n 1 dX0_init_66 rfl rfl ?_
  refine tw_get (v := .ref q42) rfl in_4 7 dX0_init_67 w_512 rfl (by decide) f82 rfl ?_
  refine tw_iload 0 dX0_init_70 rfl ?_
  refine tw_bipush (v := 10) dX0_init_72 (by decide) ?_
  refine tw_iast dX0_init_74 f83 (vp_in_nI (n := 1) (by decide) (by decide)) ?_
  obtain ⟨F85, eF85⟩ : ∃ z : Nat → Int32, z = upd F70 (1 : Int32).toNatClampNeg 10 := ⟨_, rfl⟩
  rw [← eF85]
  obtain ⟨h86, eh86⟩ : ∃ z : tw_H, z = tw_up h79 q42 (.inl (d.2 0, 4, .inl F85)) := ⟨_, rfl⟩
  rw [← eh86]
  have sp87 : tw_sp d τ (tw_rm (tw_rm h x) v) g τ h86 := by rw [eh86]; exact sp80.wl n45 z46
  have f88 : h86 v = some (.inr (7, [.int gd, .int sv])) := by rw [eh86, tw_up_n ne47]; exact f81
  have f89 : h86 x = some (.inr (4, [.int (nI j), .int r, .int ct, .ref v, .int 1, .int 1, .ref q25, .ref q42, .null])) := by rw [eh86, tw_up_n ne49]; exact f82
  have f90 : h86 q25 = some (.inl (d.2 0, 4, .inl F78)) := by rw [eh86, tw_up_n ne48]; exact f84
  have f91 : h86 q42 = some (.inl (d.2 0, 4, .inl F85)) := by rw [eh86]; exact tw_up_s
  refine tw_iinc [(5, .int 2), (0, .ref x), (1, .int (nI j)), (2, .int r), (3, .int ct), (4, .ref v)] 0 dX0_init_75 rfl (by decide) (by decide) rfl ?_
  refine tw_goto 52 dX0_init_78 (by decide) ?_
  refine tw_iload 0 dX0_init_52 rfl ?_
  refine tw_iconst (v := 4) dX0_init_54 (by decide) ?_
  refine tw_icmp_ge 81 dX0_init_55 (by decide) (fun c92 => absurd c92 (by decide)) (fun _ => ?_)
  refine tw_aload_n 1 dX0_init_58 rfl rfl ?_
  refine tw_get (v := .ref q25) rfl in_4 6 dX0_init_59 w_511 rfl (by decide) f89 rfl ?_
  refine tw_iload 0 dX0_init_62 rfl ?_
  refine tw_iconst (v := 3) dX0_init_64 (by decide) ?_
  refine tw_iast dX0_init_65 f90 (vp_in_nI (n := 2) (by decide) (by decide)) ?_
  obtain ⟨F93, eF93⟩ : ∃ z : Nat → Int32, z = upd F78 (2 : Int32).toNatClampNeg 3 := ⟨_, rfl⟩
  rw [← eF93]
  obtain ⟨h94, eh94⟩ : ∃ z : tw_H, z = tw_up h86 q25 (.inl (d.2 0, 4, .inl F93)) := ⟨_, rfl⟩
  rw [← eh94]
  have sp95 : tw_sp d τ (tw_rm (tw_rm h x) v) g τ h94 := by rw [eh94]; exact sp87.wl n28 z29
  have f96 : h94 v = some (.inr (7, [.int gd, .int sv])) := by rw [eh94, tw_up_n ne30]; exact f88
  have f97 : h94 x = some (.inr (4, [.int (nI j), .int r, .int ct, .ref v, .int 1, .int 1, .ref q25, .ref q42, .null])) := by rw [eh94, tw_up_n ne31]; exact f89
  have f98 : h94 q42 = some (.inl (d.2 0, 4, .inl F85)) := by rw [eh94, tw_up_n (Ne.symm ne48)]; exact f91
  have f99 : h94 q25 = some (.inl (d.2 0, 4, .inl F93)) := by rw [eh94]; exact tw_up_s
  refine tw_aload_n 1 dX0_init_66 rfl rfl ?_
  refine tw_get (v := .ref q42) rfl in_4 7 dX0_init_67 w_512 rfl (by decide) f97 rfl ?_
  refine tw_iload 0 dX0_init_70 rfl ?_
  refine tw_bipush (v := 10) dX0_init_72 (by decide) ?_
  refine tw_iast dX0_init_74 f98 (vp_in_nI (n := 2) (by decide) (by decide)) ?_
  obtain ⟨F100, eF100⟩ : ∃ z : Nat → Int32, z = upd F85 (2 : Int32).toNatClampNeg 10 := ⟨_, rfl⟩
  rw [← eF100]
  obtain ⟨h101, eh101⟩ : ∃ z : tw_H, z = tw_up h94 q42 (.inl (d.2 0, 4, .inl F100)) := ⟨_, rfl⟩
  rw [← eh101]
  have sp102 : tw_sp d τ (tw_rm (tw_rm h x) v) g τ h101 := by rw [eh101]; exact sp95.wl n45 z46
  have f103 : h101 v = some (.inr (7, [.int gd, .int sv])) := by rw [eh101, tw_up_n ne47]; exact f96
  have f104 : h101 x = some (.inr (4, [.int (nI j), .int r, .int ct, .ref v, .int 1, .int 1, .ref q25, .ref q42, .null])) := by rw [eh101, tw_up_n ne49]; exact f97
  have f105 : h101 q25 = some (.inl (d.2 0, 4, .inl F93)) := by rw [eh101, tw_up_n ne48]; exact f99
  have f106 : h101 q42 = some (.inl (d.2 0, 4, .inl F100)) := by rw [eh101]; exact tw_up_s
  refine tw_iinc [(5, .int 3), (0, .ref x), (1, .int (nI j)), (2, .int r), (3, .int ct), (4, .ref v)] 0 dX0_init_75 rfl (by decide) (by decide) rfl ?_
  refine tw_goto 52 dX0_init_78 (by decide) ?_
  refine tw_iload 0 dX0_init_52 rfl ?_
  refine tw_iconst (v := 4) dX0_init_54 (by decide) ?_
  refine tw_icmp_ge 81 dX0_init_55 (by decide) (fun c107 => absurd c107 (by decide)) (fun _ => ?_)
  refine tw_aload_n 1 dX0_init_58 rfl rfl ?_
  refine tw_get (v := .ref q25) rfl in_4 6 dX0_init_59 w_511 rfl (by decide) f104 rfl ?_
  refine tw_iload 0 dX0_init_62 rfl ?_
  refine tw_iconst (v := 3) dX0_init_64 (by decide) ?_
  refine tw_iast dX0_init_65 f105 (vp_in_nI (n := 3) (by decide) (by decide)) ?_
  obtain ⟨F108, eF108⟩ : ∃ z : Nat → Int32, z = upd F93 (3 : Int32).toNatClampNeg 3 := ⟨_, rfl⟩
  rw [← eF108]
  obtain ⟨h109, eh109⟩ : ∃ z : tw_H, z = tw_up h101 q25 (.inl (d.2 0, 4, .inl F108)) := ⟨_, rfl⟩
  rw [← eh109]
  have sp110 : tw_sp d τ (tw_rm (tw_rm h x) v) g τ h109 := by rw [eh109]; exact sp102.wl n28 z29
  have f111 : h109 v = some (.inr (7, [.int gd, .int sv])) := by rw [eh109, tw_up_n ne30]; exact f103
  have f112 : h109 x = some (.inr (4, [.int (nI j), .int r, .int ct, .ref v, .int 1, .int 1, .ref q25, .ref q42, .null])) := by rw [eh109, tw_up_n ne31]; exact f104
  have f113 : h109 q42 = some (.inl (d.2 0, 4, .inl F100)) := by rw [eh109, tw_up_n (Ne.symm ne48)]; exact f106
  have f114 : h109 q25 = some (.inl (d.2 0, 4, .inl F108)) := by rw [eh109]; exact tw_up_s
  refine tw_aload_n 1 dX0_init_66 rfl rfl ?_
  refine tw_get (v := .ref q42) rfl in_4 7 dX0_init_67 w_512 rfl (by decide) f112 rfl ?_
  refine tw_iload 0 dX0_init_70 rfl ?_
  refine tw_bipush (v := 10) dX0_init_72 (by decide) ?_
  refine tw_iast dX0_init_74 f113 (vp_in_nI (n := 3) (by decide) (by decide)) ?_
  obtain ⟨F115, eF115⟩ : ∃ z : Nat → Int32, z = upd F100 (3 : Int32).toNatClampNeg 10 := ⟨_, rfl⟩
  rw [← eF115]
  obtain ⟨h116, eh116⟩ : ∃ z : tw_H, z = tw_up h109 q42 (.inl (d.2 0, 4, .inl F115)) := ⟨_, rfl⟩
  rw [← eh116]
  have sp117 : tw_sp d τ (tw_rm (tw_rm h x) v) g τ h116 := by rw [eh116]; exact sp110.wl n45 z46
  have f118 : h116 v = some (.inr (7, [.int gd, .int sv])) := by rw [eh116, tw_up_n ne47]; exact f111
  have f119 : h116 x = some (.inr (4, [.int (nI j), .int r, .int ct, .ref v, .int 1, .int 1, .ref q25, .ref q42, .null])) := by rw [eh116, tw_up_n ne49]; exact f112
  have f120 : h116 q25 = some (.inl (d.2 0, 4, .inl F108)) := by rw [eh116, tw_up_n ne48]; exact f114
  have f121 : h116 q42 = some (.inl (d.2 0, 4, .inl F115)) := by rw [eh116]; exact tw_up_s
  refine tw_iinc [(5, .int 4), (0, .ref x), (1, .int (nI j)), (2, .int r), (3, .int ct), (4, .ref v)] 0 dX0_init_75 rfl (by decide) (by decide) rfl ?_
  refine tw_goto 52 dX0_init_78 (by decide) ?_
  refine tw_iload 0 dX0_init_52 rfl ?_
  refine tw_iconst (v := 4) dX0_init_54 (by decide) ?_
  refine tw_icmp_ge 81 dX0_init_55 (by decide) (fun _ => ?_) (fun c122 => absurd (by decide) c122)
  refine tw_aload_n 1 dX0_init_81 rfl rfl ?_
  refine tw_new (ci := 8) rfl in_8 tyX4 tyX4_ok dX0_init_82 w_491 w_208 w_90 (fs := [.null]) (fun j hj => by rcases (show j = 0 by omega) with rfl <;> rfl) 3 21 (Nat.le_of_ble_eq_true rfl) (Nat.le_of_ble_eq_true rfl) (fun q123 hq124 hA125 => ?_)
  have n126 := sp117.nn hq124
  have z127 := sp117.1.none hq124
  have ne128 := tw_neF f118 hq124
  have ne129 := tw_neF f119 hq124
  have ne130 := tw_neF f120 hq124
  have ne131 := tw_neF f121 hq124
  obtain ⟨h132, eh132⟩ : ∃ z : tw_H, z = tw_up h116 q123 (.inr (8, [.null])) := ⟨_, rfl⟩
  rw [← eh132]
  have sp133 : tw_sp d τ (tw_rm (tw_rm h x) v) g τ h132 := by rw [eh132]; exact sp117.mk hq124
  have f134 : h132 v = some (.inr (7, [.int gd, .int sv])) := by rw [eh132, tw_up_n ne128]; exact f118
  have f135 : h132 x = some (.inr (4, [.int (nI j), .int r, .int ct, .ref v, .int 1, .int 1, .ref q25, .ref q42, .null])) := by rw [eh132, tw_up_n ne129]; exact f119
  have f136 : h132 q25 = some (.inl (d.2 0, 4, .inl F108)) := by rw [eh132, tw_up_n ne130]; exact f120
  have f137 : h132 q42 = some (.inl (d.2 0, 4, .inl F115)) := by rw [eh132, tw_up_n ne131]; exact f121
  have f138 : h132 q123 = some (.inr (8, [.null])) := by rw [eh132]; exact tw_up_s
  refine tw_dup dX0_init_85 rfl ?_
  refine tw_bv (tw_callIN (M := mX0_init) (pc := 86) okX4_init dX0_init_86 w_492 rfl [] [.ref q123, .ref x] rfl rfl ⟨by decide, by decide⟩ (Nat.le_of_ble_eq_true rfl) (c2_X4_init d g τ h132 sp133.1 q123 z127 f138) 2 16 (Nat.le_of_ble_eq_true rfl) (Nat.le_of_ble_eq_true rfl)) (fun h140 q139 => ?_) (fun E h1 q => q.elim)
  obtain ⟨m141, qs142, f143, f144, ne145, n146, hm147, z148, fr149⟩ := q139
  have sp150 := sp133.trm n126 qs142
  have f151 := (fr149 x ne129 (by rw [f135]; exact fun z => by cases z)).trans f135
  have ne152 : x ≠ m141 := fun z => by have y := tw_rmN2 n146 z ne129; rw [f135] at y; cases y
  have f153 := (fr149 v ne128 (by rw [f134]; exact fun z => by cases z)).trans f134
  have ne154 : v ≠ m141 := fun z => by have y := tw_rmN2 n146 z ne128; rw [f134] at y; cases y
  have f155 := (fr149 q25 ne130 (by rw [f136]; exact fun z => by cases z)).trans f136
  have ne156 : q25 ≠ m141 := fun z => by have y := tw_rmN2 n146 z ne130; rw [f136] at y; cases y
  have f157 := (fr149 q42 ne131 (by rw [f137]; exact fun z => by cases z)).trans f137
  have ne158 : q42 ≠ m141 := fun z => by have y := tw_rmN2 n146 z ne131; rw [f137] at y; cases y
  have n159 := sp133.nn hm147
  refine tw_putF rfl in_4 tyX0 tyX0_ok nmX0 8 dX0_init_89 w_513 rfl (by decide) f151 rfl rfl rfl rfl rfl rfl (Nat.le_of_ble_eq_true rfl) [.int (nI j), .int r, .int ct, .ref v, .int 1, .int 1, .ref q25, .ref q42, .ref q123] rfl ?_
  obtain ⟨h160, eh160⟩ : ∃ z : tw_H, z = tw_up h140 x (.inr (4, [.int (nI j), .int r, .int ct, .ref v, .int 1, .int 1, .ref q25, .ref q42, .ref q123])) := ⟨_, rfl⟩
  rw [← eh160]
  have sp161 : tw_sp d τ (tw_rm (tw_rm h x) v) g τ h160 := by rw [eh160]; exact sp150.wl tw_rm_s2 hz
  have f162 : h160 v = some (.inr (7, [.int gd, .int sv])) := by rw [eh160, tw_up_n (Ne.symm nxv)]; exact f153
  have f163 : h160 q25 = some (.inl (d.2 0, 4, .inl F108)) := by rw [eh160, tw_up_n (Ne.symm ne31)]; exact f155
  have f164 : h160 q42 = some (.inl (d.2 0, 4, .inl F115)) := by rw [eh160, tw_up_n (Ne.symm ne49)]; exact f157
  have f165 : h160 q123 = some (.inr (8, [.ref m141])) := by rw [eh160, tw_up_n (Ne.symm ne129)]; exact f143
  have f166 : h160 m141 = some (.inl (d.2 0, 5, .inl (fun _ => 0))) := by rw [eh160, tw_up_n (Ne.symm ne152)]; exact f144
  have f167 : h160 x = some (.inr (4, [.int (nI j), .int r, .int ct, .ref v, .int 1, .int 1, .ref q25, .ref q42, .ref q123])) := by rw [eh160]; exact tw_up_s
  have fF3 : ∀ k, k < 4 → F108 k = 3 := by
    intro k hk
    rw [eF108, eF93, eF78, eF63]
    rcases (show k = 0 ∨ k = 1 ∨ k = 2 ∨ k = 3 by omega) with rfl | rfl | rfl | rfl <;> rfl
  have fF10 : ∀ k, k < 4 → F115 k = 10 := by
    intro k hk
    rw [eF115, eF100, eF85, eF70]
    rcases (show k = 0 ∨ k = 1 ∨ k = 2 ∨ k = 3 by omega) with rfl | rfl | rfl | rfl <;> rfl
  have oo := tw_gC_o (g := g) (b := 160 + 64 * j) (j := j) (t := q123) (m := m141) (v := v) (r := r) (c := ct) (gd := gd) (sv := sv) rfl hj ne31 ne49 ne48
  have ot := tw_gC_t (g := g) (b := 160 + 64 * j) (j := j) (v := v) (r := r) (c := ct) (gd := gd) (sv := sv) rfl hj (Ne.symm ne152) (Ne.symm ne156) (Ne.symm ne158) (Ne.symm ne129) (Ne.symm ne130) (Ne.symm ne131) ne145 (Ne.symm ne128)
  have vv := tw_gC_v (g := g) (b := 160 + 64 * j) (x := x) (rd := q25) (rf := q42) (t := q123) (m := m141) (v := v) (r := r) (c := ct) (gd := gd) (sv := sv)
  have w9 := tw_gC_w9 (g := g) (b := 160 + 64 * j) (j := j) (x := x) (rd := q25) (rf := q42) (t := q123) (m := m141) (v := v) (r := r) (c := ct) (gd := gd) (sv := sv) rfl hj (Ne.symm nxv) ne30 ne47 ne154
  obtain ⟨gC, egC⟩ : ∃ z : tw_G, z = tw_gC g (160 + 64 * j) x q25 q42 q123 m141 v r ct gd sv := ⟨_, rfl⟩
  rw [← egC] at oo vv ot w9
  have sp168 : tw_sp d τ (tw_rm (tw_rm h x) v) gC τ h160 := by rw [egC]; exact sp161.gw2 (tw_gC_w rfl hj h24 hz z29 z46 z127 z148 zv)
  obtain ⟨τ169, eτ169⟩ : ∃ z : tw_K, z = tw_ku τ q25 6 := ⟨_, rfl⟩
  have le170 : tw_le τ τ169 := by rw [eτ169]; exact tw_ku_le z29
  have sp171 : tw_sp d τ (tw_rm (tw_rm h x) v) gC τ169 h160 := by rw [eτ169]; exact sp168.ty n28 z29 f163 (by rw [← eτ169]; exact ⟨_, rfl, _, oo.2.1, fun k hk => (fF3 k hk).trans (vv.2.2.2.2.1 k hk).symm⟩)
  have k172 : τ169 q25 = 6 := by rw [eτ169]; exact tw_ku_s
  have z173 : τ169 x = 0 := by rw [eτ169, tw_ku_n ne31]; exact hz
  have z174 : τ169 v = 0 := by rw [eτ169, tw_ku_n ne30]; exact zv
  have z175 : τ169 q42 = 0 := by rw [eτ169, tw_ku_n (Ne.symm ne48)]; exact z46
  have z176 : τ169 q123 = 0 := by rw [eτ169, tw_ku_n (Ne.symm ne130)]; exact z127
  have z177 : τ169 m141 = 0 := by rw [eτ169, tw_ku_n (Ne.symm ne156)]; exact z148
  obtain ⟨τ178, eτ178⟩ : ∃ z : tw_K, z = tw_ku τ169 q42 6 := ⟨_, rfl⟩
  have le179 : tw_le τ169 τ178 := by rw [eτ178]; exact tw_ku_le z175
  have k180 : τ178 q25 = 6 := le179.k k172 (by decide)
  have sp181 : tw_sp d τ (tw_rm (tw_rm h x) v) gC τ178 h160 := by rw [eτ178]; exact sp171.ty n45 z175 f164 (by rw [← eτ178]; exact ⟨_, rfl, _, oo.2.2, fun k hk => (fF10 k hk).trans (vv.2.2.2.2.2 k hk).symm⟩)
  have k182 : τ178 q42 = 6 := by rw [eτ178]; exact tw_ku_s
  have z183 : τ178 x = 0 := by rw [eτ178, tw_ku_n ne49]; exact z173
  have z184 : τ178 v = 0 := by rw [eτ178, tw_ku_n ne47]; exact z174
  have z185 : τ178 q123 = 0 := by rw [eτ178, tw_ku_n (Ne.symm ne131)]; exact z176
  have z186 : τ178 m141 = 0 := by rw [eτ178, tw_ku_n (Ne.symm ne158)]; exact z177
  obtain ⟨τ187, eτ187⟩ : ∃ z : tw_K, z = tw_ku τ178 m141 7 := ⟨_, rfl⟩
  have le188 : tw_le τ178 τ187 := by rw [eτ187]; exact tw_ku_le z186
  have k189 : τ187 q25 = 6 := le188.k k180 (by decide)
  have k190 : τ187 q42 = 6 := le188.k k182 (by decide)
  have sp191 : tw_sp d τ (tw_rm (tw_rm h x) v) gC τ187 h160 := by rw [eτ187]; exact sp181.ty n159 z186 f166 (by rw [← eτ187]; exact ⟨_, rfl, _, ot.1, fun k hk => (ot.2.2 k hk).symm⟩)
  have k192 : τ187 m141 = 7 := by rw [eτ187]; exact tw_ku_s
  have z193 : τ187 x = 0 := by rw [eτ187, tw_ku_n ne152]; exact z183
  have z194 : τ187 v = 0 := by rw [eτ187, tw_ku_n ne154]; exact z184
  have z195 : τ187 q123 = 0 := by rw [eτ187, tw_ku_n ne145]; exact z185
  obtain ⟨τ196, eτ196⟩ : ∃ z : tw_K, z = tw_ku τ187 q123 5 := ⟨_, rfl⟩
  have le197 : tw_le τ187 τ196 := by rw [eτ196]; exact tw_ku_le z195
  have k198 : τ196 q25 = 6 := le197.k k189 (by decide)
  have k199 : τ196 q42 = 6 := le197.k k190 (by decide)
  have k200 : τ196 m141 = 7 := le197.k k192 (by decide)
  have sp201 : tw_sp d τ (tw_rm (tw_rm h x) v) gC τ196 h160 := by rw [eτ196]; exact sp191.ty n126 z195 f165 (by rw [← eτ196]; exact ⟨m141, rfl, k200, ot.1.2.2.2.2.trans ot.2.1.symm⟩)
  have k202 : τ196 q123 = 5 := by rw [eτ196]; exact tw_ku_s
  have z203 : τ196 x = 0 := by rw [eτ196, tw_ku_n ne129]; exact z193
  have z204 : τ196 v = 0 := by rw [eτ196, tw_ku_n ne128]; exact z194
  obtain ⟨τ205, eτ205⟩ : ∃ z : tw_K, z = tw_ku τ196 v 1 := ⟨_, rfl⟩
  have le206 : tw_le τ196 τ205 := by rw [eτ205]; exact tw_ku_le z204
  have k207 : τ205 q25 = 6 := le206.k k198 (by decide)
  have k208 : τ205 q42 = 6 := le206.k k199 (by decide)
  have k209 : τ205 m141 = 7 := le206.k k200 (by decide)
  have k210 : τ205 q123 = 5 := le206.k k202 (by decide)
  have sp211 : tw_sp d τ (tw_rm (tw_rm h x) v) gC τ205 h160 := by rw [eτ205]; exact sp201.ty tw_rm_s z204 f162 (by rw [← eτ205]; exact ⟨gd, sv, rfl, _, w9.1, w9.2.1.symm, w9.2.2.symm⟩)
  have k212 : τ205 v = 1 := by rw [eτ205]; exact tw_ku_s
  have z213 : τ205 x = 0 := by rw [eτ205, tw_ku_n nxv]; exact z203
  obtain ⟨τ214, eτ214⟩ : ∃ z : tw_K, z = tw_ku τ205 x 2 := ⟨_, rfl⟩
  have le215 : tw_le τ205 τ214 := by rw [eτ214]; exact tw_ku_le z213
  have k216 : τ214 q25 = 6 := le215.k k207 (by decide)
  have k217 : τ214 q42 = 6 := le215.k k208 (by decide)
  have k218 : τ214 m141 = 7 := le215.k k209 (by decide)
  have k219 : τ214 q123 = 5 := le215.k k210 (by decide)
  have k220 : τ214 v = 1 := le215.k k212 (by decide)
  have sp221 : tw_sp d τ (tw_rm (tw_rm h x) v) gC τ214 h160 := by rw [eτ214]; exact sp211.ty tw_rm_s2 z213 f167 (by rw [← eτ214]; exact ⟨nI j, r, ct, 1, 1, v, q25, q42, q123, rfl, k220, k216, k217, k219, (by unfold tw_01; decide), (by unfold tw_01; decide), rlaw.1, rlaw.2, j, oo.1, rfl, vv.1.symm, vv.2.1.symm, vv.2.2.1.symm, vv.2.2.2.1.symm, oo.2.1.2.2.2.2, oo.2.2.2.2.2.2, ot.2.1, w9.1.2.2.2.2⟩)
  have k222 : τ214 x = 2 := by rw [eτ214]; exact tw_ku_s
  exact tw_vret dX0_init_92 rfl (Or.inl ⟨rfl, q25, q42, q123, m141, _, by rw [← egC]; exact ⟨sp221, k222, k220⟩⟩)

set_option maxHeartbeats 4000000 in
set_option maxRecDepth 100000 in
theorem c2_X5_country (d : tw_D) (g : tw_G) (τ : tw_K) (h : tw_H) (hw : tw_wt d g τ h) (x : Nat) (kx : τ x = 11) (r : Int32) (ct : Int32) (go : Int32) (si : Int32) (he6 : g.2 6 = g.2 0) (he24 : g.2 24 = 160 + 64 * g.2 0) : tw_Ct d mX5_country 20 120 [.ref x, .int r, .int ct, .int go, .int si] h (tw_qi (fun r9 h1 => r9 = nI (g.2 0) ∧ tw_RC r ct go si ∧ g.2 0 < 4 ∧ ∃ y9 d9 f9 t9 m9 v9 τ1, tw_sp d τ h (tw_ad (tw_ad (tw_gI (tw_gC g (160 + 64 * g.2 0) y9 d9 f9 t9 m9 v9 r ct go si) 6 0) (1336 + 0) go) (1336 + 1) si) τ1 h1) (fun E h1 => (E = tw_IAE ∧ ¬ tw_RC r ct go si ∨ E = tw_ISE ∧ tw_RC r ct go si ∧ ¬ g.2 0 < 4) ∧ ∃ τ1, tw_sp d τ h g τ1 h1)) := by
  refine tw_of (by decide +kernel) (Nat.le_of_ble_eq_true rfl) ?_
  show tw_W d mX5_country _ 0 [(0, .ref x), (1, .int r), (2, .int ct), (3, .int go), (4, .int si)] [] h 20 120
  have sp0 := tw_sp.rf hw
  refine tw_iload_n 1 dX5_country_0 rfl rfl ?_
  refine tw_iload_n 2 dX5_country_1 rfl rfl ?_
  refine tw_bv (tw_callS (M := mX5_country) (pc := 2) okX5_needLaw dX5_country_2 w_396 [.int r, .int ct] [] rfl rfl ⟨by decide, by decide⟩ (Nat.le_of_ble_eq_true rfl) (c2_X5_needLaw d g τ h sp0.1 r ct) 18 108 (Nat.le_of_ble_eq_true rfl) (Nat.le_of_ble_eq_true rfl)) (fun h2 q1 => ?_) (fun E h1 q1 => Or.inr ⟨E, rfl, Or.inl ⟨q1.1, fun z => q1.2.2 ⟨z.1, z.2.1⟩⟩, τ, by rw [q1.2.1]; exact sp0⟩)
  obtain ⟨q1e, q1l⟩ := q1
  rw [q1e]
  refine tw_iload_n 3 dX5_country_5 rfl rfl ?_
  refine tw_iconst (v := 0) dX5_country_6 (by decide) ?_
  refine tw_ldc (v := 99999) dX5_country_7 w_470 ?_
  refine tw_bv (tw_callS (M := mX5_country) (pc := 9) okX5_needRange dX5_country_9 w_399 [.int go, .int 0, .int 99999] [] rfl rfl ⟨by decide, by decide⟩ (Nat.le_of_ble_eq_true rfl) (c2_X5_needRange d g τ h sp0.1 go 0 99999) 17 102 (Nat.le_of_ble_eq_true rfl) (Nat.le_of_ble_eq_true rfl)) (fun h4 q3 => ?_) (fun E h1 q3 => Or.inr ⟨E, rfl, Or.inl ⟨q3.1, fun z => q3.2.2 z.2.2.1⟩, τ, by rw [q3.2.1]; exact sp0⟩)
  obtain ⟨q3e, q3l⟩ := q3
  rw [q3e]
  refine tw_iload 4 dX5_country_12 rfl ?_
  refine tw_iconst (v := 0) dX5_country_14 (by decide) ?_
  refine tw_ldc (v := 99999) dX5_country_15 w_470 ?_
  refine tw_bv (tw_callS (M := mX5_country) (pc := 17) okX5_needRange dX5_country_17 w_399 [.int si, .int 0, .int 99999] [] rfl rfl ⟨by decide, by decide⟩ (Nat.le_of_ble_eq_true rfl) (c2_X5_needRange d g τ h sp0.1 si 0 99999) 16 96 (Nat.le_of_ble_eq_true rfl) (Nat.le_of_ble_eq_true rfl)) (fun h6 q5 => ?_) (fun E h1 q5 => Or.inr ⟨E, rfl, Or.inl ⟨q5.1, fun z => q5.2.2 z.2.2.2⟩, τ, by rw [q5.2.1]; exact sp0⟩)
  obtain ⟨q5e, q5l⟩ := q5
  rw [q5e]
  have rc : tw_RC r ct go si := ⟨q1l.1, q1l.2, q3l, q5l⟩
  refine tw_aload_n 0 dX5_country_20 rfl rfl ?_
  obtain ⟨e7, f8, td_9, ca_10, ha_11, da_12, c1_13, c2_14, c3_15, c4_16, rfl, k17, k18, k19, k20, k21, k22, k23, k24, k25, k26, k27, k28, k29, k30, k31, k32, k33⟩ := sp0.1 x 11 kx (by decide)
  refine tw_get (v := .int (nI (g.2 0))) rfl in_9 3 dX5_country_21 w_143 rfl (by decide) f8 rfl ?_
  refine tw_aload_n 0 dX5_country_24 rfl rfl ?_
  refine tw_get (v := .ref ca_10) rfl in_9 2 dX5_country_25 w_142 rfl (by decide) f8 rfl ?_
  obtain ⟨e34, f35, F36, rfl, k37, pn38, pb39, px40, pf41⟩ := sp0.1 ca_10 8 k17 (by decide)
  refine tw_alen (v := nI 4) 4 rfl dX5_country_28 f35 rfl ?_
  refine tw_icmp_lt 42 dX5_country_29 (by decide) (fun c42 => ?_) (fun c42 => ?_)
  · refine tw_aload_n 0 dX5_country_42 rfl rfl ?_
    refine tw_get (v := .int (nI (g.2 0))) rfl in_9 3 dX5_country_43 w_143 rfl (by decide) f8 rfl ?_
    refine tw_istore [(5, .int (nI (g.2 0))), (0, .ref x), (1, .int r), (2, .int ct), (3, .int go), (4, .int si)] dX5_country_46 (by decide) rfl ?_
    refine tw_aload_n 1 dX5_country_48 rfl rfl ?_
    refine tw_get (v := .ref ca_10) rfl in_9 2 dX5_country_49 w_142 rfl (by decide) f8 rfl ?_
    refine tw_iload 0 dX5_country_52 rfl ?_
    refine tw_new (ci := 4) rfl in_4 tyX0 tyX0_ok dX5_country_54 w_119 w_229 w_89 (fs := [.int 0, .int 0, .int 0, .null, .int 0, .int 0, .null, .null, .null]) (fun j hj => by rcases (show j = 0 ∨ j = 1 ∨ j = 2 ∨ j = 3 ∨ j = 4 ∨ j = 5 ∨ j = 6 ∨ j = 7 ∨ j = 8 by omega) with rfl | rfl | rfl | rfl | rfl | rfl | rfl | rfl | rfl <;> rfl) 15 87 (Nat.le_of_ble_eq_true rfl) (Nat.le_of_ble_eq_true rfl) (fun q43 hq44 hA45 => ?_)
    have n46 := sp0.nn hq44
    have z47 := sp0.1.none hq44
    obtain ⟨h48, eh48⟩ : ∃ z : tw_H, z = tw_up h q43 (.inr (4, [.int 0, .int 0, .int 0, .null, .int 0, .int 0, .null, .null, .null])) := ⟨_, rfl⟩
    rw [← eh48]
    have sp49 : tw_sp d τ h g τ h48 := by rw [eh48]; exact sp0.mk hq44
    have f50 : h48 q43 = some (.inr (4, [.int 0, .int 0, .int 0, .null, .int 0, .int 0, .null, .null, .null])) := by rw [eh48]; exact tw_up_s
    refine tw_dup dX5_country_57 rfl ?_
    refine tw_iload 0 dX5_country_58 rfl ?_
    refine tw_iload_n 2 dX5_country_60 rfl rfl ?_
    refine tw_iload_n 3 dX5_country_61 rfl rfl ?_
    refine tw_new (ci := 7) rfl in_7 tyX3 tyX3_ok dX5_country_62 w_125 w_126 w_78 (fs := [.int 0, .int 0]) (fun j hj => by rcases (show j = 0 ∨ j = 1 by omega) with rfl | rfl <;> rfl) 14 85 (Nat.le_of_ble_eq_true rfl) (Nat.le_of_ble_eq_true rfl) (fun q51 hq52 hA53 => ?_)
    have n54 := sp49.nn hq52
    have z55 := sp49.1.none hq52
    have ne56 := tw_neF f50 hq52
    obtain ⟨h57, eh57⟩ : ∃ z : tw_H, z = tw_up h48 q51 (.inr (7, [.int 0, .int 0])) := ⟨_, rfl⟩
    rw [← eh57]
    have sp58 : tw_sp d τ h g τ h57 := by rw [eh57]; exact sp49.mk hq52
    have f59 : h57 q43 = some (.inr (4, [.int 0, .int 0, .int 0, .null, .int 0, .int 0, .null, .null, .null])) := by rw [eh57, tw_up_n ne56]; exact f50
    have f60 : h57 q51 = some (.inr (7, [.int 0, .int 0])) := by rw [eh57]; exact tw_up_s
    refine tw_dup dX5_country_65 rfl ?_
    refine tw_iload_n 4 dX5_country_66 rfl rfl ?_
    refine tw_iload 5 dX5_country_67 rfl ?_
    refine tw_bv (tw_callIN (M := mX5_country) (pc := 69) okX3_init dX5_country_69 w_127 rfl [.int go, .int si] [.ref q51, .int ct, .int r, .int (nI (g.2 0)), .ref q43, .ref q43, .int (nI (g.2 0)), .ref ca_10] rfl rfl ⟨by decide, by decide⟩ (Nat.le_of_ble_eq_true rfl) (c2_X3_init d g τ h57 sp58.1 q51 z55 f60 go si) 14 85 (Nat.le_of_ble_eq_true rfl) (Nat.le_of_ble_eq_true rfl)) (fun h64 q63 => ?_) (fun E h1 q => q.elim)
    have sp65 : tw_sp d τ h g τ h64 := by rw [q63]; exact sp58.wl n54 z55
    have f66 : h64 q43 = some (.inr (4, [.int 0, .int 0, .int 0, .null, .int 0, .int 0, .null, .null, .null])) := by rw [q63, tw_up_n ne56]; exact f59
    have f67 : h64 q51 = some (.inr (7, [.int go, .int si])) := by rw [q63]; exact tw_up_s
    have lt0 : g.2 0 < 4 := tw_klt2 c42 k24 (by decide)
    refine tw_bv (tw_callIN (M := mX5_country) (pc := 72) okX0_init dX5_country_72 w_487 rfl [.int (nI (g.2 0)), .int r, .int ct, .ref q51] [.ref q43, .int (nI (g.2 0)), .ref ca_10] rfl rfl ⟨by decide, by decide⟩ (Nat.le_of_ble_eq_true rfl) (c2_X0_init d g τ h64 sp65.1 q43 z47 f66 (g.2 0) lt0 he24 r ct q51 z55 go si f67 ne56 q1l.1) 8 55 (Nat.le_of_ble_eq_true rfl) (Nat.le_of_ble_eq_true rfl)) (fun h69 q68 => ?_) (fun E h1 q => q.elim)
    obtain ⟨d9, f9, t9, m9, τ70, qi71⟩ := q68
    obtain ⟨gC, egC⟩ : ∃ z : tw_G, z = tw_gC g (160 + 64 * g.2 0) q43 d9 f9 t9 m9 q51 r ct go si := ⟨_, rfl⟩
    rw [← egC] at qi71
    have gc0 : gC.2 0 = g.2 0 := by rw [egC]; exact tw_gC_2 (by decide) (by omega) (by omega)
    have gc6 : gC.2 6 = g.2 0 := by rw [egC, ← he6]; exact tw_gC_2 (by decide) (by omega) (by omega)
    have gcx : gC.2 (4096 + q43) = 160 + 64 * g.2 0 := by rw [egC]; unfold tw_gC; dsimp only; rw [if_neg (by omega), if_neg (by omega), if_neg (by omega), if_neg (by omega), if_neg (by omega), if_neg (by omega), if_pos rfl]
    obtain ⟨qi9, kx9, kv9⟩ := qi71
    have sp72 := sp65.trm2 n46 n54 qi9
    have k73 : τ70 x = 11 := qi9.2.1.k kx (by decide)
    have k74 : τ70 ca_10 = 8 := qi9.2.1.k k17 (by decide)
    have k75 : τ70 ha_11 = 9 := qi9.2.1.k k18 (by decide)
    have k76 : τ70 da_12 = 10 := qi9.2.1.k k19 (by decide)
    have k77 : τ70 c1_13 = 1 := qi9.2.1.k k20 (by decide)
    have k78 : τ70 c2_14 = 1 := qi9.2.1.k k21 (by decide)
    have k79 : τ70 c3_15 = 1 := qi9.2.1.k k22 (by decide)
    have k80 : τ70 c4_16 = 1 := qi9.2.1.k k23 (by decide)
    obtain ⟨e81, f82, F83, rfl, k84, pn85, pb86, px87, pf88⟩ := sp72.1 ca_10 8 k74 (by decide)
    obtain ⟨e89, f90, n_91, r_92, c_93, go_94, so_95, v_96, rd_97, rf_98, t_99, rfl, k100, k101, k102, k103, k104, k105, k106, k107, k108⟩ := sp72.1 q43 2 kx9 (by decide)
    refine tw_aast (ci := 4) 4 rfl rfl dX5_country_75 f82 f90 (vp_in_nI lt0 (by decide)) ?_
    obtain ⟨gA, eA⟩ : ∃ z : tw_G, z = tw_g2 gC 6 (gC.2 6 + 1) := ⟨_, rfl⟩
    have ga1 : ∀ i, i ≠ 6 → gA.2 i = gC.2 i := by rw [eA]; intro i hi; exact if_neg hi
    have cl0 : (nI (g.2 0)).toNatClampNeg = gC.2 6 := by rw [nI_clamp (by omega), gc6]
    obtain ⟨h109, eh109⟩ : ∃ z : tw_H, z = tw_up h69 ca_10 (.inl (d.2 4, 4, .inr (.inr (.inr (.inr (va_up F83 (nI (g.2 0)).toNatClampNeg (some q43))))))) := ⟨_, rfl⟩
    rw [← eh109]
    have sp110 : tw_sp d τ h gA τ70 h109 := by rw [eh109]; exact sp72.g8 k74 ⟨_, rfl, tw_okup k84 kx9, by rw [eA, cl0]; exact tw_ixup pn85, by rw [eA]; show gC.2 6 + 1 ≤ 4; rw [gc6]; exact lt0, by rw [ga1 18 (by decide)]; exact px87, fun j q hq => by rw [ga1 _ (by omega)]; rw [cl0] at hq; unfold va_up at hq; by_cases z : j = gC.2 6; (rw [if_pos z] at hq; cases hq; rw [z, gc6]; exact gcx); (rw [if_neg z] at hq; exact pf88 j q hq)⟩ (by rw [eA]; rfl) ga1
    refine tw_aload_n 1 dX5_country_76 rfl rfl ?_
    refine tw_iload 0 dX5_country_77 rfl ?_
    refine tw_iconst (v := 1) dX5_country_79 (by decide) ?_
    refine tw_iadd dX5_country_80 ?_
    refine tw_nmi (fun v111 ev111 => ?_)
    obtain ⟨e112, f113, td_114, ca_115, ha_116, da_117, c1_118, c2_119, c3_120, c4_121, rfl, k122, k123, k124, k125, k126, k127, k128, k129, k130, k131, k132, k133, k134, k135, k136, k137, k138⟩ := sp110.1 x 11 k73 (by decide)
    obtain ⟨gB, eB⟩ : ∃ z : tw_G, z = tw_g2 gA 0 (gA.2 0 + 1) := ⟨_, rfl⟩
    have eGG : gB = tw_gI gC 6 0 := by rw [eB, eA]; rfl
    have q139 : v111 = nI (gB.2 0) := by rw [ev111, nI_1, eB]; show nI (g.2 0 + 1) = nI (gA.2 0 + 1); rw [ga1 0 (by decide), gc0]
    subst q139
    have egB : gB = tw_g2 gA 0 (gA.2 0 + 1) := eB
    refine tw_put rfl in_9 tyX5 tyX5_ok nmX5 3 dX5_country_81 w_143 rfl (by decide) f113 rfl rfl rfl rfl (Nat.le_of_ble_eq_true rfl) [.int td_114, .int (gA.1 0), .ref ca_115, .int (nI (gB.2 0)), .ref ha_116, .int (nI (gA.2 1)), .ref da_117, .int (nI (gA.2 2)), .ref c1_118, .ref c2_119, .ref c3_120, .ref c4_121] rfl ?_
    obtain ⟨h140, eh140⟩ : ∃ z : tw_H, z = tw_up h109 x (.inr (9, [.int td_114, .int (gA.1 0), .ref ca_115, .int (nI (gB.2 0)), .ref ha_116, .int (nI (gA.2 1)), .ref da_117, .int (nI (gA.2 2)), .ref c1_118, .ref c2_119, .ref c3_120, .ref c4_121])) := ⟨_, rfl⟩
    rw [← eh140]
    have sp141 : tw_sp d τ h gB τ70 h140 := by rw [eh140]; exact sp110.g11 k73 ⟨td_114, ca_115, ha_116, da_117, c1_118, c2_119, c3_120, c4_121, (by rw [egB]; rfl), k122, k123, k124, k125, k126, k127, k128, (by rw [egB]; exact (show gA.2 0 + 1 ≤ 4 by rw [ga1 0 (by decide), gc0]; exact lt0)), (by rw [egB]; exact k130), (by rw [egB]; exact k131), (by rw [egB]; exact k132), (by rw [egB]; exact k133), (by rw [egB]; exact k134), (by rw [egB]; exact (tw_g2_ne (by omega)).trans k135), (by rw [egB]; exact (tw_g2_ne (by omega)).trans k136), (by rw [egB]; exact (tw_g2_ne (by omega)).trans k137), (by rw [egB]; exact (tw_g2_ne (by omega)).trans k138)⟩ (by rw [egB]; intro i hi; rfl) (by rw [egB]; intro i hi hj; exact if_neg (by omega))
    refine tw_aload_n 1 dX5_country_84 rfl rfl ?_
    obtain ⟨e142, f143, td_144, ca_145, ha_146, da_147, c1_148, c2_149, c3_150, c4_151, rfl, k152, k153, k154, k155, k156, k157, k158, k159, k160, k161, k162, k163, k164, k165, k166, k167, k168⟩ := sp141.1 x 11 k73 (by decide)
    refine tw_get (v := .ref c4_151) rfl in_9 11 dX5_country_85 w_151 rfl (by decide) f143 rfl ?_
    refine tw_iconst (v := 0) dX5_country_88 (by decide) ?_
    refine tw_iload_n 4 dX5_country_89 rfl rfl ?_
    obtain ⟨e174, f175, a_176, b_177, rfl, k178⟩ := sp141.1 c4_151 1 k158 (by decide)
    obtain ⟨b179, ow180, fa9, fb9⟩ := k178
    obtain rfl : 1336 = b179 := (ow180.b k168).symm
    subst fa9 fb9
    refine tw_bv (tw_callVN (M := mX5_country) (pc := 90) okX3_add dX5_country_90 w_534 rfl f175 [.int 0, .int go] [] rfl rfl ⟨by decide, by decide⟩ (Nat.le_of_ble_eq_true rfl) (c4_X3_add d gB τ70 h140 sp141.1 c4_151 k158 1336 k168 0 (by omega) go) 8 55 (Nat.le_of_ble_eq_true rfl) (Nat.le_of_ble_eq_true rfl)) (fun h172 q171 => ?_) (fun E h1 q => q.elim)
    have sp181 := sp141.tr q171
    refine tw_aload_n 1 dX5_country_93 rfl rfl ?_
    obtain ⟨e182, f183, td_184, ca_185, ha_186, da_187, c1_188, c2_189, c3_190, c4_191, rfl, k192, k193, k194, k195, k196, k197, k198, k199, k200, k201, k202, k203, k204, k205, k206, k207, k208⟩ := sp181.1 x 11 k73 (by decide)
    refine tw_get (v := .ref c4_191) rfl in_9 11 dX5_country_94 w_151 rfl (by decide) f183 rfl ?_
    refine tw_iconst (v := 1) dX5_country_97 (by decide) ?_
    refine tw_iload 5 dX5_country_98 rfl ?_
    obtain ⟨e214, f215, a_216, b_217, rfl, k218⟩ := sp181.1 c4_191 1 k198 (by decide)
    obtain ⟨b219, ow220, fa9, fb9⟩ := k218
    obtain rfl : 1336 = b219 := (ow220.b k208).symm
    subst fa9 fb9
    refine tw_bv (tw_callVN (M := mX5_country) (pc := 100) okX3_add dX5_country_100 w_534 rfl f215 [.int 1, .int si] [] rfl rfl ⟨by decide, by decide⟩ (Nat.le_of_ble_eq_true rfl) (c4_X3_add d (tw_ad gB (1336 + 0) go) τ70 h172 sp181.1 c4_191 k198 1336 k208 1 (by omega) si) 8 55 (Nat.le_of_ble_eq_true rfl) (Nat.le_of_ble_eq_true rfl)) (fun h212 q211 => ?_) (fun E h1 q => q.elim)
    have sp221 := sp181.tr q211
    refine tw_iload 0 dX5_country_103 rfl ?_
    exact tw_iret dX5_country_105 rfl (Or.inl ⟨_, rfl, rfl, rc, lt0, _, d9, f9, t9, m9, q51, _, by rw [← egC, ← eGG]; exact sp221⟩)
  · exact tw_throwS (i := 1) (by decide +kernel) w_471 w_88 rfl at_ISE dX5_country_32 dX5_country_35 dX5_country_36 dX5_country_38 dX5_country_41 ⟨by decide, Nat.le_of_ble_eq_true rfl⟩ (Nat.le_of_ble_eq_true rfl) (Nat.le_of_ble_eq_true rfl) (Or.inr ⟨_, rfl, Or.inr ⟨rfl, rc, fun z => c42 (nI_lt z (by decide))⟩, _, sp0⟩)

set_option maxHeartbeats 4000000 in
set_option maxRecDepth 100000 in
theorem c2_X5_pass (d : tw_D) (g : tw_G) (τ : tw_K) (h : tw_H) (hw : tw_wt d g τ h) (x : Nat) (kx : τ x = 11) (dy : Int32) : tw_Ct d mX5_pass 20 120 [.ref x, .int dy] h (tw_qi (fun r9 h1 => r9 = nI (g.2 21 + tw_DN dy) ∧ tw_RP dy ∧ g.2 21 + tw_DN dy ≤ 3000 ∧ ∃ τ1, tw_sp d τ h (tw_dsC g (tw_DN dy)) τ1 h1) (fun E h1 => (E = tw_IAE ∧ ¬ tw_RP dy ∨ E = tw_ISE ∧ tw_RP dy ∧ ¬ g.2 21 + tw_DN dy ≤ 3000) ∧ ∃ τ1, tw_sp d τ h g τ1 h1)) := by
  refine tw_of (by decide +kernel) (Nat.le_of_ble_eq_true rfl) ?_
  show tw_W d mX5_pass _ 0 [(0, .ref x), (1, .int dy)] [] h 20 120
  have sp0 := tw_sp.rf hw
  refine tw_iload_n 1 dX5_pass_0 rfl rfl ?_
  refine tw_iconst (v := 1) dX5_pass_1 (by decide) ?_
  refine tw_sipush (v := 400) dX5_pass_2 (by decide) ?_
  refine tw_bv (tw_callS (M := mX5_pass) (pc := 5) okX5_needRange dX5_pass_5 w_399 [.int dy, .int 1, .int 400] [] rfl rfl ⟨by decide, by decide⟩ (Nat.le_of_ble_eq_true rfl) (c2_X5_needRange d g τ h sp0.1 dy 1 400) 19 114 (Nat.le_of_ble_eq_true rfl) (Nat.le_of_ble_eq_true rfl)) (fun h2 q1 => ?_) (fun E h1 q1 => Or.inr ⟨E, rfl, Or.inl ⟨q1.1, q1.2.2⟩, τ, by rw [q1.2.1]; exact sp0⟩)
  obtain ⟨q1e, rp⟩ := q1
  rw [q1e]
  obtain ⟨D, hD1, hD4, eD⟩ := tw_pD rp
  subst eD
  have cD : tw_DN (nI D) = D := nI_clamp (by omega)
  refine tw_aload_n 0 dX5_pass_8 rfl rfl ?_
  obtain ⟨e3, f4, td_5, ca_6, ha_7, da_8, c1_9, c2_10, c3_11, c4_12, rfl, k13, k14, k15, k16, k17, k18, k19, k20, k21, k22, k23, k24, k25, k26, k27, k28, k29⟩ := sp0.1 x 11 kx (by decide)
  refine tw_get (v := .int td_5) rfl in_9 0 dX5_pass_9 w_140 rfl (by decide) f4 rfl ?_
  refine tw_sipush (v := 3000) dX5_pass_12 (by decide) ?_
  refine tw_iload_n 1 dX5_pass_15 rfl rfl ?_
  refine tw_isub dX5_pass_16 ?_
  refine tw_nmi (fun v30 ev30 => ?_)
  refine tw_icmp_le 30 dX5_pass_17 (by decide) (fun c31 => ?_) (fun c31 => ?_)
  · have le9 : g.2 21 + D ≤ 3000 := (tw_dle k24 ev30 k25 hD4).mp c31
    have tb9 := k25
    refine tw_iconst (v := 0) dX5_pass_30 (by decide) ?_
    refine tw_istore_n [(2, .int 0), (0, .ref x), (1, .int (nI D))] dX5_pass_31 rfl (by decide) rfl ?_
    have L35 : ∀ (r33 k32 : Nat) (τ38 : tw_K) (h39 : tw_H) (sp40 : tw_sp d τ h (tw_dsC g k32) τ38 h39), D + 1 ≤ k32 + r33 → k32 ≤ D → tw_W d mX5_pass (tw_qi (fun r9 h1 => r9 = nI (g.2 21 + tw_DN (nI D)) ∧ tw_RP (nI D) ∧ g.2 21 + tw_DN (nI D) ≤ 3000 ∧ ∃ τ1, tw_sp d τ h (tw_dsC g (tw_DN (nI D))) τ1 h1) (fun E h1 => (E = tw_IAE ∧ ¬ tw_RP (nI D) ∨ E = tw_ISE ∧ tw_RP (nI D) ∧ ¬ g.2 21 + tw_DN (nI D) ≤ 3000) ∧ ∃ τ1, tw_sp d τ h g τ1 h1)) 32 [(0, .ref x), (1, .int (nI D)), (2, .int (nI k32))] [] h39 19 114 := by
      intro r33
      induction r33 with
      | zero => intro k32 τ38 h39 sp40 hk36 hk37; exact absurd hk36 (by omega)
      | succ r33 ih34 =>
        intro k32 τ38 h39 sp40 hk36 hk37
        obtain ⟨g41, eg41⟩ : ∃ z : tw_G, z = tw_dsC g k32 := ⟨_, rfl⟩
        rw [← eg41] at sp40
        have tg41 : g41.2 21 = g.2 21 + k32 := by rw [eg41, tw_dsC_2]; rfl
        refine tw_iload_n 2 dX5_pass_32 rfl rfl ?_
        refine tw_iload_n 1 dX5_pass_33 rfl rfl ?_
        refine tw_icmp_ge 47 dX5_pass_34 (by decide) (fun c43 => ?_) (fun c43 => ?_)
        · refine tw_aload_n 0 dX5_pass_47 rfl rfl ?_
          obtain ⟨e44, f45, td_46, ca_47, ha_48, da_49, c1_50, c2_51, c3_52, c4_53, rfl, k54, k55, k56, k57, k58, k59, k60, k61, k62, k63, k64, k65, k66, k67, k68, k69, k70⟩ := sp40.1 x 11 (sp40.2.1.k kx (by decide)) (by decide)
          refine tw_get (v := .int td_46) rfl in_9 0 dX5_pass_48 w_140 rfl (by decide) f45 rfl ?_
          exact tw_iret dX5_pass_51 rfl (Or.inl ⟨_, rfl, by rw [cD, k65, tg41, show k32 = D from Nat.le_antisymm hk37 (tw_kge c43 (by omega))], rp, by rw [cD]; exact le9, _, by rw [cD, ← show k32 = D from Nat.le_antisymm hk37 (tw_kge c43 (by omega)), ← eg41]; exact (sp0.tr sp40)⟩)
        · refine tw_aload_n 0 dX5_pass_37 rfl rfl ?_
          have kl9 : k32 < D := tw_klt (N := D) c43 hk37 (by omega)
          obtain ⟨e74, f75, td_76, ca_77, ha_78, da_79, c1_80, c2_81, c3_82, c4_83, rfl, k84, k85, k86, k87, k88, k89, k90, k91, k92, k93, k94, k95, k96, k97, k98, k99, k100⟩ := sp40.1 x 11 (sp40.2.1.k kx (by decide)) (by decide)
          refine tw_bv (tw_callV (M := mX5_pass) (pc := 38) okX5_beginDay dX5_pass_38 w_695 rfl f75 [] [] rfl rfl ⟨by decide, by decide⟩ (Nat.le_of_ble_eq_true rfl) (c2_X5_beginDay d g41 τ38 h39 sp40.1 x (sp40.2.1.k kx (by decide)) (by omega)) 19 114 (Nat.le_of_ble_eq_true rfl) (Nat.le_of_ble_eq_true rfl)) (fun h72 q71 => ?_) (fun E h1 q => q.elim)
          obtain ⟨τ73, q71s⟩ := q71
          have sp101 := sp40.tr q71s
          have k102 := q71s.2.1.k (sp40.2.1.k kx (by decide)) (by decide)
          obtain ⟨v103, ev103⟩ : ∃ y : Int32, y = (nI k32) + 1 := ⟨_, rfl⟩
          refine tw_iinc [(2, .int v103), (0, .ref x), (1, .int (nI D))] 2 dX5_pass_41 rfl (by rw [ev103]; rfl) (by decide) rfl ?_
          refine tw_goto 32 dX5_pass_44 (by decide) ?_
          have qv103 := tw_nI3 ev103
          rw [qv103]
          refine tw_lv [1, 2, 0] rfl ?_
          exact ih34 (k32 + 1) _ _ (by rw [show tw_dsC g (k32 + 1) = tw_dyC g41 from by rw [eg41]; rfl]; exact sp101) (by omega) (by omega)
    refine tw_lv [1, 2, 0] rfl ?_
    exact L35 (D + 1) 0 _ _ (by rw [show tw_dsC g 0 = g from rfl]; exact tw_sp.rf sp0.1) (by omega) (by omega)
  · have le9 : ¬ g.2 21 + D ≤ 3000 := fun z => c31 ((tw_dle k24 ev30 k25 hD4).mpr z)
    have tb9 := k25
    exact tw_throwS (i := 12) (by decide +kernel) w_471 w_88 rfl at_ISE dX5_pass_20 dX5_pass_23 dX5_pass_24 dX5_pass_26 dX5_pass_29 ⟨by decide, Nat.le_of_ble_eq_true rfl⟩ (Nat.le_of_ble_eq_true rfl) (Nat.le_of_ble_eq_true rfl) (Or.inr ⟨_, rfl, Or.inr ⟨rfl, rp, fun z => le9 (by rw [cD] at z; exact z)⟩, _, sp0⟩)

set_option maxHeartbeats 4000000 in
set_option maxRecDepth 100000 in
theorem c2_X5_init (d : tw_D) (g : tw_G) (τ : tw_K) (h : tw_H) (hw : tw_wt d g τ h) (hz0 : ∀ a, τ a = 0) (x : Nat) (hz : τ x = 0) (hx : h x = some (.inr (9, [.int 0, .int 0, .null, .int 0, .null, .int 0, .null, .int 0, .null, .null, .null, .null]))) : tw_Ct d mX5_init 10 40 [.ref x] h (tw_qv (fun h1 => ∃ (g1 : tw_G) (τ1 : tw_K), (g1.1 0 = 155 ∧ (∀ i, (i < 9 ∨ i = 21) → g1.2 i = 0) ∧ g1.2 24 = 160 ∧ g1.2 9 = 0 ∧ (g1.2 130 = 768 ∧ g1.2 131 = 0 ∧ g1.2 132 = 1152 ∧ g1.2 133 = 0 ∧ g1.2 134 = 1344 ∧ g1.2 135 = 0) ∧ ∀ i, 0 < i → g1.1 i = 0) ∧ tw_ini d g1 τ h x 11 τ1 h1) tw_nx) := by
  refine tw_of (by decide +kernel) (Nat.le_of_ble_eq_true rfl) ?_
  show tw_W d mX5_init _ 0 [(0, .ref x)] [] h 10 40
  have sp0 := tw_sp.rm hw x
  refine tw_aload_n 0 dX5_init_0 rfl rfl ?_
  refine tw_objInit dX5_init_1 w_116 w_117 w_118 ⟨by decide, Nat.le_of_ble_eq_true rfl⟩ ?_
  refine tw_aload_n 0 dX5_init_4 rfl rfl ?_
  refine tw_sipush (v := 155) dX5_init_5 (by decide) ?_
  refine tw_put rfl in_9 tyX5 tyX5_ok nmX5 1 dX5_init_8 w_141 rfl (by decide) hx rfl rfl rfl rfl (Nat.le_of_ble_eq_true rfl) [.int 0, .int 155, .null, .int 0, .null, .int 0, .null, .int 0, .null, .null, .null, .null] rfl ?_
  obtain ⟨h1, eh1⟩ : ∃ z : tw_H, z = tw_up h x (.inr (9, [.int 0, .int 155, .null, .int 0, .null, .int 0, .null, .int 0, .null, .null, .null, .null])) := ⟨_, rfl⟩
  rw [← eh1]
  have sp2 : tw_sp d τ (tw_rm h x) g τ h1 := by rw [eh1]; exact sp0.wl tw_rm_s hz
  have f3 : h1 x = some (.inr (9, [.int 0, .int 155, .null, .int 0, .null, .int 0, .null, .int 0, .null, .null, .null, .null])) := by rw [eh1]; exact tw_up_s
  refine tw_aload_n 0 dX5_init_11 rfl rfl ?_
  refine tw_iconst (v := 4) dX5_init_12 (by decide) ?_
  refine tw_newq (k := 4) (N := 4) 4 rfl (fun _ _ z => z.2.2.2.2.2.2.2.1.1) dX5_init_13 w_119 (by decide) (by decide) (by decide) 9 36 (Nat.le_of_ble_eq_true rfl) (Nat.le_of_ble_eq_true rfl) (fun q4 hq5 hA6 => ?_)
  have n7 := sp2.nn hq5
  have z8 := sp2.1.none hq5
  have ne9 := tw_neF f3 hq5
  obtain ⟨h10, eh10⟩ : ∃ z : tw_H, z = tw_up h1 q4 (.inl (d.2 4, 4, .inr (.inr (.inr (.inr (fun _ => none)))))) := ⟨_, rfl⟩
  rw [← eh10]
  have sp11 : tw_sp d τ (tw_rm h x) g τ h10 := by rw [eh10]; exact sp2.mk hq5
  have f12 : h10 x = some (.inr (9, [.int 0, .int 155, .null, .int 0, .null, .int 0, .null, .int 0, .null, .null, .null, .null])) := by rw [eh10, tw_up_n ne9]; exact f3
  have f13 : h10 q4 = some (.inl (d.2 4, 4, .inr (.inr (.inr (.inr (fun _ => none)))))) := by rw [eh10]; exact tw_up_s
  refine tw_putF rfl in_9 tyX5 tyX5_ok nmX5 2 dX5_init_16 w_142 rfl (by decide) f12 rfl rfl rfl rfl rfl rfl (Nat.le_of_ble_eq_true rfl) [.int 0, .int 155, .ref q4, .int 0, .null, .int 0, .null, .int 0, .null, .null, .null, .null] rfl ?_
  obtain ⟨h14, eh14⟩ : ∃ z : tw_H, z = tw_up h10 x (.inr (9, [.int 0, .int 155, .ref q4, .int 0, .null, .int 0, .null, .int 0, .null, .null, .null, .null])) := ⟨_, rfl⟩
  rw [← eh14]
  have sp15 : tw_sp d τ (tw_rm h x) g τ h14 := by rw [eh14]; exact sp11.wl tw_rm_s hz
  have f16 : h14 q4 = some (.inl (d.2 4, 4, .inr (.inr (.inr (.inr (fun _ => none)))))) := by rw [eh14, tw_up_n (Ne.symm ne9)]; exact f13
  have f17 : h14 x = some (.inr (9, [.int 0, .int 155, .ref q4, .int 0, .null, .int 0, .null, .int 0, .null, .null, .null, .null])) := by rw [eh14]; exact tw_up_s
  refine tw_aload_n 0 dX5_init_19 rfl rfl ?_
  refine tw_bipush (v := 6) dX5_init_20 (by decide) ?_
  refine tw_newq (k := 6) (N := 6) 5 rfl (fun _ _ z => z.2.2.2.2.2.2.2.1.2.1) dX5_init_22 w_121 (by decide) (by decide) (by decide) 8 30 (Nat.le_of_ble_eq_true rfl) (Nat.le_of_ble_eq_true rfl) (fun q18 hq19 hA20 => ?_)
  have n21 := sp15.nn hq19
  have z22 := sp15.1.none hq19
  have ne23 := tw_neF f16 hq19
  have ne24 := tw_neF f17 hq19
  obtain ⟨h25, eh25⟩ : ∃ z : tw_H, z = tw_up h14 q18 (.inl (d.2 5, 6, .inr (.inr (.inr (.inr (fun _ => none)))))) := ⟨_, rfl⟩
  rw [← eh25]
  have sp26 : tw_sp d τ (tw_rm h x) g τ h25 := by rw [eh25]; exact sp15.mk hq19
  have f27 : h25 q4 = some (.inl (d.2 4, 4, .inr (.inr (.inr (.inr (fun _ => none)))))) := by rw [eh25, tw_up_n ne23]; exact f16
  have f28 : h25 x = some (.inr (9, [.int 0, .int 155, .ref q4, .int 0, .null, .int 0, .null, .int 0, .null, .null, .null, .null])) := by rw [eh25, tw_up_n ne24]; exact f17
  have f29 : h25 q18 = some (.inl (d.2 5, 6, .inr (.inr (.inr (.inr (fun _ => none)))))) := by rw [eh25]; exact tw_up_s
  refine tw_putF rfl in_9 tyX5 tyX5_ok nmX5 4 dX5_init_25 w_144 rfl (by decide) f28 rfl rfl rfl rfl rfl rfl (Nat.le_of_ble_eq_true rfl) [.int 0, .int 155, .ref q4, .int 0, .ref q18, .int 0, .null, .int 0, .null, .null, .null, .null] rfl ?_
  obtain ⟨h30, eh30⟩ : ∃ z : tw_H, z = tw_up h25 x (.inr (9, [.int 0, .int 155, .ref q4, .int 0, .ref q18, .int 0, .null, .int 0, .null, .null, .null, .null])) := ⟨_, rfl⟩
  rw [← eh30]
  have sp31 : tw_sp d τ (tw_rm h x) g τ h30 := by rw [eh30]; exact sp26.wl tw_rm_s hz
  have f32 : h30 q4 = some (.inl (d.2 4, 4, .inr (.inr (.inr (.inr (fun _ => none)))))) := by rw [eh30, tw_up_n (Ne.symm ne9)]; exact f27
  have f33 : h30 q18 = some (.inl (d.2 5, 6, .inr (.inr (.inr (.inr (fun _ => none)))))) := by rw [eh30, tw_up_n (Ne.symm ne24)]; exact f29
  have f34 : h30 x = some (.inr (9, [.int 0, .int 155, .ref q4, .int 0, .ref q18, .int 0, .null, .int 0, .null, .null, .null, .null])) := by rw [eh30]; exact tw_up_s
  refine tw_aload_n 0 dX5_init_28 rfl rfl ?_
  refine tw_bipush (v := 10) dX5_init_29 (by decide) ?_
  refine tw_newq (k := 10) (N := 10) 6 rfl (fun _ _ z => z.2.2.2.2.2.2.2.1.2.2.1) dX5_init_31 w_123 (by decide) (by decide) (by decide) 7 20 (Nat.le_of_ble_eq_true rfl) (Nat.le_of_ble_eq_true rfl) (fun q35 hq36 hA37 => ?_)
  have n38 := sp31.nn hq36
  have z39 := sp31.1.none hq36
  have ne40 := tw_neF f32 hq36
  have ne41 := tw_neF f33 hq36
  have ne42 := tw_neF f34 hq36
  obtain ⟨h43, eh43⟩ : ∃ z : tw_H, z = tw_up h30 q35 (.inl (d.2 6, 10, .inr (.inr (.inr (.inr (fun _ => none)))))) := ⟨_, rfl⟩
  rw [← eh43]
  have sp44 : tw_sp d τ (tw_rm h x) g τ h43 := by rw [eh43]; exact sp31.mk hq36
  have f45 : h43 q4 = some (.inl (d.2 4, 4, .inr (.inr (.inr (.inr (fun _ => none)))))) := by rw [eh43, tw_up_n ne40]; exact f32
  have f46 : h43 q18 = some (.inl (d.2 5, 6, .inr (.inr (.inr (.inr (fun _ => none)))))) := by rw [eh43, tw_up_n ne41]; exact f33
  have f47 : h43 x = some (.inr (9, [.int 0, .int 155, .ref q4, .int 0, .ref q18, .int 0, .null, .int 0, .null, .null, .null, .null])) := by rw [eh43, tw_up_n ne42]; exact f34
  have f48 : h43 q35 = some (.inl (d.2 6, 10, .inr (.inr (.inr (.inr (fun _ => none)))))) := by rw [eh43]; exact tw_up_s
  refine tw_putF rfl in_9 tyX5 tyX5_ok nmX5 6 dX5_init_34 w_146 rfl (by decide) f47 rfl rfl rfl rfl rfl rfl (Nat.le_of_ble_eq_true rfl) [.int 0, .int 155, .ref q4, .int 0, .ref q18, .int 0, .ref q35, .int 0, .null, .null, .null, .null] rfl ?_
  obtain ⟨h49, eh49⟩ : ∃ z : tw_H, z = tw_up h43 x (.inr (9, [.int 0, .int 155, .ref q4, .int 0, .ref q18, .int 0, .ref q35, .int 0, .null, .null, .null, .null])) := ⟨_, rfl⟩
  rw [← eh49]
  have sp50 : tw_sp d τ (tw_rm h x) g τ h49 := by rw [eh49]; exact sp44.wl tw_rm_s hz
  have f51 : h49 q4 = some (.inl (d.2 4, 4, .inr (.inr (.inr (.inr (fun _ => none)))))) := by rw [eh49, tw_up_n (Ne.symm ne9)]; exact f45
  have f52 : h49 q18 = some (.inl (d.2 5, 6, .inr (.inr (.inr (.inr (fun _ => none)))))) := by rw [eh49, tw_up_n (Ne.symm ne24)]; exact f46
  have f53 : h49 q35 = some (.inl (d.2 6, 10, .inr (.inr (.inr (.inr (fun _ => none)))))) := by rw [eh49, tw_up_n (Ne.symm ne42)]; exact f48
  have f54 : h49 x = some (.inr (9, [.int 0, .int 155, .ref q4, .int 0, .ref q18, .int 0, .ref q35, .int 0, .null, .null, .null, .null])) := by rw [eh49]; exact tw_up_s
  refine tw_aload_n 0 dX5_init_37 rfl rfl ?_
  refine tw_new (ci := 7) rfl in_7 tyX3 tyX3_ok dX5_init_38 w_125 w_126 w_78 (fs := [.int 0, .int 0]) (fun j hj => by rcases (show j = 0 ∨ j = 1 by omega) with rfl | rfl <;> rfl) 6 18 (Nat.le_of_ble_eq_true rfl) (Nat.le_of_ble_eq_true rfl) (fun q55 hq56 hA57 => ?_)
  have n58 := sp50.nn hq56
  have z59 := sp50.1.none hq56
  have ne60 := tw_neF f51 hq56
  have ne61 := tw_neF f52 hq56
  have ne62 := tw_neF f53 hq56
  have ne63 := tw_neF f54 hq56
  obtain ⟨h64, eh64⟩ : ∃ z : tw_H, z = tw_up h49 q55 (.inr (7, [.int 0, .int 0])) := ⟨_, rfl⟩
  rw [← eh64]
  have sp65 : tw_sp d τ (tw_rm h x) g τ h64 := by rw [eh64]; exact sp50.mk hq56
  have f66 : h64 q4 = some (.inl (d.2 4, 4, .inr (.inr (.inr (.inr (fun _ => none)))))) := by rw [eh64, tw_up_n ne60]; exact f51
  have f67 : h64 q18 = some (.inl (d.2 5, 6, .inr (.inr (.inr (.inr (fun _ => none)))))) := by rw [eh64, tw_up_n ne61]; exact f52
  have f68 : h64 q35 = some (.inl (d.2 6, 10, .inr (.inr (.inr (.inr (fun _ => none)))))) := by rw [eh64, tw_up_n ne62]; exact f53
  have f69 : h64 x = some (.inr (9, [.int 0, .int 155, .ref q4, .int 0, .ref q18, .int 0, .ref q35, .int 0, .null, .null, .null, .null])) := by rw [eh64, tw_up_n ne63]; exact f54
  have f70 : h64 q55 = some (.inr (7, [.int 0, .int 0])) := by rw [eh64]; exact tw_up_s
  refine tw_dup dX5_init_41 rfl ?_
  refine tw_iconst (v := 0) dX5_init_42 (by decide) ?_
  refine tw_iconst (v := 0) dX5_init_43 (by decide) ?_
  refine tw_bv (tw_callIN (M := mX5_init) (pc := 44) okX3_init dX5_init_44 w_127 rfl [.int 0, .int 0] [.ref q55, .ref x] rfl rfl ⟨by decide, by decide⟩ (Nat.le_of_ble_eq_true rfl) (c2_X3_init d g τ h64 sp65.1 q55 z59 f70 0 0) 6 18 (Nat.le_of_ble_eq_true rfl) (Nat.le_of_ble_eq_true rfl)) (fun h72 q71 => ?_) (fun E h1 q => q.elim)
  have sp73 : tw_sp d τ (tw_rm h x) g τ h72 := by rw [q71]; exact sp65.wl n58 z59
  have f74 : h72 q4 = some (.inl (d.2 4, 4, .inr (.inr (.inr (.inr (fun _ => none)))))) := by rw [q71, tw_up_n ne60]; exact f66
  have f75 : h72 q18 = some (.inl (d.2 5, 6, .inr (.inr (.inr (.inr (fun _ => none)))))) := by rw [q71, tw_up_n ne61]; exact f67
  have f76 : h72 q35 = some (.inl (d.2 6, 10, .inr (.inr (.inr (.inr (fun _ => none)))))) := by rw [q71, tw_up_n ne62]; exact f68
  have f77 : h72 x = some (.inr (9, [.int 0, .int 155, .ref q4, .int 0, .ref q18, .int 0, .ref q35, .int 0, .null, .null, .null, .null])) := by rw [q71, tw_up_n ne63]; exact f69
  have f78 : h72 q55 = some (.inr (7, [.int 0, .int 0])) := by rw [q71]; exact tw_up_s
  refine tw_putF rfl in_9 tyX5 tyX5_ok nmX5 8 dX5_init_47 w_148 rfl (by decide) f77 rfl rfl rfl rfl rfl rfl (Nat.le_of_ble_eq_true rfl) [.int 0, .int 155, .ref q4, .int 0, .ref q18, .int 0, .ref q35, .int 0, .ref q55, .null, .null, .null] rfl ?_
  obtain ⟨h79, eh79⟩ : ∃ z : tw_H, z = tw_up h72 x (.inr (9, [.int 0, .int 155, .ref q4, .int 0, .ref q18, .int 0, .ref q35, .int 0, .ref q55, .null, .null, .null])) := ⟨_, rfl⟩
  rw [← eh79]
  have sp80 : tw_sp d τ (tw_rm h x) g τ h79 := by rw [eh79]; exact sp73.wl tw_rm_s hz
  have f81 : h79 q4 = some (.inl (d.2 4, 4, .inr (.inr (.inr (.inr (fun _ => none)))))) := by rw [eh79, tw_up_n (Ne.symm ne9)]; exact f74
  have f82 : h79 q18 = some (.inl (d.2 5, 6, .inr (.inr (.inr (.inr (fun _ => none)))))) := by rw [eh79, tw_up_n (Ne.symm ne24)]; exact f75
  have f83 : h79 q35 = some (.inl (d.2 6, 10, .inr (.inr (.inr (.inr (fun _ => none)))))) := by rw [eh79, tw_up_n (Ne.symm ne42)]; exact f76
  have f84 : h79 q55 = some (.inr (7, [.int 0, .int 0])) := by rw [eh79, tw_up_n (Ne.symm ne63)]; exact f78
  have f85 : h79 x = some (.inr (9, [.int 0, .int 155, .ref q4, .int 0, .ref q18, .int 0, .ref q35, .int 0, .ref q55, .null, .null, .null])) := by rw [eh79]; exact tw_up_s
  refine tw_aload_n 0 dX5_init_50 rfl rfl ?_
  refine tw_new (ci := 7) rfl in_7 tyX3 tyX3_ok dX5_init_51 w_125 w_126 w_78 (fs := [.int 0, .int 0]) (fun j hj => by rcases (show j = 0 ∨ j = 1 by omega) with rfl | rfl <;> rfl) 5 16 (Nat.le_of_ble_eq_true rfl) (Nat.le_of_ble_eq_true rfl) (fun q86 hq87 hA88 => ?_)
  have n89 := sp80.nn hq87
  have z90 := sp80.1.none hq87
  have ne91 := tw_neF f81 hq87
  have ne92 := tw_neF f82 hq87
  have ne93 := tw_neF f83 hq87
  have ne94 := tw_neF f84 hq87
  have ne95 := tw_neF f85 hq87
  obtain ⟨h96, eh96⟩ : ∃ z : tw_H, z = tw_up h79 q86 (.inr (7, [.int 0, .int 0])) := ⟨_, rfl⟩
  rw [← eh96]
  have sp97 : tw_sp d τ (tw_rm h x) g τ h96 := by rw [eh96]; exact sp80.mk hq87
  have f98 : h96 q4 = some (.inl (d.2 4, 4, .inr (.inr (.inr (.inr (fun _ => none)))))) := by rw [eh96, tw_up_n ne91]; exact f81
  have f99 : h96 q18 = some (.inl (d.2 5, 6, .inr (.inr (.inr (.inr (fun _ => none)))))) := by rw [eh96, tw_up_n ne92]; exact f82
  have f100 : h96 q35 = some (.inl (d.2 6, 10, .inr (.inr (.inr (.inr (fun _ => none)))))) := by rw [eh96, tw_up_n ne93]; exact f83
  have f101 : h96 q55 = some (.inr (7, [.int 0, .int 0])) := by rw [eh96, tw_up_n ne94]; exact f84
  have f102 : h96 x = some (.inr (9, [.int 0, .int 155, .ref q4, .int 0, .ref q18, .int 0, .ref q35, .int 0, .ref q55, .null, .null, .null])) := by rw [eh96, tw_up_n ne95]; exact f85
  have f103 : h96 q86 = some (.inr (7, [.int 0, .int 0])) := by rw [eh96]; exact tw_up_s
  refine tw_dup dX5_init_54 rfl ?_
  refine tw_iconst (v := 0) dX5_init_55 (by decide) ?_
  refine tw_iconst (v := 0) dX5_init_56 (by decide) ?_
  refine tw_bv (tw_callIN (M := mX5_init) (pc := 57) okX3_init dX5_init_57 w_127 rfl [.int 0, .int 0] [.ref q86, .ref x] rfl rfl ⟨by decide, by decide⟩ (Nat.le_of_ble_eq_true rfl) (c2_X3_init d g τ h96 sp97.1 q86 z90 f103 0 0) 5 16 (Nat.le_of_ble_eq_true rfl) (Nat.le_of_ble_eq_true rfl)) (fun h105 q104 => ?_) (fun E h1 q => q.elim)
  have sp106 : tw_sp d τ (tw_rm h x) g τ h105 := by rw [q104]; exact sp97.wl n89 z90
  have f107 : h105 q4 = some (.inl (d.2 4, 4, .inr (.inr (.inr (.inr (fun _ => none)))))) := by rw [q104, tw_up_n ne91]; exact f98
  have f108 : h105 q18 = some (.inl (d.2 5, 6, .inr (.inr (.inr (.inr (fun _ => none)))))) := by rw [q104, tw_up_n ne92]; exact f99
  have f109 : h105 q35 = some (.inl (d.2 6, 10, .inr (.inr (.inr (.inr (fun _ => none)))))) := by rw [q104, tw_up_n ne93]; exact f100
  have f110 : h105 q55 = some (.inr (7, [.int 0, .int 0])) := by rw [q104, tw_up_n ne94]; exact f101
  have f111 : h105 x = some (.inr (9, [.int 0, .int 155, .ref q4, .int 0, .ref q18, .int 0, .ref q35, .int 0, .ref q55, .null, .null, .null])) := by rw [q104, tw_up_n ne95]; exact f102
  have f112 : h105 q86 = some (.inr (7, [.int 0, .int 0])) := by rw [q104]; exact tw_up_s
  refine tw_putF rfl in_9 tyX5 tyX5_ok nmX5 9 dX5_init_60 w_149 rfl (by decide) f111 rfl rfl rfl rfl rfl rfl (Nat.le_of_ble_eq_true rfl) [.int 0, .int 155, .ref q4, .int 0, .ref q18, .int 0, .ref q35, .int 0, .ref q55, .ref q86, .null, .null] rfl ?_
  obtain ⟨h113, eh113⟩ : ∃ z : tw_H, z = tw_up h105 x (.inr (9, [.int 0, .int 155, .ref q4, .int 0, .ref q18, .int 0, .ref q35, .int 0, .ref q55, .ref q86, .null, .null])) := ⟨_, rfl⟩
  rw [← eh113]
  have sp114 : tw_sp d τ (tw_rm h x) g τ h113 := by rw [eh113]; exact sp106.wl tw_rm_s hz
  have f115 : h113 q4 = some (.inl (d.2 4, 4, .inr (.inr (.inr (.inr (fun _ => none)))))) := by rw [eh113, tw_up_n (Ne.symm ne9)]; exact f107
  have f116 : h113 q18 = some (.inl (d.2 5, 6, .inr (.inr (.inr (.inr (fun _ => none)))))) := by rw [eh113, tw_up_n (Ne.symm ne24)]; exact f108
  have f117 : h113 q35 = some (.inl (d.2 6, 10, .inr (.inr (.inr (.inr (fun _ => none)))))) := by rw [eh113, tw_up_n (Ne.symm ne42)]; exact f109
  have f118 : h113 q55 = some (.inr (7, [.int 0, .int 0])) := by rw [eh113, tw_up_n (Ne.symm ne63)]; exact f110
  have f119 : h113 q86 = some (.inr (7, [.int 0, .int 0])) := by rw [eh113, tw_up_n (Ne.symm ne95)]; exact f112
  have f120 : h113 x = some (.inr (9, [.int 0, .int 155, .ref q4, .int 0, .ref q18, .int 0, .ref q35, .int 0, .ref q55, .ref q86, .null, .null])) := by rw [eh113]; exact tw_up_s
  refine tw_aload_n 0 dX5_init_63 rfl rfl ?_
  refine tw_new (ci := 7) rfl in_7 tyX3 tyX3_ok dX5_init_64 w_125 w_126 w_78 (fs := [.int 0, .int 0]) (fun j hj => by rcases (show j = 0 ∨ j = 1 by omega) with rfl | rfl <;> rfl) 4 14 (Nat.le_of_ble_eq_true rfl) (Nat.le_of_ble_eq_true rfl) (fun q121 hq122 hA123 => ?_)
  have n124 := sp114.nn hq122
  have z125 := sp114.1.none hq122
  have ne126 := tw_neF f115 hq122
  have ne127 := tw_neF f116 hq122
  have ne128 := tw_neF f117 hq122
  have ne129 := tw_neF f118 hq122
  have ne130 := tw_neF f119 hq122
  have ne131 := tw_neF f120 hq122
  obtain ⟨h132, eh132⟩ : ∃ z : tw_H, z = tw_up h113 q121 (.inr (7, [.int 0, .int 0])) := ⟨_, rfl⟩
  rw [← eh132]
  have sp133 : tw_sp d τ (tw_rm h x) g τ h132 := by rw [eh132]; exact sp114.mk hq122
  have f134 : h132 q4 = some (.inl (d.2 4, 4, .inr (.inr (.inr (.inr (fun _ => none)))))) := by rw [eh132, tw_up_n ne126]; exact f115
  have f135 : h132 q18 = some (.inl (d.2 5, 6, .inr (.inr (.inr (.inr (fun _ => none)))))) := by rw [eh132, tw_up_n ne127]; exact f116
  have f136 : h132 q35 = some (.inl (d.2 6, 10, .inr (.inr (.inr (.inr (fun _ => none)))))) := by rw [eh132, tw_up_n ne128]; exact f117
  have f137 : h132 q55 = some (.inr (7, [.int 0, .int 0])) := by rw [eh132, tw_up_n ne129]; exact f118
  have f138 : h132 q86 = some (.inr (7, [.int 0, .int 0])) := by rw [eh132, tw_up_n ne130]; exact f119
  have f139 : h132 x = some (.inr (9, [.int 0, .int 155, .ref q4, .int 0, .ref q18, .int 0, .ref q35, .int 0, .ref q55, .ref q86, .null, .null])) := by rw [eh132, tw_up_n ne131]; exact f120
  have f140 : h132 q121 = some (.inr (7, [.int 0, .int 0])) := by rw [eh132]; exact tw_up_s
  refine tw_dup dX5_init_67 rfl ?_
  refine tw_iconst (v := 0) dX5_init_68 (by decide) ?_
  refine tw_iconst (v := 0) dX5_init_69 (by decide) ?_
  refine tw_bv (tw_callIN (M := mX5_init) (pc := 70) okX3_init dX5_init_70 w_127 rfl [.int 0, .int 0] [.ref q121, .ref x] rfl rfl ⟨by decide, by decide⟩ (Nat.le_of_ble_eq_true rfl) (c2_X3_init d g τ h132 sp133.1 q121 z125 f140 0 0) 4 14 (Nat.le_of_ble_eq_true rfl) (Nat.le_of_ble_eq_true rfl)) (fun h142 q141 => ?_) (fun E h1 q => q.elim)
  have sp143 : tw_sp d τ (tw_rm h x) g τ h142 := by rw [q141]; exact sp133.wl n124 z125
  have f144 : h142 q4 = some (.inl (d.2 4, 4, .inr (.inr (.inr (.inr (fun _ => none)))))) := by rw [q141, tw_up_n ne126]; exact f134
  have f145 : h142 q18 = some (.inl (d.2 5, 6, .inr (.inr (.inr (.inr (fun _ => none)))))) := by rw [q141, tw_up_n ne127]; exact f135
  have f146 : h142 q35 = some (.inl (d.2 6, 10, .inr (.inr (.inr (.inr (fun _ => none)))))) := by rw [q141, tw_up_n ne128]; exact f136
  have f147 : h142 q55 = some (.inr (7, [.int 0, .int 0])) := by rw [q141, tw_up_n ne129]; exact f137
  have f148 : h142 q86 = some (.inr (7, [.int 0, .int 0])) := by rw [q141, tw_up_n ne130]; exact f138
  have f149 : h142 x = some (.inr (9, [.int 0, .int 155, .ref q4, .int 0, .ref q18, .int 0, .ref q35, .int 0, .ref q55, .ref q86, .null, .null])) := by rw [q141, tw_up_n ne131]; exact f139
  have f150 : h142 q121 = some (.inr (7, [.int 0, .int 0])) := by rw [q141]; exact tw_up_s
  refine tw_putF rfl in_9 tyX5 tyX5_ok nmX5 10 dX5_init_73 w_150 rfl (by decide) f149 rfl rfl rfl rfl rfl rfl (Nat.le_of_ble_eq_true rfl) [.int 0, .int 155, .ref q4, .int 0, .ref q18, .int 0, .ref q35, .int 0, .ref q55, .ref q86, .ref q121, .null] rfl ?_
  obtain ⟨h151, eh151⟩ : ∃ z : tw_H, z = tw_up h142 x (.inr (9, [.int 0, .int 155, .ref q4, .int 0, .ref q18, .int 0, .ref q35, .int 0, .ref q55, .ref q86, .ref q121, .null])) := ⟨_, rfl⟩
  rw [← eh151]
  have sp152 : tw_sp d τ (tw_rm h x) g τ h151 := by rw [eh151]; exact sp143.wl tw_rm_s hz
  have f153 : h151 q4 = some (.inl (d.2 4, 4, .inr (.inr (.inr (.inr (fun _ => none)))))) := by rw [eh151, tw_up_n (Ne.symm ne9)]; exact f144
  have f154 : h151 q18 = some (.inl (d.2 5, 6, .inr (.inr (.inr (.inr (fun _ => none)))))) := by rw [eh151, tw_up_n (Ne.symm ne24)]; exact f145
  have f155 : h151 q35 = some (.inl (d.2 6, 10, .inr (.inr (.inr (.inr (fun _ => none)))))) := by rw [eh151, tw_up_n (Ne.symm ne42)]; exact f146
  have f156 : h151 q55 = some (.inr (7, [.int 0, .int 0])) := by rw [eh151, tw_up_n (Ne.symm ne63)]; exact f147
  have f157 : h151 q86 = some (.inr (7, [.int 0, .int 0])) := by rw [eh151, tw_up_n (Ne.symm ne95)]; exact f148
  have f158 : h151 q121 = some (.inr (7, [.int 0, .int 0])) := by rw [eh151, tw_up_n (Ne.symm ne131)]; exact f150
  have f159 : h151 x = some (.inr (9, [.int 0, .int 155, .ref q4, .int 0, .ref q18, .int 0, .ref q35, .int 0, .ref q55, .ref q86, .ref q121, .null])) := by rw [eh151]; exact tw_up_s
  refine tw_aload_n 0 dX5_init_76 rfl rfl ?_
  refine tw_new (ci := 7) rfl in_7 tyX3 tyX3_ok dX5_init_77 w_125 w_126 w_78 (fs := [.int 0, .int 0]) (fun j hj => by rcases (show j = 0 ∨ j = 1 by omega) with rfl | rfl <;> rfl) 3 12 (Nat.le_of_ble_eq_true rfl) (Nat.le_of_ble_eq_true rfl) (fun q160 hq161 hA162 => ?_)
  have n163 := sp152.nn hq161
  have z164 := sp152.1.none hq161
  have ne165 := tw_neF f153 hq161
  have ne166 := tw_neF f154 hq161
  have ne167 := tw_neF f155 hq161
  have ne168 := tw_neF f156 hq161
  have ne169 := tw_neF f157 hq161
  have ne170 := tw_neF f158 hq161
  have ne171 := tw_neF f159 hq161
  obtain ⟨h172, eh172⟩ : ∃ z : tw_H, z = tw_up h151 q160 (.inr (7, [.int 0, .int 0])) := ⟨_, rfl⟩
  rw [← eh172]
  have sp173 : tw_sp d τ (tw_rm h x) g τ h172 := by rw [eh172]; exact sp152.mk hq161
  have f174 : h172 q4 = some (.inl (d.2 4, 4, .inr (.inr (.inr (.inr (fun _ => none)))))) := by rw [eh172, tw_up_n ne165]; exact f153
  have f175 : h172 q18 = some (.inl (d.2 5, 6, .inr (.inr (.inr (.inr (fun _ => none)))))) := by rw [eh172, tw_up_n ne166]; exact f154
  have f176 : h172 q35 = some (.inl (d.2 6, 10, .inr (.inr (.inr (.inr (fun _ => none)))))) := by rw [eh172, tw_up_n ne167]; exact f155
  have f177 : h172 q55 = some (.inr (7, [.int 0, .int 0])) := by rw [eh172, tw_up_n ne168]; exact f156
  have f178 : h172 q86 = some (.inr (7, [.int 0, .int 0])) := by rw [eh172, tw_up_n ne169]; exact f157
  have f179 : h172 q121 = some (.inr (7, [.int 0, .int 0])) := by rw [eh172, tw_up_n ne170]; exact f158
  have f180 : h172 x = some (.inr (9, [.int 0, .int 155, .ref q4, .int 0, .ref q18, .int 0, .ref q35, .int 0, .ref q55, .ref q86, .ref q121, .null])) := by rw [eh172, tw_up_n ne171]; exact f159
  have f181 : h172 q160 = some (.inr (7, [.int 0, .int 0])) := by rw [eh172]; exact tw_up_s
  refine tw_dup dX5_init_80 rfl ?_
  refine tw_iconst (v := 0) dX5_init_81 (by decide) ?_
  refine tw_iconst (v := 0) dX5_init_82 (by decide) ?_
  refine tw_bv (tw_callIN (M := mX5_init) (pc := 83) okX3_init dX5_init_83 w_127 rfl [.int 0, .int 0] [.ref q160, .ref x] rfl rfl ⟨by decide, by decide⟩ (Nat.le_of_ble_eq_true rfl) (c2_X3_init d g τ h172 sp173.1 q160 z164 f181 0 0) 3 12 (Nat.le_of_ble_eq_true rfl) (Nat.le_of_ble_eq_true rfl)) (fun h183 q182 => ?_) (fun E h1 q => q.elim)
  have sp184 : tw_sp d τ (tw_rm h x) g τ h183 := by rw [q182]; exact sp173.wl n163 z164
  have f185 : h183 q4 = some (.inl (d.2 4, 4, .inr (.inr (.inr (.inr (fun _ => none)))))) := by rw [q182, tw_up_n ne165]; exact f174
  have f186 : h183 q18 = some (.inl (d.2 5, 6, .inr (.inr (.inr (.inr (fun _ => none)))))) := by rw [q182, tw_up_n ne166]; exact f175
  have f187 : h183 q35 = some (.inl (d.2 6, 10, .inr (.inr (.inr (.inr (fun _ => none)))))) := by rw [q182, tw_up_n ne167]; exact f176
  have f188 : h183 q55 = some (.inr (7, [.int 0, .int 0])) := by rw [q182, tw_up_n ne168]; exact f177
  have f189 : h183 q86 = some (.inr (7, [.int 0, .int 0])) := by rw [q182, tw_up_n ne169]; exact f178
  have f190 : h183 q121 = some (.inr (7, [.int 0, .int 0])) := by rw [q182, tw_up_n ne170]; exact f179
  have f191 : h183 x = some (.inr (9, [.int 0, .int 155, .ref q4, .int 0, .ref q18, .int 0, .ref q35, .int 0, .ref q55, .ref q86, .ref q121, .null])) := by rw [q182, tw_up_n ne171]; exact f180
  have f192 : h183 q160 = some (.inr (7, [.int 0, .int 0])) := by rw [q182]; exact tw_up_s
  refine tw_putF rfl in_9 tyX5 tyX5_ok nmX5 11 dX5_init_86 w_151 rfl (by decide) f191 rfl rfl rfl rfl rfl rfl (Nat.le_of_ble_eq_true rfl) [.int 0, .int 155, .ref q4, .int 0, .ref q18, .int 0, .ref q35, .int 0, .ref q55, .ref q86, .ref q121, .ref q160] rfl ?_
  obtain ⟨h193, eh193⟩ : ∃ z : tw_H, z = tw_up h183 x (.inr (9, [.int 0, .int 155, .ref q4, .int 0, .ref q18, .int 0, .ref q35, .int 0, .ref q55, .ref q86, .ref q121, .ref q160])) := ⟨_, rfl⟩
  rw [← eh193]
  have sp194 : tw_sp d τ (tw_rm h x) g τ h193 := by rw [eh193]; exact sp184.wl tw_rm_s hz
  have f195 : h193 q4 = some (.inl (d.2 4, 4, .inr (.inr (.inr (.inr (fun _ => none)))))) := by rw [eh193, tw_up_n (Ne.symm ne9)]; exact f185
  have f196 : h193 q18 = some (.inl (d.2 5, 6, .inr (.inr (.inr (.inr (fun _ => none)))))) := by rw [eh193, tw_up_n (Ne.symm ne24)]; exact f186
  have f197 : h193 q35 = some (.inl (d.2 6, 10, .inr (.inr (.inr (.inr (fun _ => none)))))) := by rw [eh193, tw_up_n (Ne.symm ne42)]; exact f187
  have f198 : h193 q55 = some (.inr (7, [.int 0, .int 0])) := by rw [eh193, tw_up_n (Ne.symm ne63)]; exact f188
  have f199 : h193 q86 = some (.inr (7, [.int 0, .int 0])) := by rw [eh193, tw_up_n (Ne.symm ne95)]; exact f189
  have f200 : h193 q121 = some (.inr (7, [.int 0, .int 0])) := by rw [eh193, tw_up_n (Ne.symm ne131)]; exact f190
  have f201 : h193 q160 = some (.inr (7, [.int 0, .int 0])) := by rw [eh193, tw_up_n (Ne.symm ne171)]; exact f192
  have f202 : h193 x = some (.inr (9, [.int 0, .int 155, .ref q4, .int 0, .ref q18, .int 0, .ref q35, .int 0, .ref q55, .ref q86, .ref q121, .ref q160])) := by rw [eh193]; exact tw_up_s
  have ox := tw_gX_o (x := x) (ca := q4) (ha := q18) (da := q35) (c1 := q55) (c2 := q86) (c3 := q121) (c4 := q160) (Ne.symm ne94) (Ne.symm ne129) (Ne.symm ne130) (Ne.symm ne168) (Ne.symm ne169) (Ne.symm ne170)
  obtain ⟨g1, eg1⟩ : ∃ z : tw_G, z = tw_gX x q4 q18 q35 q55 q86 q121 q160 := ⟨_, rfl⟩
  rw [← eg1] at ox
  have sp203 : tw_sp d τ (tw_rm h x) g1 τ h193 := sp194.g0 hz0
  obtain ⟨τ204, eτ204⟩ : ∃ z : tw_K, z = tw_ku τ q55 1 := ⟨_, rfl⟩
  have le205 : tw_le τ τ204 := by rw [eτ204]; exact tw_ku_le z59
  have sp206 : tw_sp d τ (tw_rm h x) g1 τ204 h193 := by rw [eτ204]; exact sp203.ty n58 z59 f198 (by rw [← eτ204]; exact ⟨_, _, rfl, _, ox.1, (by rw [eg1]; first | (rw [tw_gX_z (by decide)]; done) | rfl | (rw [tw_gX_z (i := 0) (by decide), tw_gX_z (i := 1) (by decide), tw_gX_z (i := 2) (by decide)]; rfl) | (rw [tw_gX_z (i := 21) (by decide)]; rfl)), (by rw [eg1]; first | (rw [tw_gX_z (by decide)]; done) | rfl | (rw [tw_gX_z (i := 0) (by decide), tw_gX_z (i := 1) (by decide), tw_gX_z (i := 2) (by decide)]; rfl) | (rw [tw_gX_z (i := 21) (by decide)]; rfl))⟩)
  have k207 : τ204 q55 = 1 := by rw [eτ204]; exact tw_ku_s
  have z208 : τ204 x = 0 := by rw [eτ204, tw_ku_n ne63]; exact hz
  have z209 : τ204 q4 = 0 := by rw [eτ204, tw_ku_n ne60]; exact z8
  have z210 : τ204 q18 = 0 := by rw [eτ204, tw_ku_n ne61]; exact z22
  have z211 : τ204 q35 = 0 := by rw [eτ204, tw_ku_n ne62]; exact z39
  have z212 : τ204 q86 = 0 := by rw [eτ204, tw_ku_n (Ne.symm ne94)]; exact z90
  have z213 : τ204 q121 = 0 := by rw [eτ204, tw_ku_n (Ne.symm ne129)]; exact z125
  have z214 : τ204 q160 = 0 := by rw [eτ204, tw_ku_n (Ne.symm ne168)]; exact z164
  obtain ⟨τ215, eτ215⟩ : ∃ z : tw_K, z = tw_ku τ204 q86 1 := ⟨_, rfl⟩
  have le216 : tw_le τ204 τ215 := by rw [eτ215]; exact tw_ku_le z212
  have k217 : τ215 q55 = 1 := le216.k k207 (by decide)
  have sp218 : tw_sp d τ (tw_rm h x) g1 τ215 h193 := by rw [eτ215]; exact sp206.ty n89 z212 f199 (by rw [← eτ215]; exact ⟨_, _, rfl, _, ox.2.1, (by rw [eg1]; first | (rw [tw_gX_z (by decide)]; done) | rfl | (rw [tw_gX_z (i := 0) (by decide), tw_gX_z (i := 1) (by decide), tw_gX_z (i := 2) (by decide)]; rfl) | (rw [tw_gX_z (i := 21) (by decide)]; rfl)), (by rw [eg1]; first | (rw [tw_gX_z (by decide)]; done) | rfl | (rw [tw_gX_z (i := 0) (by decide), tw_gX_z (i := 1) (by decide), tw_gX_z (i := 2) (by decide)]; rfl) | (rw [tw_gX_z (i := 21) (by decide)]; rfl))⟩)
  have k219 : τ215 q86 = 1 := by rw [eτ215]; exact tw_ku_s
  have z220 : τ215 x = 0 := by rw [eτ215, tw_ku_n ne95]; exact z208
  have z221 : τ215 q4 = 0 := by rw [eτ215, tw_ku_n ne91]; exact z209
  have z222 : τ215 q18 = 0 := by rw [eτ215, tw_ku_n ne92]; exact z210
  have z223 : τ215 q35 = 0 := by rw [eτ215, tw_ku_n ne93]; exact z211
  have z224 : τ215 q121 = 0 := by rw [eτ215, tw_ku_n (Ne.symm ne130)]; exact z213
  have z225 : τ215 q160 = 0 := by rw [eτ215, tw_ku_n (Ne.symm ne169)]; exact z214
  obtain ⟨τ226, eτ226⟩ : ∃ z : tw_K, z = tw_ku τ215 q121 1 := ⟨_, rfl⟩
  have le227 : tw_le τ215 τ226 := by rw [eτ226]; exact tw_ku_le z224
  have k228 : τ226 q55 = 1 := le227.k k217 (by decide)
  have k229 : τ226 q86 = 1 := le227.k k219 (by decide)
  have sp230 : tw_sp d τ (tw_rm h x) g1 τ226 h193 := by rw [eτ226]; exact sp218.ty n124 z224 f200 (by rw [← eτ226]; exact ⟨_, _, rfl, _, ox.2.2.1, (by rw [eg1]; first | (rw [tw_gX_z (by decide)]; done) | rfl | (rw [tw_gX_z (i := 0) (by decide), tw_gX_z (i := 1) (by decide), tw_gX_z (i := 2) (by decide)]; rfl) | (rw [tw_gX_z (i := 21) (by decide)]; rfl)), (by rw [eg1]; first | (rw [tw_gX_z (by decide)]; done) | rfl | (rw [tw_gX_z (i := 0) (by decide), tw_gX_z (i := 1) (by decide), tw_gX_z (i := 2) (by decide)]; rfl) | (rw [tw_gX_z (i := 21) (by decide)]; rfl))⟩)
  have k231 : τ226 q121 = 1 := by rw [eτ226]; exact tw_ku_s
  have z232 : τ226 x = 0 := by rw [eτ226, tw_ku_n ne131]; exact z220
  have z233 : τ226 q4 = 0 := by rw [eτ226, tw_ku_n ne126]; exact z221
  have z234 : τ226 q18 = 0 := by rw [eτ226, tw_ku_n ne127]; exact z222
  have z235 : τ226 q35 = 0 := by rw [eτ226, tw_ku_n ne128]; exact z223
  have z236 : τ226 q160 = 0 := by rw [eτ226, tw_ku_n (Ne.symm ne170)]; exact z225
  obtain ⟨τ237, eτ237⟩ : ∃ z : tw_K, z = tw_ku τ226 q160 1 := ⟨_, rfl⟩
  have le238 : tw_le τ226 τ237 := by rw [eτ237]; exact tw_ku_le z236
  have k239 : τ237 q55 = 1 := le238.k k228 (by decide)
  have k240 : τ237 q86 = 1 := le238.k k229 (by decide)
  have k241 : τ237 q121 = 1 := le238.k k231 (by decide)
  have sp242 : tw_sp d τ (tw_rm h x) g1 τ237 h193 := by rw [eτ237]; exact sp230.ty n163 z236 f201 (by rw [← eτ237]; exact ⟨_, _, rfl, _, ox.2.2.2, (by rw [eg1]; first | (rw [tw_gX_z (by decide)]; done) | rfl | (rw [tw_gX_z (i := 0) (by decide), tw_gX_z (i := 1) (by decide), tw_gX_z (i := 2) (by decide)]; rfl) | (rw [tw_gX_z (i := 21) (by decide)]; rfl)), (by rw [eg1]; first | (rw [tw_gX_z (by decide)]; done) | rfl | (rw [tw_gX_z (i := 0) (by decide), tw_gX_z (i := 1) (by decide), tw_gX_z (i := 2) (by decide)]; rfl) | (rw [tw_gX_z (i := 21) (by decide)]; rfl))⟩)
  have k243 : τ237 q160 = 1 := by rw [eτ237]; exact tw_ku_s
  have z244 : τ237 x = 0 := by rw [eτ237, tw_ku_n ne171]; exact z232
  have z245 : τ237 q4 = 0 := by rw [eτ237, tw_ku_n ne165]; exact z233
  have z246 : τ237 q18 = 0 := by rw [eτ237, tw_ku_n ne166]; exact z234
  have z247 : τ237 q35 = 0 := by rw [eτ237, tw_ku_n ne167]; exact z235
  obtain ⟨τ248, eτ248⟩ : ∃ z : tw_K, z = tw_ku τ237 q4 8 := ⟨_, rfl⟩
  have le249 : tw_le τ237 τ248 := by rw [eτ248]; exact tw_ku_le z245
  have k250 : τ248 q55 = 1 := le249.k k239 (by decide)
  have k251 : τ248 q86 = 1 := le249.k k240 (by decide)
  have k252 : τ248 q121 = 1 := le249.k k241 (by decide)
  have k253 : τ248 q160 = 1 := le249.k k243 (by decide)
  have sp254 : tw_sp d τ (tw_rm h x) g1 τ248 h193 := by rw [eτ248]; exact sp242.ty n7 z245 f195 (by rw [← eτ248]; exact ⟨_, rfl, fun _ _ z => (by cases z), fun j _ => ⟨fun _ => (by rw [eg1, tw_gX_z (by decide)]; exact Nat.zero_le _), fun _ => rfl⟩, (by rw [eg1, tw_gX_z (by decide)]; exact Nat.zero_le _), (by rw [eg1]; first | (rw [tw_gX_z (by decide)]; done) | rfl | (rw [tw_gX_z (i := 0) (by decide), tw_gX_z (i := 1) (by decide), tw_gX_z (i := 2) (by decide)]; rfl) | (rw [tw_gX_z (i := 21) (by decide)]; rfl)), fun _ _ z => (by cases z)⟩)
  have k255 : τ248 q4 = 8 := by rw [eτ248]; exact tw_ku_s
  have z256 : τ248 x = 0 := by rw [eτ248, tw_ku_n ne9]; exact z244
  have z257 : τ248 q18 = 0 := by rw [eτ248, tw_ku_n (Ne.symm ne23)]; exact z246
  have z258 : τ248 q35 = 0 := by rw [eτ248, tw_ku_n (Ne.symm ne40)]; exact z247
  obtain ⟨τ259, eτ259⟩ : ∃ z : tw_K, z = tw_ku τ248 q18 9 := ⟨_, rfl⟩
  have le260 : tw_le τ248 τ259 := by rw [eτ259]; exact tw_ku_le z257
  have k261 : τ259 q55 = 1 := le260.k k250 (by decide)
  have k262 : τ259 q86 = 1 := le260.k k251 (by decide)
  have k263 : τ259 q121 = 1 := le260.k k252 (by decide)
  have k264 : τ259 q160 = 1 := le260.k k253 (by decide)
  have k265 : τ259 q4 = 8 := le260.k k255 (by decide)
  have sp266 : tw_sp d τ (tw_rm h x) g1 τ259 h193 := by rw [eτ259]; exact sp254.ty n21 z257 f196 (by rw [← eτ259]; exact ⟨_, rfl, fun _ _ z => (by cases z), fun j _ => ⟨fun _ => (by rw [eg1, tw_gX_z (by decide)]; exact Nat.zero_le _), fun _ => rfl⟩, (by rw [eg1, tw_gX_z (by decide)]; exact Nat.zero_le _), (by rw [eg1]; first | (rw [tw_gX_z (by decide)]; done) | rfl | (rw [tw_gX_z (i := 0) (by decide), tw_gX_z (i := 1) (by decide), tw_gX_z (i := 2) (by decide)]; rfl) | (rw [tw_gX_z (i := 21) (by decide)]; rfl)), fun _ _ z => (by cases z)⟩)
  have k267 : τ259 q18 = 9 := by rw [eτ259]; exact tw_ku_s
  have z268 : τ259 x = 0 := by rw [eτ259, tw_ku_n ne24]; exact z256
  have z269 : τ259 q35 = 0 := by rw [eτ259, tw_ku_n (Ne.symm ne41)]; exact z258
  obtain ⟨τ270, eτ270⟩ : ∃ z : tw_K, z = tw_ku τ259 q35 10 := ⟨_, rfl⟩
  have le271 : tw_le τ259 τ270 := by rw [eτ270]; exact tw_ku_le z269
  have k272 : τ270 q55 = 1 := le271.k k261 (by decide)
  have k273 : τ270 q86 = 1 := le271.k k262 (by decide)
  have k274 : τ270 q121 = 1 := le271.k k263 (by decide)
  have k275 : τ270 q160 = 1 := le271.k k264 (by decide)
  have k276 : τ270 q4 = 8 := le271.k k265 (by decide)
  have k277 : τ270 q18 = 9 := le271.k k267 (by decide)
  have sp278 : tw_sp d τ (tw_rm h x) g1 τ270 h193 := by rw [eτ270]; exact sp266.ty n38 z269 f197 (by rw [← eτ270]; exact ⟨_, rfl, fun _ _ z => (by cases z), fun j _ => ⟨fun _ => (by rw [eg1, tw_gX_z (by decide)]; exact Nat.zero_le _), fun _ => rfl⟩, (by rw [eg1, tw_gX_z (by decide)]; exact Nat.zero_le _), (by rw [eg1]; first | (rw [tw_gX_z (by decide)]; done) | rfl | (rw [tw_gX_z (i := 0) (by decide), tw_gX_z (i := 1) (by decide), tw_gX_z (i := 2) (by decide)]; rfl) | (rw [tw_gX_z (i := 21) (by decide)]; rfl)), fun _ _ z => (by cases z)⟩)
  have k279 : τ270 q35 = 10 := by rw [eτ270]; exact tw_ku_s
  have z280 : τ270 x = 0 := by rw [eτ270, tw_ku_n ne42]; exact z268
  obtain ⟨τ281, eτ281⟩ : ∃ z : tw_K, z = tw_ku τ270 x 11 := ⟨_, rfl⟩
  have le282 : tw_le τ270 τ281 := by rw [eτ281]; exact tw_ku_le z280
  have k283 : τ281 q55 = 1 := le282.k k272 (by decide)
  have k284 : τ281 q86 = 1 := le282.k k273 (by decide)
  have k285 : τ281 q121 = 1 := le282.k k274 (by decide)
  have k286 : τ281 q160 = 1 := le282.k k275 (by decide)
  have k287 : τ281 q4 = 8 := le282.k k276 (by decide)
  have k288 : τ281 q18 = 9 := le282.k k277 (by decide)
  have k289 : τ281 q35 = 10 := le282.k k279 (by decide)
  have sp290 : tw_sp d τ (tw_rm h x) g1 τ281 h193 := by rw [eτ281]; exact sp278.ty tw_rm_s z280 f202 (by rw [← eτ281]; exact ⟨0, q4, q18, q35, q55, q86, q121, q160, (by rw [eg1]; first | (rw [tw_gX_z (by decide)]; done) | rfl | (rw [tw_gX_z (i := 0) (by decide), tw_gX_z (i := 1) (by decide), tw_gX_z (i := 2) (by decide)]; rfl) | (rw [tw_gX_z (i := 21) (by decide)]; rfl)), k287, k288, k289, k283, k284, k285, k286, (by rw [eg1, tw_gX_z (by decide)]; exact Nat.zero_le _), (by rw [eg1, tw_gX_z (by decide)]; exact Nat.zero_le _), (by rw [eg1, tw_gX_z (by decide)]; exact Nat.zero_le _), (by rw [eg1]; first | (rw [tw_gX_z (by decide)]; done) | rfl | (rw [tw_gX_z (i := 0) (by decide), tw_gX_z (i := 1) (by decide), tw_gX_z (i := 2) (by decide)]; rfl) | (rw [tw_gX_z (i := 21) (by decide)]; rfl)), (by rw [eg1]; first | (rw [tw_gX_z (by decide)]; done) | rfl | (rw [tw_gX_z (i := 0) (by decide), tw_gX_z (i := 1) (by decide), tw_gX_z (i := 2) (by decide)]; rfl) | (rw [tw_gX_z (i := 21) (by decide)]; rfl)), (by rw [eg1, tw_gX_z (by decide)]; exact Nat.zero_le _), ox.1.2.2.2.2, ox.2.1.2.2.2.2, ox.2.2.1.2.2.2.2, ox.2.2.2.2.2.2.2⟩)
  have k291 : τ281 x = 11 := by rw [eτ281]; exact tw_ku_s
  exact tw_vret dX5_init_89 rfl (Or.inl ⟨rfl, g1, _, ⟨(by rw [eg1]; first | (rw [tw_gX_z (by decide)]; done) | rfl | (rw [tw_gX_z (i := 0) (by decide), tw_gX_z (i := 1) (by decide), tw_gX_z (i := 2) (by decide)]; rfl) | (rw [tw_gX_z (i := 21) (by decide)]; rfl)), fun i hi => by rw [eg1]; exact tw_gX_z (by omega), (by rw [eg1]; first | (rw [tw_gX_z (by decide)]; done) | rfl | (rw [tw_gX_z (i := 0) (by decide), tw_gX_z (i := 1) (by decide), tw_gX_z (i := 2) (by decide)]; rfl) | (rw [tw_gX_z (i := 21) (by decide)]; rfl)), (by rw [eg1]; first | (rw [tw_gX_z (by decide)]; done) | rfl | (rw [tw_gX_z (i := 0) (by decide), tw_gX_z (i := 1) (by decide), tw_gX_z (i := 2) (by decide)]; rfl) | (rw [tw_gX_z (i := 21) (by decide)]; rfl)), ⟨(by rw [eg1]; first | (rw [tw_gX_z (by decide)]; done) | rfl | (rw [tw_gX_z (i := 0) (by decide), tw_gX_z (i := 1) (by decide), tw_gX_z (i := 2) (by decide)]; rfl) | (rw [tw_gX_z (i := 21) (by decide)]; rfl)), (by rw [eg1]; first | (rw [tw_gX_z (by decide)]; done) | rfl | (rw [tw_gX_z (i := 0) (by decide), tw_gX_z (i := 1) (by decide), tw_gX_z (i := 2) (by decide)]; rfl) | (rw [tw_gX_z (i := 21) (by decide)]; rfl)), (by rw [eg1]; first | (rw [tw_gX_z (by decide)]; done) | rfl | (rw [tw_gX_z (i := 0) (by decide), tw_gX_z (i := 1) (by decide), tw_gX_z (i := 2) (by decide)]; rfl) | (rw [tw_gX_z (i := 21) (by decide)]; rfl)), (by rw [eg1]; first | (rw [tw_gX_z (by decide)]; done) | rfl | (rw [tw_gX_z (i := 0) (by decide), tw_gX_z (i := 1) (by decide), tw_gX_z (i := 2) (by decide)]; rfl) | (rw [tw_gX_z (i := 21) (by decide)]; rfl)), (by rw [eg1]; first | (rw [tw_gX_z (by decide)]; done) | rfl | (rw [tw_gX_z (i := 0) (by decide), tw_gX_z (i := 1) (by decide), tw_gX_z (i := 2) (by decide)]; rfl) | (rw [tw_gX_z (i := 21) (by decide)]; rfl)), (by rw [eg1]; first | (rw [tw_gX_z (by decide)]; done) | rfl | (rw [tw_gX_z (i := 0) (by decide), tw_gX_z (i := 1) (by decide), tw_gX_z (i := 2) (by decide)]; rfl) | (rw [tw_gX_z (i := 21) (by decide)]; rfl))⟩, fun i hi => by rw [eg1]; exact if_neg (by omega)⟩, sp290.toini k291⟩)

/-! A TYPED HEAP. τ gives an address its kind (0: none); g holds the numbers that are followed: g.1 0 the class's market, g.1 1 the model's, g.1 3, 4, 5 the lists' modCounts; g.2 0, 1, 2 how many countries, houses, debts the class has, g.2 3, 4, 5 the model; g.2 10 to 17 where the one thing of its kind lies; g.2 21 the day of the class, 22 of the model. -/
abbrev tw_G : Type := (Nat → Int32) × (Nat → Nat)
abbrev tw_K : Type := Nat → Nat
def tw_01 (x : Int32) : Prop := x = 0 ∨ x = 1
/-- a list (kind kl) of n things, its array of kind ka -/
def tw_lst (d : tw_D) (τ : tw_K) (mc : Int32) (n ka fl : Nat) (e : va_E) : Prop := ∃ a : Nat, e = .inr (3, [.int mc, .ref a, .int (nI n)]) ∧ (a = d.2 102 ∧ n = 0 ∧ fl = 0 ∨ τ a = ka)
def tw_arr (d : tw_D) (τ : tw_K) (n k : Nat) (e : va_E) : Prop := ∃ f : Nat → Option Nat, e = .inl (d.2 7, 10, .inr (.inr (.inr (.inr f)))) ∧ n ≤ 10 ∧ ∀ j, j < n → ∃ y, f j = some y ∧ τ y = k
def tw_sh (d : tw_D) (g : tw_G) (τ : tw_K) (x k : Nat) (e : va_E) : Prop := match k with
  | 1 => ∃ a b : Int32, e = .inr (7, [.int a, .int b])
  | 2 => ∃ (n r c go so : Int32) (v rd rf t : Nat), e = .inr (4, [.int n, .int r, .int c, .ref v, .int go, .int so, .ref rd, .ref rf, .ref t]) ∧ τ v = 1 ∧ τ rd = 6 ∧ τ rf = 6 ∧ τ t = 5 ∧ tw_01 go ∧ tw_01 so ∧ 100 ≤ r ∧ r ≤ 200
  | 3 => ∃ (n ar : Int32) (p : Nat) (pl go : Option Nat), e = .inr (6, [.int n, .ref p, va_rf pl, va_rf go, .int ar]) ∧ τ p = 1 ∧ (∀ q, pl = some q → τ q = 2) ∧ (∀ q, go = some q → τ q = 2)
  | 4 => ∃ (v dy pd : Int32) (a b : Nat), e = .inr (5, [.ref a, .ref b, .int v, .int dy, .int pd]) ∧ τ a = 3 ∧ τ b = 3 ∧ tw_01 pd
  | 5 => ∃ m : Nat, e = .inr (8, [.ref m]) ∧ τ m = 7
  | 6 => ∃ f : Nat → Int32, e = .inl (d.2 0, 4, .inl f)
  | 7 => ∃ f : Nat → Int32, e = .inl (d.2 0, 5, .inl f)
  | 8 => ∃ f : Nat → Option Nat, e = .inl (d.2 4, 4, .inr (.inr (.inr (.inr f)))) ∧ (∀ j q, f j = some q → τ q = 2) ∧ (∀ j, j < 4 → (f j = none ↔ g.2 6 ≤ j)) ∧ g.2 6 ≤ 4 ∧ x = g.2 18
  | 9 => ∃ f : Nat → Option Nat, e = .inl (d.2 5, 6, .inr (.inr (.inr (.inr f)))) ∧ (∀ j q, f j = some q → τ q = 3) ∧ (∀ j, j < 6 → (f j = none ↔ g.2 7 ≤ j)) ∧ g.2 7 ≤ 6 ∧ x = g.2 19
  | 10 => ∃ f : Nat → Option Nat, e = .inl (d.2 6, 10, .inr (.inr (.inr (.inr f)))) ∧ (∀ j q, f j = some q → τ q = 4) ∧ (∀ j, j < 10 → (f j = none ↔ g.2 8 ≤ j)) ∧ g.2 8 ≤ 10 ∧ x = g.2 20
  | 11 => ∃ (td : Int32) (ca ha da c1 c2 c3 c4 : Nat), e = .inr (9, [.int td, .int (g.1 0), .ref ca, .int (nI (g.2 0)), .ref ha, .int (nI (g.2 1)), .ref da, .int (nI (g.2 2)), .ref c1, .ref c2, .ref c3, .ref c4]) ∧ τ ca = 8 ∧ τ ha = 9 ∧ τ da = 10 ∧ τ c1 = 1 ∧ τ c2 = 1 ∧ τ c3 = 1 ∧ τ c4 = 1 ∧ g.2 0 ≤ 4 ∧ g.2 1 ≤ 6 ∧ g.2 2 ≤ 10 ∧ x = g.2 10 ∧ td = nI (g.2 21) ∧ g.2 21 ≤ 3000
  | 12 => ∃ (n : Int64) (s : Option Nat), e = .inr (10, [.long n, va_rf s])
  | 21 => ∃ (r c : Int32) (v o t : Nat), e = .inr (11, [.int r, .int c, .ref v, .ref o, .ref t]) ∧ τ v = 31 ∧ τ o = 32 ∧ τ t = 33 ∧ 100 ≤ r ∧ r ≤ 200
  | 22 => ∃ (v dy pd : Int32) (i j : Nat), e = .inr (12, [.int (nI i), .int (nI j), .int v, .int dy, .int pd]) ∧ i < g.2 4 ∧ j < g.2 4 ∧ tw_01 pd
  | 23 => ∃ (x y dy : Int32) (p : Nat), e = .inr (13, [.int x, .int y, .int dy, .ref p]) ∧ τ p = 31 ∧ (x = -1 ∨ ∃ i, i < g.2 3 ∧ x = nI i) ∧ (y = -1 ∨ ∃ i, i < g.2 3 ∧ y = nI i)
  | 24 => tw_lst d τ (g.1 3) (g.2 3) 27 (g.2 25) e ∧ x = g.2 12
  | 25 => tw_lst d τ (g.1 4) (g.2 4) 28 (g.2 26) e ∧ x = g.2 13
  | 26 => tw_lst d τ (g.1 5) (g.2 5) 29 (g.2 27) e ∧ x = g.2 14
  | 27 => tw_arr d τ (g.2 3) 21 e ∧ x = g.2 15 ∧ g.2 25 = 1
  | 28 => tw_arr d τ (g.2 4) 23 e ∧ x = g.2 16 ∧ g.2 26 = 1
  | 29 => tw_arr d τ (g.2 5) 22 e ∧ x = g.2 17 ∧ g.2 27 = 1
  | 31 => ∃ f : Nat → Int64, e = .inl (d.2 1, 2, .inr (.inl f))
  | 32 => ∃ f : Nat → Int32, e = .inl (d.2 2, 2, .inl f) ∧ ∀ j, tw_01 (f j)
  | 33 => ∃ f : Nat → Int32, e = .inl (d.2 0, 5, .inl f) ∧ ∀ j, 0 ≤ f j ∧ f j ≤ 9
  | 34 => ∃ f : Nat → Option Nat, e = .inl (d.2 8, 4, .inr (.inr (.inr (.inr f)))) ∧ ∀ j, j < 4 → ∃ q, f j = some q ∧ τ q = 6
  | 36 => ∃ (th td : Int32) (ds fr ca us wo cm lc lh ld : Nat), e = .inr (14, [.int th, .int td, .int (g.1 1), .ref ds, .ref fr, .ref ca, .ref us, .ref wo, .ref cm, .ref lc, .ref lh, .ref ld]) ∧ τ ds = 34 ∧ τ fr = 34 ∧ τ ca = 31 ∧ τ us = 31 ∧ τ wo = 31 ∧ τ cm = 31 ∧ τ lc = 24 ∧ τ lh = 25 ∧ τ ld = 26 ∧ g.2 3 ≤ 4 ∧ g.2 4 ≤ 6 ∧ g.2 5 ≤ 10 ∧ x = g.2 11 ∧ 0 ≤ th ∧ td = nI (g.2 22) ∧ g.2 22 ≤ 3000
  | _ => False
def tw_wt (d : tw_D) (g : tw_G) (τ : tw_K) (h : tw_H) : Prop := ∀ (a k : Nat), τ a = k → k ≠ 0 → ∃ e, h a = some e ∧ tw_sh d g τ a k e
def tw_le (τ τ1 : tw_K) : Prop := ∀ a, τ a ≠ 0 → τ1 a = τ a
theorem tw_le.k {τ τ1 : tw_K} (h : tw_le τ τ1) {a k : Nat} (hk : τ a = k) (h0 : k ≠ 0) : τ1 a = k := (h a (by rw [hk]; exact h0)).trans hk
theorem tw_le.rf {τ : tw_K} : tw_le τ τ := fun _ _ => rfl
theorem tw_le.tr {τ τ1 τ2 : tw_K} (h : tw_le τ τ1) (h2 : tw_le τ1 τ2) : tw_le τ τ2 := fun a ha => (h2 a (by rw [h a ha]; exact ha)).trans (h a ha)
theorem tw_lst_le {d : tw_D} {τ τ1 : tw_K} {mc : Int32} {n ka fl : Nat} {e : va_E} (hl : tw_le τ τ1) (h0 : ka ≠ 0) (h : tw_lst d τ mc n ka fl e) : tw_lst d τ1 mc n ka fl e := by
  obtain ⟨a, h1, h2⟩ := h
  exact ⟨a, h1, h2.imp id (fun q => hl.k q h0)⟩
theorem tw_arr_le {d : tw_D} {τ τ1 : tw_K} {n k : Nat} {e : va_E} (hl : tw_le τ τ1) (h0 : k ≠ 0) (h : tw_arr d τ n k e) : tw_arr d τ1 n k e := by
  obtain ⟨f, h1, h2, h5⟩ := h
  exact ⟨f, h1, h2, fun j hj => by obtain ⟨y, a, b⟩ := h5 j hj; exact ⟨y, a, hl.k b h0⟩⟩
theorem tw_sh_le {d : tw_D} {g : tw_G} {τ τ1 : tw_K} (hl : tw_le τ τ1) {x k : Nat} {e : va_E} (h : tw_sh d g τ x k e) : tw_sh d g τ1 x k e := by
  have L : ∀ {a k : Nat}, τ a = k → k ≠ 0 → τ1 a = k := fun q h0 => hl.k q h0
  unfold tw_sh at h ⊢
  split at h
  · exact h
  · obtain ⟨n, r, c, go, so, v, rd, rf, t, h1, h2, h3, h4, h5, h6⟩ := h
    exact ⟨n, r, c, go, so, v, rd, rf, t, h1, L h2 (by decide), L h3 (by decide), L h4 (by decide), L h5 (by decide), h6⟩
  · obtain ⟨n, ar, p, pl, go, h1, h2, h3, h4⟩ := h
    exact ⟨n, ar, p, pl, go, h1, L h2 (by decide), fun q hq => L (h3 q hq) (by decide), fun q hq => L (h4 q hq) (by decide)⟩
  · obtain ⟨v, dy, pd, a, b, h1, h2, h3, h4⟩ := h
    exact ⟨v, dy, pd, a, b, h1, L h2 (by decide), L h3 (by decide), h4⟩
  · obtain ⟨m, h1, h2⟩ := h
    exact ⟨m, h1, L h2 (by decide)⟩
  · exact h
  · exact h
  · obtain ⟨f, h1, h2, h3⟩ := h
    exact ⟨f, h1, fun j q hq => L (h2 j q hq) (by decide), h3⟩
  · obtain ⟨f, h1, h2, h3⟩ := h
    exact ⟨f, h1, fun j q hq => L (h2 j q hq) (by decide), h3⟩
  · obtain ⟨f, h1, h2, h3⟩ := h
    exact ⟨f, h1, fun j q hq => L (h2 j q hq) (by decide), h3⟩
  · obtain ⟨td, ca, ha, da, c1, c2, c3, c4, h1, k1, k2, k3, k4, k5, k6, k7, k8⟩ := h
    exact ⟨td, ca, ha, da, c1, c2, c3, c4, h1, L k1 (by decide), L k2 (by decide), L k3 (by decide), L k4 (by decide), L k5 (by decide), L k6 (by decide), L k7 (by decide), k8⟩
  · exact h
  · obtain ⟨r, c, v, o, t, h1, h2, h3, h4, h5⟩ := h
    exact ⟨r, c, v, o, t, h1, L h2 (by decide), L h3 (by decide), L h4 (by decide), h5⟩
  · exact h
  · obtain ⟨x, y, dy, p, h1, h2, h3⟩ := h
    exact ⟨x, y, dy, p, h1, L h2 (by decide), h3⟩
  · exact ⟨tw_lst_le hl (by decide) h.1, h.2⟩
  · exact ⟨tw_lst_le hl (by decide) h.1, h.2⟩
  · exact ⟨tw_lst_le hl (by decide) h.1, h.2⟩
  · exact ⟨tw_arr_le hl (by decide) h.1, h.2⟩
  · exact ⟨tw_arr_le hl (by decide) h.1, h.2⟩
  · exact ⟨tw_arr_le hl (by decide) h.1, h.2⟩
  · exact h
  · exact h
  · exact h
  · obtain ⟨f, h1, h2⟩ := h
    exact ⟨f, h1, fun j hj => by obtain ⟨q, a, b⟩ := h2 j hj; exact ⟨q, a, L b (by decide)⟩⟩
  · obtain ⟨th, td, ds, fr, ca, us, wo, cm, lc, lh, ld, h1, k1, k2, k3, k4, k5, k6, k7, k8, k9, k10⟩ := h
    exact ⟨th, td, ds, fr, ca, us, wo, cm, lc, lh, ld, h1, L k1 (by decide), L k2 (by decide), L k3 (by decide), L k4 (by decide), L k5 (by decide), L k6 (by decide), L k7 (by decide), L k8 (by decide), L k9 (by decide), k10⟩
  · exact h.elim
def tw_ku (τ : tw_K) (a k : Nat) : tw_K := fun q => if q = a then k else τ q
/-- a typed cell is written: same kind, a cell of that kind -/
theorem tw_wt.set {d : tw_D} {g : tw_G} {τ : tw_K} {h : tw_H} (hw : tw_wt d g τ h) {a k : Nat} {e : va_E} (hk : τ a = k) (hs : tw_sh d g τ a k e) : tw_wt d g τ (tw_up h a e) := by
  intro b j hj h0
  by_cases q : b = a
  · subst q
    rw [hk] at hj
    subst hj
    exact ⟨e, tw_up_s, hs⟩
  · obtain ⟨e2, h1, h2⟩ := hw b j hj h0
    exact ⟨e2, by rw [tw_up_n q]; exact h1, h2⟩
/-- an untyped cell is written, or made -/
theorem tw_wt.loc {d : tw_D} {g : tw_G} {τ : tw_K} {h : tw_H} (hw : tw_wt d g τ h) {a : Nat} {e : va_E} (hk : τ a = 0) : tw_wt d g τ (tw_up h a e) := by
  intro b j hj h0
  obtain ⟨e2, h1, h2⟩ := hw b j hj h0
  exact ⟨e2, by rw [tw_up_n (fun q => h0 (by rw [← hj, q]; exact hk))]; exact h1, h2⟩
theorem tw_wt.none {d : tw_D} {g : tw_G} {τ : tw_K} {h : tw_H} (hw : tw_wt d g τ h) {a : Nat} (hn : h a = none) : τ a = 0 := by
  by_cases q : τ a = 0
  · exact q
  · obtain ⟨e, h1, -⟩ := hw a _ rfl q
    rw [hn] at h1
    cases h1
theorem tw_ku_le {τ : tw_K} {a k : Nat} (h0 : τ a = 0) : tw_le τ (tw_ku τ a k) := fun b hb => by
  unfold tw_ku
  rw [if_neg (fun q => hb (by rw [q]; exact h0))]
/-- an untyped cell becomes a typed one -/
theorem tw_wt.new {d : tw_D} {g : tw_G} {τ : tw_K} {h : tw_H} (hw : tw_wt d g τ h) {a k : Nat} {e : va_E} (h0 : τ a = 0) (hh : h a = some e) (hs : tw_sh d g (tw_ku τ a k) a k e) : tw_wt d g (tw_ku τ a k) h := by
  intro b j hj hj0
  by_cases q : b = a
  · subst q
    have : j = k := by rw [← hj]; exact if_pos rfl
    subst this
    exact ⟨e, hh, hs⟩
  · have h3 : τ b = j := by rw [← hj]; exact (if_neg q).symm
    obtain ⟨e2, h1, h2⟩ := hw b j h3 hj0
    exact ⟨e2, h1, tw_sh_le (tw_ku_le h0) h2⟩
/-- a step of the typed world: kinds grow, what is untyped stays -/
def tw_sp (d : tw_D) (τ : tw_K) (h : tw_H) (g1 : tw_G) (τ1 : tw_K) (h1 : tw_H) : Prop := tw_wt d g1 τ1 h1 ∧ tw_le τ τ1 ∧ ∀ a e, h a = some e → τ a = 0 → h1 a = some e ∧ τ1 a = 0
theorem tw_sp.rf {d : tw_D} {g : tw_G} {τ : tw_K} {h : tw_H} (hw : tw_wt d g τ h) : tw_sp d τ h g τ h := ⟨hw, tw_le.rf, fun _ _ h1 h2 => ⟨h1, h2⟩⟩
theorem tw_sp.tr {d : tw_D} {g1 g2 : tw_G} {τ τ1 τ2 : tw_K} {h h1 h2 : tw_H} (s1 : tw_sp d τ h g1 τ1 h1) (s2 : tw_sp d τ1 h1 g2 τ2 h2) : tw_sp d τ h g2 τ2 h2 :=
  ⟨s2.1, s1.2.1.tr s2.2.1, fun a e ha h0 => s2.2.2 a e (s1.2.2 a e ha h0).1 (s1.2.2 a e ha h0).2⟩
theorem tw_sp.set {d : tw_D} {g1 : tw_G} {τ τ1 : tw_K} {h h1 : tw_H} (s : tw_sp d τ h g1 τ1 h1) {a k : Nat} {e : va_E} (hk : τ1 a = k) (h0 : k ≠ 0) (hs : tw_sh d g1 τ1 a k e) : tw_sp d τ h g1 τ1 (tw_up h1 a e) :=
  ⟨s.1.set hk hs, s.2.1, fun b e2 hb hb0 => ⟨by rw [tw_up_n (fun q => h0 (by rw [← hk, ← q]; exact (s.2.2 b e2 hb hb0).2))]; exact (s.2.2 b e2 hb hb0).1, (s.2.2 b e2 hb hb0).2⟩⟩
/-- a fresh cell is made, as yet untyped -/
theorem tw_sp.mk {d : tw_D} {g1 : tw_G} {τ τ1 : tw_K} {h h1 : tw_H} (s : tw_sp d τ h g1 τ1 h1) {a : Nat} {e : va_E} (hn : h1 a = none) : tw_sp d τ h g1 τ1 (tw_up h1 a e) :=
  ⟨s.1.loc (s.1.none hn), s.2.1, fun b e2 hb hb0 => ⟨by rw [tw_up_n (fun q => by rw [q] at hb; have := (s.2.2 a e2 hb (by rw [← q]; exact hb0)).1; rw [hn] at this; cases this)]; exact (s.2.2 b e2 hb hb0).1, (s.2.2 b e2 hb hb0).2⟩⟩
/-- a cell that the start didn't know gets a kind -/
theorem tw_sp.ty {d : tw_D} {g1 : tw_G} {τ τ1 : tw_K} {h h1 : tw_H} (s : tw_sp d τ h g1 τ1 h1) {a k : Nat} {e : va_E} (hn : h a = none) (h0 : τ1 a = 0) (hh : h1 a = some e) (hs : tw_sh d g1 (tw_ku τ1 a k) a k e) : tw_sp d τ h g1 (tw_ku τ1 a k) h1 :=
  ⟨s.1.new h0 hh hs, s.2.1.tr (tw_ku_le h0), fun b e2 hb hb0 => ⟨(s.2.2 b e2 hb hb0).1, by unfold tw_ku; rw [if_neg (fun q => by rw [q, hn] at hb; cases hb)]; exact (s.2.2 b e2 hb hb0).2⟩⟩

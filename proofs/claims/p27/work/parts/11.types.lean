/-! A TYPED HEAP. τ gives an address its kind (0: none); g holds the numbers that are followed: g.1 0 the class's market, g.1 1 the model's, g.1 3, 4, 5 the lists' modCounts; g.2 0, 1, 2 how many countries, houses, debts the class has, g.2 3, 4, 5 the model; g.2 10 to 17 where the one thing of its kind lies; g.2 21 the day of the class, 22 of the model. -/
abbrev tw_G : Type := (Nat → Int32) × (Nat → Nat)
abbrev tw_K : Type := Nat → Nat
def tw_01 (x : Int32) : Prop := x = 0 ∨ x = 1
/-- a list (kind kl) of n things, its array of kind ka -/
def tw_lst (d : tw_D) (τ : tw_K) (mc : Int32) (n ka fl : Nat) (e : va_E) : Prop := ∃ a : Nat, e = .inr (3, [.int mc, .ref a, .int (nI n)]) ∧ (a = d.2 102 ∧ n = 0 ∧ fl = 0 ∨ τ a = ka)
def tw_arr (d : tw_D) (τ : tw_K) (n k : Nat) (e : va_E) : Prop := ∃ f : Nat → Option Nat, e = .inl (d.2 7, 10, .inr (.inr (.inr (.inr f)))) ∧ n ≤ 10 ∧ ∀ j, j < n → ∃ y, f j = some y ∧ τ y = k
/-! WHOSE A BLOCK OF NUMBERS IS. Blocks of eight of g.1: the class's country j 160+64j (rate, cut, gates), its days 8 behind, its freights 16 behind; the reference's days row j 416+8j, freights row 448+8j, country j 480+64j (rate, cut), its gates 8 behind; the class's till of country j 160+64j+32, the reference's 480+64j+24; vaults 160+64j+24, 480+64j+16; the class's house j 768+32j (arrival, place, goal), its purse 8 behind, the reference's 960+32j; debts 1152+8j, 1232+8j (value, day, paid, from, to); carried, used, worn, came 1312, 1320, 1328, 1336 and 1344, 1352, 1360, 1368; g.2 130 to 135: where the blocks of houses, debts, sums end so far. g.2 b: whose; g.2 (4096+x): the block of x. g.2 24, g.2 9: where the class's and the reference's blocks end so far. -/
def tw_al (g : tw_G) (b : Nat) : Prop := b + 8 ≤ 416 ∧ b + 8 ≤ g.2 24 ∨ 416 ≤ b ∧ b + 8 ≤ 736 ∧ b + 8 ≤ g.2 9 ∨ 768 ≤ b ∧ b + 8 ≤ 960 ∧ b + 8 ≤ g.2 130 ∨ 960 ≤ b ∧ b + 8 ≤ 1152 ∧ b + 8 ≤ g.2 131 ∨ 1152 ≤ b ∧ b + 8 ≤ 1232 ∧ b + 8 ≤ g.2 132 ∨ 1232 ≤ b ∧ b + 8 ≤ 1312 ∧ b + 8 ≤ g.2 133 ∨ 1312 ≤ b ∧ b + 8 ≤ 1344 ∧ b + 8 ≤ g.2 134 ∨ 1344 ≤ b ∧ b + 8 ≤ 1376 ∧ b + 8 ≤ g.2 135
theorem tw_al.le {g g' : tw_G} {b : Nat} (h : tw_al g b) (e : ∀ i, (i = 24 ∨ i = 9 ∨ 130 ≤ i ∧ i < 136) → g.2 i ≤ g'.2 i) : tw_al g' b := by
  have a0 := e 24 (by decide)
  have a1 := e 9 (by decide)
  have a2 := e 130 (by decide)
  have a3 := e 131 (by decide)
  have a4 := e 132 (by decide)
  have a5 := e 133 (by decide)
  have a6 := e 134 (by decide)
  have a7 := e 135 (by decide)
  unfold tw_al at h ⊢
  omega
def tw_ow (g : tw_G) (x b : Nat) : Prop := 160 ≤ b ∧ b % 8 = 0 ∧ tw_al g b ∧ x = g.2 b ∧ g.2 (4096 + x) = b
def tw_f1 (g : tw_G) (x : Nat) (a c : Int32) : Prop := ∃ b, tw_ow g x b ∧ a = g.1 (b + 0) ∧ c = g.1 (b + 1)
def tw_pc (g : tw_G) (o : Option Nat) (c : Int32) : Prop := (o = none ∧ c = -1) ∨ ∃ q i, o = some q ∧ i < 4 ∧ c = nI i ∧ g.2 (4096 + q) = 160 + 64 * i
def tw_f3 (g : tw_G) (x : Nat) (n ar : Int32) (p : Nat) (pl go : Option Nat) : Prop := ∃ j, tw_ow g x (768 + 32 * j) ∧ n = nI j ∧ ar = g.1 (768 + 32 * j + 0) ∧ tw_pc g pl (g.1 (768 + 32 * j + 1)) ∧ tw_pc g go (g.1 (768 + 32 * j + 2)) ∧ g.2 (4096 + p) = 768 + 32 * j + 8
def tw_f4 (g : tw_G) (x : Nat) (v dy pd : Int32) (a b : Nat) : Prop := ∃ j, tw_ow g x (1152 + 8 * j) ∧ v = g.1 (1152 + 8 * j + 0) ∧ dy = g.1 (1152 + 8 * j + 1) ∧ pd = g.1 (1152 + 8 * j + 2) ∧ (∃ i, i < 6 ∧ g.1 (1152 + 8 * j + 3) = nI i ∧ g.2 (4096 + a) = 768 + 32 * i) ∧ ∃ i, i < 6 ∧ g.1 (1152 + 8 * j + 4) = nI i ∧ g.2 (4096 + b) = 768 + 32 * i
def tw_f22 (g : tw_G) (x : Nat) (v dy pd : Int32) (i j : Nat) : Prop := ∃ k, tw_ow g x (1232 + 8 * k) ∧ v = g.1 (1232 + 8 * k + 0) ∧ dy = g.1 (1232 + 8 * k + 1) ∧ pd = g.1 (1232 + 8 * k + 2) ∧ nI i = g.1 (1232 + 8 * k + 3) ∧ nI j = g.1 (1232 + 8 * k + 4)
def tw_f23 (g : tw_G) (x : Nat) (at9 to dy : Int32) (p : Nat) : Prop := ∃ j, tw_ow g x (960 + 32 * j) ∧ dy = g.1 (960 + 32 * j + 0) ∧ at9 = g.1 (960 + 32 * j + 1) ∧ to = g.1 (960 + 32 * j + 2) ∧ g.2 (4096 + p) = 960 + 32 * j + 8
def tw_f31 (g : tw_G) (x : Nat) (f : Nat → Int64) : Prop := ∃ b, tw_ow g x b ∧ ∀ k, k < 2 → f k = (g.1 (b + k)).toInt64
def tw_f9 (g : tw_G) (b s : Nat) (f : Nat → Option Nat) : Prop := ∀ j q, f j = some q → g.2 (4096 + q) = b + s * j
def tw_f28 (g : tw_G) (n b s : Nat) (e : va_E) : Prop := ∀ (cA : ClassId) (N : Nat) (f : Nat → Option Nat), e = .inl (cA, N, .inr (.inr (.inr (.inr f)))) → ∀ j y, j < n → f j = some y → g.2 (4096 + y) = b + s * j
def tw_f2 (g : tw_G) (x : Nat) (n r c go so : Int32) (rd rf t v : Nat) : Prop := ∃ j, tw_ow g x (160 + 64 * j) ∧ n = nI j ∧ r = g.1 (160 + 64 * j) ∧ c = g.1 (160 + 64 * j + 1) ∧ go = g.1 (160 + 64 * j + 2) ∧ so = g.1 (160 + 64 * j + 3) ∧ g.2 (4096 + rd) = 160 + 64 * j + 8 ∧ g.2 (4096 + rf) = 160 + 64 * j + 16 ∧ g.2 (4096 + t) = 160 + 64 * j + 32 ∧ g.2 (4096 + v) = 160 + 64 * j + 24
def tw_f6 (g : tw_G) (x N : Nat) (f : Nat → Int32) : Prop := ∃ b, tw_ow g x b ∧ ∀ k, k < N → f k = g.1 (b + k)
def tw_f8 (g : tw_G) (f : Nat → Option Nat) : Prop := ∀ j q, f j = some q → g.2 (4096 + q) = 160 + 64 * j
def tw_f21 (g : tw_G) (x : Nat) (r c : Int32) (o t v : Nat) : Prop := ∃ j, tw_ow g x (480 + 64 * j) ∧ r = g.1 (480 + 64 * j) ∧ c = g.1 (480 + 64 * j + 1) ∧ g.2 (4096 + o) = 480 + 64 * j + 8 ∧ g.2 (4096 + t) = 480 + 64 * j + 24 ∧ g.2 (4096 + v) = 480 + 64 * j + 16
def tw_f27 (g : tw_G) (e : va_E) : Prop := ∀ (cA : ClassId) (N : Nat) (f : Nat → Option Nat), e = .inl (cA, N, .inr (.inr (.inr (.inr f)))) → ∀ j y, j < g.2 3 → f j = some y → g.2 (4096 + y) = 480 + 64 * j
def tw_sh (d : tw_D) (g : tw_G) (τ : tw_K) (x k : Nat) (e : va_E) : Prop := match k with
  | 1 => ∃ a b : Int32, e = .inr (7, [.int a, .int b]) ∧ tw_f1 g x a b
  | 2 => ∃ (n r c go so : Int32) (v rd rf t : Nat), e = .inr (4, [.int n, .int r, .int c, .ref v, .int go, .int so, .ref rd, .ref rf, .ref t]) ∧ τ v = 1 ∧ τ rd = 6 ∧ τ rf = 6 ∧ τ t = 5 ∧ tw_01 go ∧ tw_01 so ∧ 100 ≤ r ∧ r ≤ 200 ∧ tw_f2 g x n r c go so rd rf t v
  | 3 => ∃ (n ar : Int32) (p : Nat) (pl go : Option Nat), e = .inr (6, [.int n, .ref p, va_rf pl, va_rf go, .int ar]) ∧ τ p = 1 ∧ (∀ q, pl = some q → τ q = 2) ∧ (∀ q, go = some q → τ q = 2) ∧ tw_f3 g x n ar p pl go
  | 4 => ∃ (v dy pd : Int32) (a b : Nat), e = .inr (5, [.ref a, .ref b, .int v, .int dy, .int pd]) ∧ τ a = 3 ∧ τ b = 3 ∧ tw_01 pd ∧ tw_f4 g x v dy pd a b
  | 5 => ∃ m : Nat, e = .inr (8, [.ref m]) ∧ τ m = 7 ∧ g.2 (4096 + m) = g.2 (4096 + x)
  | 6 => ∃ f : Nat → Int32, e = .inl (d.2 0, 4, .inl f) ∧ tw_f6 g x 4 f
  | 7 => ∃ f : Nat → Int32, e = .inl (d.2 0, 5, .inl f) ∧ tw_f6 g x 5 f
  | 8 => ∃ f : Nat → Option Nat, e = .inl (d.2 4, 4, .inr (.inr (.inr (.inr f)))) ∧ (∀ j q, f j = some q → τ q = 2) ∧ (∀ j, j < 4 → (f j = none ↔ g.2 6 ≤ j)) ∧ g.2 6 ≤ 4 ∧ x = g.2 18 ∧ tw_f8 g f
  | 9 => ∃ f : Nat → Option Nat, e = .inl (d.2 5, 6, .inr (.inr (.inr (.inr f)))) ∧ (∀ j q, f j = some q → τ q = 3) ∧ (∀ j, j < 6 → (f j = none ↔ g.2 7 ≤ j)) ∧ g.2 7 ≤ 6 ∧ x = g.2 19 ∧ tw_f9 g 768 32 f
  | 10 => ∃ f : Nat → Option Nat, e = .inl (d.2 6, 10, .inr (.inr (.inr (.inr f)))) ∧ (∀ j q, f j = some q → τ q = 4) ∧ (∀ j, j < 10 → (f j = none ↔ g.2 8 ≤ j)) ∧ g.2 8 ≤ 10 ∧ x = g.2 20 ∧ tw_f9 g 1152 8 f
  | 11 => ∃ (td : Int32) (ca ha da c1 c2 c3 c4 : Nat), e = .inr (9, [.int td, .int (g.1 0), .ref ca, .int (nI (g.2 0)), .ref ha, .int (nI (g.2 1)), .ref da, .int (nI (g.2 2)), .ref c1, .ref c2, .ref c3, .ref c4]) ∧ τ ca = 8 ∧ τ ha = 9 ∧ τ da = 10 ∧ τ c1 = 1 ∧ τ c2 = 1 ∧ τ c3 = 1 ∧ τ c4 = 1 ∧ g.2 0 ≤ 4 ∧ g.2 1 ≤ 6 ∧ g.2 2 ≤ 10 ∧ x = g.2 10 ∧ td = nI (g.2 21) ∧ g.2 21 ≤ 3000 ∧ g.2 (4096 + c1) = 1312 ∧ g.2 (4096 + c2) = 1320 ∧ g.2 (4096 + c3) = 1328 ∧ g.2 (4096 + c4) = 1336
  | 12 => ∃ (n : Int64) (s : Option Nat), e = .inr (10, [.long n, va_rf s])
  | 21 => ∃ (r c : Int32) (v o t : Nat), e = .inr (11, [.int r, .int c, .ref v, .ref o, .ref t]) ∧ τ v = 31 ∧ τ o = 32 ∧ τ t = 33 ∧ 100 ≤ r ∧ r ≤ 200 ∧ tw_f21 g x r c o t v
  | 22 => ∃ (v dy pd : Int32) (i j : Nat), e = .inr (12, [.int (nI i), .int (nI j), .int v, .int dy, .int pd]) ∧ i < g.2 4 ∧ j < g.2 4 ∧ tw_01 pd ∧ tw_f22 g x v dy pd i j
  | 23 => ∃ (x9 y dy : Int32) (p : Nat), e = .inr (13, [.int x9, .int y, .int dy, .ref p]) ∧ τ p = 31 ∧ (x9 = -1 ∨ ∃ i, i < g.2 3 ∧ x9 = nI i) ∧ (y = -1 ∨ ∃ i, i < g.2 3 ∧ y = nI i) ∧ tw_f23 g x x9 y dy p
  | 24 => tw_lst d τ (g.1 3) (g.2 3) 27 (g.2 25) e ∧ x = g.2 12
  | 25 => tw_lst d τ (g.1 4) (g.2 4) 28 (g.2 26) e ∧ x = g.2 13
  | 26 => tw_lst d τ (g.1 5) (g.2 5) 29 (g.2 27) e ∧ x = g.2 14
  | 27 => tw_arr d τ (g.2 3) 21 e ∧ x = g.2 15 ∧ g.2 25 = 1 ∧ tw_f27 g e
  | 28 => tw_arr d τ (g.2 4) 23 e ∧ x = g.2 16 ∧ g.2 26 = 1 ∧ tw_f28 g (g.2 4) 960 32 e
  | 29 => tw_arr d τ (g.2 5) 22 e ∧ x = g.2 17 ∧ g.2 27 = 1 ∧ tw_f28 g (g.2 5) 1232 8 e
  | 31 => ∃ f : Nat → Int64, e = .inl (d.2 1, 2, .inr (.inl f)) ∧ tw_f31 g x f
  | 32 => ∃ f : Nat → Int32, e = .inl (d.2 2, 2, .inl f) ∧ (∀ j, tw_01 (f j)) ∧ tw_f6 g x 2 f
  | 33 => ∃ f : Nat → Int32, e = .inl (d.2 0, 5, .inl f) ∧ (∀ j, 0 ≤ f j ∧ f j ≤ 9) ∧ tw_f6 g x 5 f
  | 34 => ∃ f : Nat → Option Nat, e = .inl (d.2 8, 4, .inr (.inr (.inr (.inr f)))) ∧ ∀ j, j < 4 → ∃ q, f j = some q ∧ τ q = 6 ∧ g.2 (4096 + q) = g.2 (4096 + x) + 8 * j
  | 36 => ∃ (th td : Int32) (ds fr ca us wo cm lc lh ld : Nat), e = .inr (14, [.int th, .int td, .int (g.1 1), .ref ds, .ref fr, .ref ca, .ref us, .ref wo, .ref cm, .ref lc, .ref lh, .ref ld]) ∧ τ ds = 34 ∧ τ fr = 34 ∧ τ ca = 31 ∧ τ us = 31 ∧ τ wo = 31 ∧ τ cm = 31 ∧ τ lc = 24 ∧ τ lh = 25 ∧ τ ld = 26 ∧ g.2 3 ≤ 4 ∧ g.2 4 ≤ 6 ∧ g.2 5 ≤ 10 ∧ x = g.2 11 ∧ 0 ≤ th ∧ td = nI (g.2 22) ∧ g.2 22 ≤ 3000 ∧ g.2 (4096 + ds) = 416 ∧ g.2 (4096 + fr) = 448 ∧ g.2 (4096 + ca) = 1344 ∧ g.2 (4096 + us) = 1352 ∧ g.2 (4096 + wo) = 1360 ∧ g.2 (4096 + cm) = 1368
  | _ => False
def tw_wt (d : tw_D) (g : tw_G) (τ : tw_K) (h : tw_H) : Prop := ∀ (a k : Nat), τ a = k → k ≠ 0 → ∃ e, h a = some e ∧ tw_sh d g τ a k e
def tw_le (τ τ1 : tw_K) : Prop := ∀ a, τ a ≠ 0 → τ1 a = τ a
theorem tw_le.k {τ τ1 : tw_K} (h : tw_le τ τ1) {a k : Nat} (hk : τ a = k) (h0 : k ≠ 0) : τ1 a = k := (h a (by rw [hk]; exact h0)).trans hk
theorem tw_le.rf {τ : tw_K} : tw_le τ τ := fun _ _ => rfl
theorem tw_le.tr {τ τ1 τ2 : tw_K} (h : tw_le τ τ1) (h2 : tw_le τ1 τ2) : tw_le τ τ2 := fun a ha => (h2 a (by rw [h a ha]; exact ha)).trans (h a ha)
theorem tw_lst_le {d : tw_D} {τ τ1 : tw_K} {mc : Int32} {n ka fl : Nat} {e : va_E} (hl : tw_le τ τ1) (h0 : ka ≠ 0) (h : tw_lst d τ mc n ka fl e) : tw_lst d τ1 mc n ka fl e := by
  obtain ⟨a, h1, h2⟩ := h
  exact ⟨a, h1, h2.imp id (fun q => hl.k q h0)⟩
theorem tw_arr_le {d : tw_D} {τ τ1 : tw_K} {n k : Nat} {e : va_E} (hl : tw_le τ τ1) (h0 : k ≠ 0) (h : tw_arr d τ n k e) : tw_arr d τ1 n k e := by
  obtain ⟨f, h1, h2, h5⟩ := h
  exact ⟨f, h1, h2, fun j hj => by obtain ⟨y, a, b⟩ := h5 j hj; exact ⟨y, a, hl.k b h0⟩⟩
theorem tw_sh_le {d : tw_D} {g : tw_G} {τ τ1 : tw_K} (hl : tw_le τ τ1) {x k : Nat} {e : va_E} (h : tw_sh d g τ x k e) : tw_sh d g τ1 x k e := by
  have L : ∀ {a k : Nat}, τ a = k → k ≠ 0 → τ1 a = k := fun q h0 => hl.k q h0
  unfold tw_sh at h ⊢
  split at h
  · exact h
  · obtain ⟨n, r, c, go, so, v, rd, rf, t, h1, h2, h3, h4, h5, h6⟩ := h
    exact ⟨n, r, c, go, so, v, rd, rf, t, h1, L h2 (by decide), L h3 (by decide), L h4 (by decide), L h5 (by decide), h6⟩
  · obtain ⟨n, ar, p, pl, go, h1, h2, h3, h4, h5⟩ := h
    exact ⟨n, ar, p, pl, go, h1, L h2 (by decide), fun q hq => L (h3 q hq) (by decide), fun q hq => L (h4 q hq) (by decide), h5⟩
  · obtain ⟨v, dy, pd, a, b, h1, h2, h3, h4⟩ := h
    exact ⟨v, dy, pd, a, b, h1, L h2 (by decide), L h3 (by decide), h4⟩
  · obtain ⟨m, h1, h2, h3⟩ := h
    exact ⟨m, h1, L h2 (by decide), h3⟩
  · exact h
  · exact h
  · obtain ⟨f, h1, h2, h3⟩ := h
    exact ⟨f, h1, fun j q hq => L (h2 j q hq) (by decide), h3⟩
  · obtain ⟨f, h1, h2, h3⟩ := h
    exact ⟨f, h1, fun j q hq => L (h2 j q hq) (by decide), h3⟩
  · obtain ⟨f, h1, h2, h3⟩ := h
    exact ⟨f, h1, fun j q hq => L (h2 j q hq) (by decide), h3⟩
  · obtain ⟨td, ca, ha, da, c1, c2, c3, c4, h1, k1, k2, k3, k4, k5, k6, k7, k8⟩ := h
    exact ⟨td, ca, ha, da, c1, c2, c3, c4, h1, L k1 (by decide), L k2 (by decide), L k3 (by decide), L k4 (by decide), L k5 (by decide), L k6 (by decide), L k7 (by decide), k8⟩
  · exact h
  · obtain ⟨r, c, v, o, t, h1, h2, h3, h4, h5⟩ := h
    exact ⟨r, c, v, o, t, h1, L h2 (by decide), L h3 (by decide), L h4 (by decide), h5⟩
  · exact h
  · obtain ⟨x9, y, dy, p, h1, h2, h3⟩ := h
    exact ⟨x9, y, dy, p, h1, L h2 (by decide), h3⟩
  · exact ⟨tw_lst_le hl (by decide) h.1, h.2⟩
  · exact ⟨tw_lst_le hl (by decide) h.1, h.2⟩
  · exact ⟨tw_lst_le hl (by decide) h.1, h.2⟩
  · exact ⟨tw_arr_le hl (by decide) h.1, h.2⟩
  · exact ⟨tw_arr_le hl (by decide) h.1, h.2⟩
  · exact ⟨tw_arr_le hl (by decide) h.1, h.2⟩
  · exact h
  · exact h
  · exact h
  · obtain ⟨f, h1, h2⟩ := h
    exact ⟨f, h1, fun j hj => by obtain ⟨q, a, b, c⟩ := h2 j hj; exact ⟨q, a, L b (by decide), c⟩⟩
  · obtain ⟨th, td, ds, fr, ca, us, wo, cm, lc, lh, ld, h1, k1, k2, k3, k4, k5, k6, k7, k8, k9, k10⟩ := h
    exact ⟨th, td, ds, fr, ca, us, wo, cm, lc, lh, ld, h1, L k1 (by decide), L k2 (by decide), L k3 (by decide), L k4 (by decide), L k5 (by decide), L k6 (by decide), L k7 (by decide), L k8 (by decide), L k9 (by decide), k10⟩
  · exact h.elim
/-- which low numbers a kind sees -/
def tw_d1 (k : Nat) : List Nat := match k with
  | 11 => [0]
  | 24 => [3]
  | 25 => [4]
  | 26 => [5]
  | 36 => [1]
  | _ => []
def tw_d2 (k : Nat) : List Nat := match k with
  | 8 => [6, 18]
  | 9 => [7, 19]
  | 10 => [8, 20]
  | 11 => [0, 1, 2, 10, 21]
  | 22 => [4]
  | 23 => [3]
  | 24 => [3, 12, 25]
  | 25 => [4, 13, 26]
  | 26 => [5, 14, 27]
  | 27 => [3, 15, 25]
  | 28 => [4, 16, 26]
  | 29 => [5, 17, 27]
  | 36 => [3, 4, 5, 11, 22]
  | _ => []
/-- other numbers, the same cell: what it sees of them is the same -/
theorem tw_sh_g {d : tw_D} {g g' : tw_G} {τ : tw_K} {x k : Nat} {e : va_E} (D1 : ∀ i, i ∈ tw_d1 k → g'.1 i = g.1 i) (D2 : ∀ i, i ∈ tw_d2 k → g'.2 i = g.2 i) (O : ∀ b, tw_ow g x b → tw_ow g' x b ∧ ∀ i, i < 8 → g'.1 (b + i) = g.1 (b + i)) (R : ∀ q, τ q ≠ 0 → g'.2 (4096 + q) = g.2 (4096 + q)) (hx : τ x ≠ 0) (h : tw_sh d g τ x k e) : tw_sh d g' τ x k e := by
  have F6 : ∀ {N : Nat} {f : Nat → Int32}, N ≤ 8 → tw_f6 g x N f → tw_f6 g' x N f := fun hN ⟨b, o, v⟩ => ⟨b, (O b o).1, fun k hk => (v k hk).trans ((O b o).2 k (by omega)).symm⟩
  have PC : ∀ {o : Option Nat} {c c' : Int32}, (∀ q, o = some q → τ q = 2) → c' = c → tw_pc g o c → tw_pc g' o c' := fun ho e p => by
    rw [e]
    rcases p with p | ⟨q, i, e1, e2, e3, e4⟩
    · exact Or.inl p
    · exact Or.inr ⟨q, i, e1, e2, e3, (R q (by rw [ho q e1]; decide)).trans e4⟩
  have F28 : ∀ (n b s k : Nat) (F : Nat → Option Nat) (cA : ClassId), k ≠ 0 → (∀ j, j < n → ∃ y, F j = some y ∧ τ y = k) → e = .inl (cA, 10, .inr (.inr (.inr (.inr F)))) → tw_f28 g n b s e → tw_f28 g' n b s e := fun n b s k F cA hk h3 h1 h6 cA2 N f e1 j y hj hy => by
    obtain ⟨y1, a1, a2⟩ := h3 j hj
    have e2 := e1
    rw [h1] at e2
    have e3 : F = f := by injection e2 with e2; injection e2 with _ e2; injection e2 with _ e2; injection e2 with e2; injection e2 with e2; injection e2 with e2; injection e2
    rw [e3, hy] at a1
    obtain rfl : y = y1 := by injection a1
    exact (R y (by rw [a2]; exact hk)).trans (h6 cA2 N f e1 j y hj hy)
  unfold tw_sh at h ⊢
  split at h
  · obtain ⟨a, c, h1, b, o, f1, f2⟩ := h
    obtain ⟨o1, w⟩ := O _ o
    exact ⟨a, c, h1, b, o1, f1.trans (w 0 (by decide)).symm, f2.trans (w 1 (by decide)).symm⟩
  · obtain ⟨n, r, c, go, so, v, rd, rf, t, h1, h2, h3, h4, h5, h6, h7, h8, h9, j, o, f1, f2, f3, f4, f5, f6, f7, f8, f9⟩ := h
    obtain ⟨o1, w⟩ := O _ o
    exact ⟨n, r, c, go, so, v, rd, rf, t, h1, h2, h3, h4, h5, h6, h7, h8, h9, j, o1, f1, f2.trans (w 0 (by decide)).symm, f3.trans (w 1 (by decide)).symm, f4.trans (w 2 (by decide)).symm, f5.trans (w 3 (by decide)).symm, (R rd (by rw [h3]; decide)).trans f6, (R rf (by rw [h4]; decide)).trans f7, (R t (by rw [h5]; decide)).trans f8, (R v (by rw [h2]; decide)).trans f9⟩
  · obtain ⟨n, ar, p, pl, go, h1, h2, h3, h4, j, o, f1, f2, f3, f4, f5⟩ := h
    obtain ⟨o1, w⟩ := O _ o
    exact ⟨n, ar, p, pl, go, h1, h2, h3, h4, j, o1, f1, f2.trans (w 0 (by decide)).symm, PC h3 (w 1 (by decide)) f3, PC h4 (w 2 (by decide)) f4, (R p (by rw [h2]; decide)).trans f5⟩
  · obtain ⟨v, dy, pd, a, b, h1, h2, h3, h4, j, o, f1, f2, f3, ⟨i1, a1, a2, a3⟩, i2, b1, b2, b3⟩ := h
    obtain ⟨o1, w⟩ := O _ o
    exact ⟨v, dy, pd, a, b, h1, h2, h3, h4, j, o1, f1.trans (w 0 (by decide)).symm, f2.trans (w 1 (by decide)).symm, f3.trans (w 2 (by decide)).symm, ⟨i1, a1, (w 3 (by decide)).trans a2, (R a (by rw [h2]; decide)).trans a3⟩, i2, b1, (w 4 (by decide)).trans b2, (R b (by rw [h3]; decide)).trans b3⟩
  · obtain ⟨m, h1, h2, h3⟩ := h
    exact ⟨m, h1, h2, by rw [R m (by rw [h2]; decide), R x hx]; exact h3⟩
  · obtain ⟨f, h1, h2⟩ := h
    exact ⟨f, h1, F6 (by decide) h2⟩
  · obtain ⟨f, h1, h2⟩ := h
    exact ⟨f, h1, F6 (by decide) h2⟩
  · obtain ⟨f, h1, h2, h3, h4, h5, h6⟩ := h
    rw [D2 6 (by decide), D2 18 (by decide)]
    exact ⟨f, h1, h2, h3, h4, h5, fun j q hq => (R q (by rw [h2 j q hq]; decide)).trans (h6 j q hq)⟩
  · obtain ⟨f, h1, h2, h3, h4, h5, h6⟩ := h
    rw [D2 7 (by decide), D2 19 (by decide)]
    exact ⟨f, h1, h2, h3, h4, h5, fun j q hq => (R q (by rw [h2 j q hq]; decide)).trans (h6 j q hq)⟩
  · obtain ⟨f, h1, h2, h3, h4, h5, h6⟩ := h
    rw [D2 8 (by decide), D2 20 (by decide)]
    exact ⟨f, h1, h2, h3, h4, h5, fun j q hq => (R q (by rw [h2 j q hq]; decide)).trans (h6 j q hq)⟩
  · obtain ⟨td, ca, ha, da, c1, c2, c3, c4, h1, k1, k2, k3, k4, k5, k6, k7, b0, b1, b2, u, t1, t2, r1, r2, r3, r4⟩ := h
    rw [D1 0 (by decide), D2 0 (by decide), D2 1 (by decide), D2 2 (by decide), D2 10 (by decide), D2 21 (by decide)]
    exact ⟨td, ca, ha, da, c1, c2, c3, c4, h1, k1, k2, k3, k4, k5, k6, k7, b0, b1, b2, u, t1, t2, (R c1 (by rw [k4]; decide)).trans r1, (R c2 (by rw [k5]; decide)).trans r2, (R c3 (by rw [k6]; decide)).trans r3, (R c4 (by rw [k7]; decide)).trans r4⟩
  · exact h
  · obtain ⟨r, c, v, o, t, h1, h2, h3, h4, h5, h6, j, w, f1, f2, f3, f4, f5⟩ := h
    obtain ⟨o1, w1⟩ := O _ w
    exact ⟨r, c, v, o, t, h1, h2, h3, h4, h5, h6, j, o1, f1.trans (w1 0 (by decide)).symm, f2.trans (w1 1 (by decide)).symm, (R o (by rw [h3]; decide)).trans f3, (R t (by rw [h4]; decide)).trans f4, (R v (by rw [h2]; decide)).trans f5⟩
  · obtain ⟨v, dy, pd, i, j, h1, h2, h3, h4, k, o, f1, f2, f3, f4, f5⟩ := h
    obtain ⟨o1, w⟩ := O _ o
    rw [D2 4 (by decide)]
    exact ⟨v, dy, pd, i, j, h1, h2, h3, h4, k, o1, f1.trans (w 0 (by decide)).symm, f2.trans (w 1 (by decide)).symm, f3.trans (w 2 (by decide)).symm, f4.trans (w 3 (by decide)).symm, f5.trans (w 4 (by decide)).symm⟩
  · obtain ⟨x9, y, dy, p, h1, h2, h3, h4, j, o, f1, f2, f3, f4⟩ := h
    obtain ⟨o1, w⟩ := O _ o
    rw [D2 3 (by decide)]
    exact ⟨x9, y, dy, p, h1, h2, h3, h4, j, o1, f1.trans (w 0 (by decide)).symm, f2.trans (w 1 (by decide)).symm, f3.trans (w 2 (by decide)).symm, (R p (by rw [h2]; decide)).trans f4⟩
  · rw [D1 3 (by decide), D2 3 (by decide), D2 12 (by decide), D2 25 (by decide)]; exact h
  · rw [D1 4 (by decide), D2 4 (by decide), D2 13 (by decide), D2 26 (by decide)]; exact h
  · rw [D1 5 (by decide), D2 5 (by decide), D2 14 (by decide), D2 27 (by decide)]; exact h
  · obtain ⟨⟨f, h1, h2, h3⟩, h4, h5, h6⟩ := h
    rw [D2 3 (by decide), D2 15 (by decide), D2 25 (by decide)]
    refine ⟨⟨f, h1, h2, h3⟩, h4, h5, fun cA N F e1 j y hj hy => ?_⟩
    rw [D2 3 (by decide)] at hj
    obtain ⟨y1, a1, a2⟩ := h3 j hj
    have e2 := e1
    rw [h1] at e2
    have e3 : f = F := by injection e2 with e2; injection e2 with _ e2; injection e2 with _ e2; injection e2 with e2; injection e2 with e2; injection e2 with e2; injection e2
    rw [e3, hy] at a1
    obtain rfl : y = y1 := by injection a1
    exact (R y (by rw [a2]; decide)).trans (h6 cA N F e1 j y hj hy)
  · obtain ⟨⟨f, h1, h2, h3⟩, h4, h5, h6⟩ := h
    rw [D2 4 (by decide), D2 16 (by decide), D2 26 (by decide)]
    exact ⟨⟨f, h1, h2, h3⟩, h4, h5, F28 _ _ _ _ _ _ (by decide) h3 h1 h6⟩
  · obtain ⟨⟨f, h1, h2, h3⟩, h4, h5, h6⟩ := h
    rw [D2 5 (by decide), D2 17 (by decide), D2 27 (by decide)]
    exact ⟨⟨f, h1, h2, h3⟩, h4, h5, F28 _ _ _ _ _ _ (by decide) h3 h1 h6⟩
  · obtain ⟨f, h1, b, o, v⟩ := h
    exact ⟨f, h1, b, (O b o).1, fun k hk => by rw [(O b o).2 k (by omega)]; exact v k hk⟩
  · obtain ⟨f, h1, h2, h3⟩ := h
    exact ⟨f, h1, h2, F6 (by decide) h3⟩
  · obtain ⟨f, h1, h2, h3⟩ := h
    exact ⟨f, h1, h2, F6 (by decide) h3⟩
  · obtain ⟨f, h1, h2⟩ := h
    rw [R x hx]
    refine ⟨f, h1, fun j hj => ?_⟩
    obtain ⟨q, a1, a2, a3⟩ := h2 j hj
    exact ⟨q, a1, a2, (R q (by rw [a2]; decide)).trans a3⟩
  · obtain ⟨th, td, ds, fr, ca, us, wo, cm, lc, lh, ld, h9, k1, k2, k3, k4, k5, k6, k7, k8, k9, b3, b4, b5, u9, t9, t0, t1, r1, r2, r3, r4, r5, r6⟩ := h
    rw [D1 1 (by decide), D2 3 (by decide), D2 4 (by decide), D2 5 (by decide), D2 11 (by decide), D2 22 (by decide)]
    exact ⟨th, td, ds, fr, ca, us, wo, cm, lc, lh, ld, h9, k1, k2, k3, k4, k5, k6, k7, k8, k9, b3, b4, b5, u9, t9, t0, t1, (R ds (by rw [k1]; decide)).trans r1, (R fr (by rw [k2]; decide)).trans r2, (R ca (by rw [k3]; decide)).trans r3, (R us (by rw [k4]; decide)).trans r4, (R wo (by rw [k5]; decide)).trans r5, (R cm (by rw [k6]; decide)).trans r6⟩
  · exact h.elim
/-- what lies high is the same -/
def tw_hi (g g' : tw_G) : Prop := (∀ i, 128 ≤ i → g'.1 i = g.1 i) ∧ (∀ i, 128 ≤ i → g'.2 i = g.2 i) ∧ g'.2 24 = g.2 24 ∧ g'.2 9 = g.2 9
theorem tw_hi.ow {g g' : tw_G} (H : tw_hi g g') {x b : Nat} (o : tw_ow g x b) : tw_ow g' x b ∧ ∀ i, i < 8 → g'.1 (b + i) = g.1 (b + i) := by
  obtain ⟨h1, h2, h3, h4⟩ := H
  obtain ⟨o1, o2, o3, o4, o5⟩ := o
  refine ⟨⟨o1, o2, ?_, ?_, ?_⟩, fun i _ => h1 _ (by omega)⟩
  · refine o3.le (fun i hi => ?_)
    rcases (show i = 24 ∨ i = 9 ∨ 128 ≤ i by omega) with rfl | rfl | z
    · rw [h3]; exact Nat.le_refl _
    · rw [h4]; exact Nat.le_refl _
    · rw [h2 _ z]; exact Nat.le_refl _
  · rw [h2 b (by omega)]; exact o4
  · rw [h2 _ (by omega)]; exact o5
theorem tw_sh_hi {d : tw_D} {g g' : tw_G} {τ : tw_K} {x k : Nat} {e : va_E} (H : tw_hi g g') (D1 : ∀ i, i ∈ tw_d1 k → g'.1 i = g.1 i) (D2 : ∀ i, i ∈ tw_d2 k → g'.2 i = g.2 i) (hx : τ x ≠ 0) (h : tw_sh d g τ x k e) : tw_sh d g' τ x k e :=
  tw_sh_g D1 D2 (fun _ o => H.ow o) (fun _ _ => H.2.1 _ (by omega)) hx h
/-- a step of the numbers that no typed thing minds -/
def tw_gw2 (τ : tw_K) (g g' : tw_G) : Prop := (∀ i, i < 128 → g'.1 i = g.1 i) ∧ (∀ i, i < 128 → i ≠ 9 → i ≠ 24 → g'.2 i = g.2 i) ∧ (∀ y b, τ y ≠ 0 → tw_ow g y b → tw_ow g' y b ∧ ∀ i, i < 8 → g'.1 (b + i) = g.1 (b + i)) ∧ ∀ q, τ q ≠ 0 → g'.2 (4096 + q) = g.2 (4096 + q)
theorem tw_d1_lt {k i : Nat} (h : i ∈ tw_d1 k) : i < 128 := by
  unfold tw_d1 at h
  split at h <;> simp at h <;> omega
theorem tw_d2_lt {k i : Nat} (h : i ∈ tw_d2 k) : i < 128 ∧ i ≠ 9 ∧ i ≠ 24 := by
  unfold tw_d2 at h
  split at h <;> simp at h <;> omega
theorem tw_wt.gw2 {d : tw_D} {g g' : tw_G} {τ : tw_K} {h : tw_H} (hw : tw_wt d g τ h) (G : tw_gw2 τ g g') : tw_wt d g' τ h := fun a k hk h0 => by
  obtain ⟨e, h1, h2⟩ := hw a k hk h0
  have ha : τ a ≠ 0 := by rw [hk]; exact h0
  exact ⟨e, h1, tw_sh_g (fun i hi => G.1 i (tw_d1_lt hi)) (fun i hi => G.2.1 i (tw_d2_lt hi).1 (tw_d2_lt hi).2.1 (tw_d2_lt hi).2.2) (fun b o => G.2.2.1 a b ha o) G.2.2.2 ha h2⟩
def tw_ku (τ : tw_K) (a k : Nat) : tw_K := fun q => if q = a then k else τ q
/-- a typed cell is written: same kind, a cell of that kind -/
theorem tw_wt.set {d : tw_D} {g : tw_G} {τ : tw_K} {h : tw_H} (hw : tw_wt d g τ h) {a k : Nat} {e : va_E} (hk : τ a = k) (hs : tw_sh d g τ a k e) : tw_wt d g τ (tw_up h a e) := by
  intro b j hj h0
  by_cases q : b = a
  · subst q
    rw [hk] at hj
    subst hj
    exact ⟨e, tw_up_s, hs⟩
  · obtain ⟨e2, h1, h2⟩ := hw b j hj h0
    exact ⟨e2, by rw [tw_up_n q]; exact h1, h2⟩
/-- an untyped cell is written, or made -/
theorem tw_wt.loc {d : tw_D} {g : tw_G} {τ : tw_K} {h : tw_H} (hw : tw_wt d g τ h) {a : Nat} {e : va_E} (hk : τ a = 0) : tw_wt d g τ (tw_up h a e) := by
  intro b j hj h0
  obtain ⟨e2, h1, h2⟩ := hw b j hj h0
  exact ⟨e2, by rw [tw_up_n (fun q => h0 (by rw [← hj, q]; exact hk))]; exact h1, h2⟩
theorem tw_wt.none {d : tw_D} {g : tw_G} {τ : tw_K} {h : tw_H} (hw : tw_wt d g τ h) {a : Nat} (hn : h a = none) : τ a = 0 := by
  by_cases q : τ a = 0
  · exact q
  · obtain ⟨e, h1, -⟩ := hw a _ rfl q
    rw [hn] at h1
    cases h1
theorem tw_ku_le {τ : tw_K} {a k : Nat} (h0 : τ a = 0) : tw_le τ (tw_ku τ a k) := fun b hb => by
  unfold tw_ku
  rw [if_neg (fun q => hb (by rw [q]; exact h0))]
/-- an untyped cell becomes a typed one -/
theorem tw_wt.new {d : tw_D} {g : tw_G} {τ : tw_K} {h : tw_H} (hw : tw_wt d g τ h) {a k : Nat} {e : va_E} (h0 : τ a = 0) (hh : h a = some e) (hs : tw_sh d g (tw_ku τ a k) a k e) : tw_wt d g (tw_ku τ a k) h := by
  intro b j hj hj0
  by_cases q : b = a
  · subst q
    have : j = k := by rw [← hj]; exact if_pos rfl
    subst this
    exact ⟨e, hh, hs⟩
  · have h3 : τ b = j := by rw [← hj]; exact (if_neg q).symm
    obtain ⟨e2, h1, h2⟩ := hw b j h3 hj0
    exact ⟨e2, h1, tw_sh_le (tw_ku_le h0) h2⟩
/-- a step of the typed world: kinds grow, what is untyped stays -/
def tw_sp (d : tw_D) (τ : tw_K) (h : tw_H) (g1 : tw_G) (τ1 : tw_K) (h1 : tw_H) : Prop := tw_wt d g1 τ1 h1 ∧ tw_le τ τ1 ∧ ∀ a e, h a = some e → τ a = 0 → h1 a = some e ∧ τ1 a = 0
theorem tw_sp.rf {d : tw_D} {g : tw_G} {τ : tw_K} {h : tw_H} (hw : tw_wt d g τ h) : tw_sp d τ h g τ h := ⟨hw, tw_le.rf, fun _ _ h1 h2 => ⟨h1, h2⟩⟩
theorem tw_sp.tr {d : tw_D} {g1 g2 : tw_G} {τ τ1 τ2 : tw_K} {h h1 h2 : tw_H} (s1 : tw_sp d τ h g1 τ1 h1) (s2 : tw_sp d τ1 h1 g2 τ2 h2) : tw_sp d τ h g2 τ2 h2 :=
  ⟨s2.1, s1.2.1.tr s2.2.1, fun a e ha h0 => s2.2.2 a e (s1.2.2 a e ha h0).1 (s1.2.2 a e ha h0).2⟩
theorem tw_sp.set {d : tw_D} {g1 : tw_G} {τ τ1 : tw_K} {h h1 : tw_H} (s : tw_sp d τ h g1 τ1 h1) {a k : Nat} {e : va_E} (hk : τ1 a = k) (h0 : k ≠ 0) (hs : tw_sh d g1 τ1 a k e) : tw_sp d τ h g1 τ1 (tw_up h1 a e) :=
  ⟨s.1.set hk hs, s.2.1, fun b e2 hb hb0 => ⟨by rw [tw_up_n (fun q => h0 (by rw [← hk, ← q]; exact (s.2.2 b e2 hb hb0).2))]; exact (s.2.2 b e2 hb hb0).1, (s.2.2 b e2 hb hb0).2⟩⟩
/-- a fresh cell is made, as yet untyped -/
theorem tw_sp.mk {d : tw_D} {g1 : tw_G} {τ τ1 : tw_K} {h h1 : tw_H} (s : tw_sp d τ h g1 τ1 h1) {a : Nat} {e : va_E} (hn : h1 a = none) : tw_sp d τ h g1 τ1 (tw_up h1 a e) :=
  ⟨s.1.loc (s.1.none hn), s.2.1, fun b e2 hb hb0 => ⟨by rw [tw_up_n (fun q => by rw [q] at hb; have := (s.2.2 a e2 hb (by rw [← q]; exact hb0)).1; rw [hn] at this; cases this)]; exact (s.2.2 b e2 hb hb0).1, (s.2.2 b e2 hb hb0).2⟩⟩
/-- a cell that the start didn't know gets a kind -/
theorem tw_sp.ty {d : tw_D} {g1 : tw_G} {τ τ1 : tw_K} {h h1 : tw_H} (s : tw_sp d τ h g1 τ1 h1) {a k : Nat} {e : va_E} (hn : h a = none) (h0 : τ1 a = 0) (hh : h1 a = some e) (hs : tw_sh d g1 (tw_ku τ1 a k) a k e) : tw_sp d τ h g1 (tw_ku τ1 a k) h1 :=
  ⟨s.1.new h0 hh hs, s.2.1.tr (tw_ku_le h0), fun b e2 hb hb0 => ⟨(s.2.2 b e2 hb hb0).1, by unfold tw_ku; rw [if_neg (fun q => by rw [q, hn] at hb; cases hb)]; exact (s.2.2 b e2 hb hb0).2⟩⟩
/-- the numbers go on, no typed thing minds -/
theorem tw_sp.gw2 {d : tw_D} {g1 g2 : tw_G} {τ τ1 : tw_K} {h h1 : tw_H} (s : tw_sp d τ h g1 τ1 h1) (G : tw_gw2 τ1 g1 g2) : tw_sp d τ h g2 τ1 h1 := ⟨s.1.gw2 G, s.2.1, s.2.2⟩

/-! the class's methods over the typed heap. Laid by wip/p5/mkclass.py. -/
/-! CHANGE BY FEW COINS: what class and reference both find. F: how many of each kind; tw_ch f m l: the last m kinds make l. -/
abbrev tw_F : Type := Nat → Nat
def tw_sum5 (F : tw_F) : Nat := F 0 + F 1 + F 2 + F 3 + F 4
def tw_pick (A X : Option tw_F) : Option tw_F := match X with
  | none => A
  | some x => match A with
    | none => some x
    | some a => if tw_sum5 x < tw_sum5 a then some x else some a
def tw_bf (c : Nat → Option tw_F) : Nat → Option tw_F → Option tw_F
  | 0, A => A
  | n + 1, A => tw_bf c n (tw_pick A (c n))
def tw_fo (s : Nat → Option tw_F → Option tw_F) : Nat → Option tw_F → Option tw_F
  | 0, A => A
  | n + 1, A => tw_fo s n (s n A)
def tw_fu (F : tw_F) (k n : Nat) : tw_F := fun j => if j = k then n else F j
def tw_ch (f : tw_F) : Nat → Nat → Option tw_F
  | 0, l => if l = 0 then some (fun _ => 0) else none
  | m + 1, l => tw_bf (fun n => (tw_ch f m (l - n * tw_ps (4 - m))).map (fun F => tw_fu F (4 - m) n)) (min (f (4 - m)) (l / tw_ps (4 - m)) + 1) none
theorem tw_pick_n (Z : Option tw_F) : tw_pick none Z = Z := by cases Z <;> rfl
theorem tw_pick_as (A X Y : Option tw_F) : tw_pick (tw_pick A X) Y = tw_pick A (tw_pick X Y) := by
  cases Y with
  | none => rfl
  | some y =>
    cases X with
    | none => rfl
    | some x =>
      cases A with
      | none =>
        rw [tw_pick_n, tw_pick_n]
      | some a =>
        show tw_pick (if tw_sum5 x < tw_sum5 a then some x else some a) (some y) = tw_pick (some a) (if tw_sum5 y < tw_sum5 x then some y else some x)
        by_cases p : tw_sum5 x < tw_sum5 a
        · rw [if_pos p]
          by_cases q : tw_sum5 y < tw_sum5 x
          · rw [if_pos q]
            show (if tw_sum5 y < tw_sum5 x then some y else some x) = (if tw_sum5 y < tw_sum5 a then some y else some a)
            rw [if_pos q, if_pos (by omega)]
          · rw [if_neg q]
            show (if tw_sum5 y < tw_sum5 x then some y else some x) = (if tw_sum5 x < tw_sum5 a then some x else some a)
            rw [if_neg q, if_pos p]
        · rw [if_neg p]
          by_cases q : tw_sum5 y < tw_sum5 x
          · rw [if_pos q]
          · rw [if_neg q]
            show (if tw_sum5 y < tw_sum5 a then some y else some a) = (if tw_sum5 x < tw_sum5 a then some x else some a)
            rw [if_neg (by omega), if_neg p]
theorem tw_pick_or (A X : Option tw_F) : tw_pick A X = A ∨ tw_pick A X = X := by
  cases X with
  | none => exact Or.inl rfl
  | some x =>
    cases A with
    | none => exact Or.inr rfl
    | some a =>
      by_cases p : tw_sum5 x < tw_sum5 a
      · refine Or.inr ?_
        show (if tw_sum5 x < tw_sum5 a then some x else some a) = some x
        exact if_pos p
      · refine Or.inl ?_
        show (if tw_sum5 x < tw_sum5 a then some x else some a) = some a
        exact if_neg p
theorem tw_bf_p (c : Nat → Option tw_F) : ∀ n A, tw_bf c n A = tw_pick A (tw_bf c n none) := by
  intro n
  induction n with
  | zero => intro A; rfl
  | succ n ih =>
    intro A
    show tw_bf c n (tw_pick A (c n)) = tw_pick A (tw_bf c n (tw_pick none (c n)))
    rw [ih (tw_pick A (c n)), ih (tw_pick none (c n)), tw_pick_n, tw_pick_as]
theorem tw_pick_map {u : tw_F → tw_F} {k : Nat} {A X : Option tw_F} (hA : ∀ F, A = some F → tw_sum5 (u F) = tw_sum5 F + k) (hX : ∀ F, X = some F → tw_sum5 (u F) = tw_sum5 F + k) : (tw_pick A X).map u = tw_pick (A.map u) (X.map u) := by
  cases X with
  | none => rfl
  | some x =>
    cases A with
    | none => rfl
    | some a =>
      show Option.map u (if tw_sum5 x < tw_sum5 a then some x else some a) = (if tw_sum5 (u x) < tw_sum5 (u a) then some (u x) else some (u a))
      rw [hA a rfl, hX x rfl]
      by_cases p : tw_sum5 x < tw_sum5 a
      · rw [if_pos p, if_pos (by omega)]; rfl
      · rw [if_neg p, if_neg (by omega)]; rfl
theorem tw_bf_map {c : Nat → Option tw_F} {u : tw_F → tw_F} {k : Nat} (hc : ∀ i F, c i = some F → tw_sum5 (u F) = tw_sum5 F + k) : ∀ n A, (∀ F, A = some F → tw_sum5 (u F) = tw_sum5 F + k) → (tw_bf c n A).map u = tw_bf (fun i => (c i).map u) n (A.map u) := by
  intro n
  induction n with
  | zero => intro A _; rfl
  | succ n ih =>
    intro A hA
    have hp : ∀ F, tw_pick A (c n) = some F → tw_sum5 (u F) = tw_sum5 F + k := fun F hF => by
      rcases tw_pick_or A (c n) with z | z
      · exact hA F (z.symm.trans hF)
      · exact hc n F (z.symm.trans hF)
    show (tw_bf c n (tw_pick A (c n))).map u = tw_bf (fun i => (c i).map u) n (tw_pick (A.map u) ((c n).map u))
    rw [ih (tw_pick A (c n)) hp, tw_pick_map hA (hc n)]
theorem tw_bf_in {c : Nat → Option tw_F} : ∀ n A F, tw_bf c n A = some F → A = some F ∨ ∃ i, i < n ∧ c i = some F := by
  intro n
  induction n with
  | zero => intro A F h; exact Or.inl h
  | succ n ih =>
    intro A F h
    rcases ih _ F h with z | ⟨i, hi, z⟩
    · rcases tw_pick_or A (c n) with y | y
      · exact Or.inl (y.symm.trans z)
      · exact Or.inr ⟨n, Nat.lt_succ_self n, y.symm.trans z⟩
    · exact Or.inr ⟨i, Nat.lt_succ_of_lt hi, z⟩
theorem tw_bf_st {c : Nat → Option tw_F} {a : tw_F} : ∀ n, (∀ i F, i < n → c i = some F → ¬ tw_sum5 F < tw_sum5 a) → tw_bf c n (some a) = some a := by
  intro n
  induction n with
  | zero => intro _; rfl
  | succ n ih =>
    intro h
    show tw_bf c n (tw_pick (some a) (c n)) = some a
    have e : tw_pick (some a) (c n) = some a := by
      cases z : c n with
      | none => rfl
      | some F =>
        show (if tw_sum5 F < tw_sum5 a then some F else some a) = some a
        exact if_neg (h n F (Nat.lt_succ_self n) z)
    rw [e]
    exact ih (fun i F hi => h i F (Nat.lt_succ_of_lt hi))
theorem tw_bf_no {c : Nat → Option tw_F} {A : Option tw_F} : ∀ n, (∀ i, i < n → c i = none) → tw_bf c n A = A := by
  intro n
  induction n with
  | zero => intro _; rfl
  | succ n ih =>
    intro h
    show tw_bf c n (tw_pick A (c n)) = A
    rw [h n (Nat.lt_succ_self n)]
    exact ih (fun i hi => h i (Nat.lt_succ_of_lt hi))
theorem tw_fo_bf {s : Nat → Option tw_F → Option tw_F} {c : Nat → Option tw_F} (h : ∀ n A, s n A = tw_pick A (c n)) : ∀ n A, tw_fo s n A = tw_bf c n A := by
  intro n
  induction n with
  | zero => intro A; rfl
  | succ n ih =>
    intro A
    show tw_fo s n (s n A) = tw_bf c n (tw_pick A (c n))
    rw [h, ih]
theorem tw_fu_sum {F : tw_F} {k n : Nat} (hk : k < 5) (h : F k = 0) : tw_sum5 (tw_fu F k n) = tw_sum5 F + n := by
  unfold tw_sum5 tw_fu
  rcases (show k = 0 ∨ k = 1 ∨ k = 2 ∨ k = 3 ∨ k = 4 by omega) with rfl | rfl | rfl | rfl | rfl
  · show n + F 1 + F 2 + F 3 + F 4 = _
    omega
  · show F 0 + n + F 2 + F 3 + F 4 = _
    omega
  · show F 0 + F 1 + n + F 3 + F 4 = _
    omega
  · show F 0 + F 1 + F 2 + n + F 4 = _
    omega
  · show F 0 + F 1 + F 2 + F 3 + n = _
    omega
theorem tw_ch_0 {f : tw_F} : ∀ m l F, tw_ch f m l = some F → (∀ j, j < 5 - m → F j = 0) ∧ ∀ j, F j ≤ f j := by
  intro m
  induction m with
  | zero =>
    intro l F h
    have h2 : (if l = 0 then some (fun _ => 0) else none) = some F := h
    by_cases q : l = 0
    · rw [if_pos q] at h2
      injection h2 with h2
      rw [← h2]
      exact ⟨fun _ _ => rfl, fun _ => Nat.zero_le _⟩
    · rw [if_neg q] at h2
      cases h2
  | succ m ih =>
    intro l F h
    rcases tw_bf_in _ _ _ h with z | ⟨i, hi, z⟩
    · cases z
    · have z2 : (tw_ch f m (l - i * tw_ps (4 - m))).map (fun F => tw_fu F (4 - m) i) = some F := z
      cases e : tw_ch f m (l - i * tw_ps (4 - m)) with
      | none => rw [e] at z2; cases z2
      | some G =>
        rw [e] at z2
        have z3 : tw_fu G (4 - m) i = F := by injection z2
        obtain ⟨a, b⟩ := ih _ G e
        rw [← z3]
        unfold tw_fu
        refine ⟨fun j hj => ?_, fun j => ?_⟩
        · rw [if_neg (by omega)]
          exact a j (by omega)
        · by_cases q : j = 4 - m
          · rw [if_pos q, q]
            omega
          · rw [if_neg q]
            exact b j
def tw_c4 (f : tw_F) (L : Nat) : Option tw_F := if L ≤ f 4 then some (fun j => if j = 4 then L else 0) else none
theorem tw_ch1 (f : tw_F) (L : Nat) : tw_ch f 1 L = tw_c4 f L := by
  show tw_bf (fun n => (tw_ch f 0 (L - n * tw_ps 4)).map (fun F => tw_fu F 4 n)) (min (f 4) (L / tw_ps 4) + 1) none = _
  have p : tw_ps 4 = 1 := rfl
  rw [p, Nat.div_one]
  have c0 : ∀ i, i < L → (tw_ch f 0 (L - i * 1)).map (fun F => tw_fu F 4 i) = none := fun i hi => by
    have e : tw_ch f 0 (L - i * 1) = none := if_neg (by omega)
    rw [e]
    rfl
  unfold tw_c4
  by_cases q : L ≤ f 4
  · rw [if_pos q, show min (f 4) L = L by omega]
    show tw_bf (fun n => (tw_ch f 0 (L - n * 1)).map (fun F => tw_fu F 4 n)) L (tw_pick none ((tw_ch f 0 (L - L * 1)).map (fun F => tw_fu F 4 L))) = _
    have e : tw_ch f 0 (L - L * 1) = some (fun _ => 0) := if_pos (by omega)
    rw [e]
    refine (tw_bf_no L c0).trans ?_
    rfl
  · rw [if_neg q]
    exact tw_bf_no _ (fun i hi => c0 i (by omega))
def tw_D34 (f : tw_F) (L : Nat) : tw_F := fun j => if j = 3 then min (f 3) (L / 2) else if j = 4 then L - min (f 3) (L / 2) * 2 else 0
def tw_c34 (f : tw_F) (L : Nat) : Option tw_F := if L - min (f 3) (L / 2) * 2 ≤ f 4 then some (tw_D34 f L) else none
theorem tw_ch2 (f : tw_F) (L : Nat) : tw_ch f 2 L = tw_c34 f L := by
  show tw_bf (fun n => (tw_ch f 1 (L - n * tw_ps 3)).map (fun F => tw_fu F 3 n)) (min (f 3) (L / tw_ps 3) + 1) none = _
  have p : tw_ps 3 = 2 := rfl
  rw [p]
  unfold tw_c34 tw_D34
  obtain ⟨D, eD⟩ : ∃ z, z = min (f 3) (L / 2) := ⟨_, rfl⟩
  rw [← eD]
  have hD : D * 2 ≤ L := by omega
  have c1 : ∀ i, (tw_ch f 1 (L - i * 2)).map (fun F => tw_fu F 3 i) = if L - i * 2 ≤ f 4 then some (tw_fu (fun j => if j = 4 then L - i * 2 else 0) 3 i) else none := fun i => by
    rw [tw_ch1]
    unfold tw_c4
    by_cases q : L - i * 2 ≤ f 4
    · rw [if_pos q, if_pos q]
      rfl
    · rw [if_neg q, if_neg q]
      rfl
  by_cases q : L - D * 2 ≤ f 4
  · rw [if_pos q]
    show tw_bf (fun n => (tw_ch f 1 (L - n * 2)).map (fun F => tw_fu F 3 n)) D (tw_pick none ((tw_ch f 1 (L - D * 2)).map (fun F => tw_fu F 3 D))) = _
    rw [c1 D, if_pos q]
    show tw_bf (fun n => (tw_ch f 1 (L - n * 2)).map (fun F => tw_fu F 3 n)) D (some (tw_fu (fun j => if j = 4 then L - D * 2 else 0) 3 D)) = some (tw_fu (fun j => if j = 4 then L - D * 2 else 0) 3 D)
    refine tw_bf_st D (fun i F hi hF => ?_)
    have hF2 := (c1 i).symm.trans hF
    by_cases r : L - i * 2 ≤ f 4
    · rw [if_pos r] at hF2
      injection hF2 with hF2
      rw [← hF2]
      have s : ∀ d e, tw_sum5 (tw_fu (fun j => if j = 4 then e else 0) 3 d) = d + e := fun d e => by
        show 0 + 0 + 0 + d + e = d + e
        omega
      rw [s, s]
      omega
    · rw [if_neg r] at hF2
      cases hF2
  · rw [if_neg q]
    refine tw_bf_no _ (fun i hi => ?_)
    rw [c1 i, if_neg (by omega)]
/-! the class's way: one best of all, over three loops -/
def tw_u2 (a b : Nat) (F : tw_F) : tw_F := tw_fu (tw_fu F 1 b) 0 a
def tw_xC (f : tw_F) (a b L c : Nat) : Option tw_F := ((tw_c34 f (L - c * 5)).map (fun F => tw_fu F 2 c)).map (tw_u2 a b)
def tw_sC (f : tw_F) (a b L : Nat) (A : Option tw_F) : Option tw_F := tw_bf (tw_xC f a b L) (min (f 2) (L / 5) + 1) A
def tw_sB (f : tw_F) (a L : Nat) (A : Option tw_F) : Option tw_F := tw_fo (fun b A => tw_sC f a b (L - b * 10) A) (min (f 1) (L / 10) + 1) A
def tw_sA (f : tw_F) (L : Nat) (A : Option tw_F) : Option tw_F := tw_fo (fun a A => tw_sB f a (L - a * 20) A) (min (f 0) (L / 20) + 1) A
theorem tw_sC_e (f : tw_F) (a b L : Nat) (A : Option tw_F) : tw_sC f a b L A = tw_pick A ((tw_ch f 3 L).map (tw_u2 a b)) := by
  unfold tw_sC
  rw [tw_bf_p]
  have e3 : tw_ch f 3 L = tw_bf (fun n => (tw_c34 f (L - n * 5)).map (fun F => tw_fu F 2 n)) (min (f 2) (L / 5) + 1) none := by
    show tw_bf (fun n => (tw_ch f 2 (L - n * 5)).map (fun F => tw_fu F 2 n)) (min (f 2) (L / 5) + 1) none = _
    rw [show (fun n => (tw_ch f 2 (L - n * 5)).map (fun F => tw_fu F 2 n)) = fun n => (tw_c34 f (L - n * 5)).map (fun F => tw_fu F 2 n) from funext fun n => by rw [tw_ch2]]
  rw [e3, tw_bf_map (k := a + b) ?_ _ none (fun F hF => by cases hF)]
  · rfl
  · intro i F hF
    have hF2 : (tw_ch f 2 (L - i * 5)).map (fun F => tw_fu F 2 i) = some F := by rw [tw_ch2]; exact hF
    cases e : tw_ch f 2 (L - i * 5) with
    | none => rw [e] at hF2; cases hF2
    | some G =>
      rw [e] at hF2
      have z3 : tw_fu G 2 i = F := by injection hF2
      have z := (tw_ch_0 _ _ _ e).1
      have z0 : F 0 = 0 := by rw [← z3]; exact z 0 (by decide)
      have z1 : F 1 = 0 := by rw [← z3]; exact z 1 (by decide)
      unfold tw_u2
      rw [tw_fu_sum (by decide) (by show F 0 = 0; exact z0), tw_fu_sum (by decide) z1]
      omega
theorem tw_sB_e (f : tw_F) (a L : Nat) (A : Option tw_F) : tw_sB f a L A = tw_pick A ((tw_ch f 4 L).map (fun F => tw_fu F 0 a)) := by
  unfold tw_sB
  rw [tw_fo_bf (c := fun b => (tw_ch f 3 (L - b * 10)).map (tw_u2 a b)) (fun b A => tw_sC_e f a b (L - b * 10) A), tw_bf_p]
  have e4 : tw_ch f 4 L = tw_bf (fun b => (tw_ch f 3 (L - b * 10)).map (fun F => tw_fu F 1 b)) (min (f 1) (L / 10) + 1) none := rfl
  rw [e4, tw_bf_map (k := a) ?_ _ none (fun F hF => by cases hF)]
  · have e5 : (fun b => ((tw_ch f 3 (L - b * 10)).map (fun F => tw_fu F 1 b)).map (fun F => tw_fu F 0 a)) = fun b => (tw_ch f 3 (L - b * 10)).map (tw_u2 a b) := funext fun b => by
      cases tw_ch f 3 (L - b * 10) <;> rfl
    rw [e5]
    rfl
  · intro i F hF
    cases e : tw_ch f 3 (L - i * 10) with
    | none => rw [e] at hF; cases hF
    | some G =>
      rw [e] at hF
      have z3 : tw_fu G 1 i = F := by injection hF
      have z := (tw_ch_0 _ _ _ e).1
      have z0 : F 0 = 0 := by rw [← z3]; exact z 0 (by decide)
      exact tw_fu_sum (by decide) z0
theorem tw_sA_e (f : tw_F) (L : Nat) : tw_sA f L none = tw_ch f 5 L := by
  unfold tw_sA
  rw [tw_fo_bf (c := fun a => (tw_ch f 4 (L - a * 20)).map (fun F => tw_fu F 0 a)) (fun a A => tw_sB_e f a (L - a * 20) A)]
  rfl
/-! as numbers of the machine -/
def tw_cdN (F : tw_F) : Nat := (((F 0 * 10 + F 1) * 10 + F 2) * 10 + F 3) * 10 + F 4
def tw_cd (A : Option tw_F) : Int32 := match A with
  | none => -1
  | some F => nI (tw_cdN F)
def tw_fw (A : Option tw_F) : Int32 := match A with
  | none => 46
  | some F => nI (tw_sum5 F)
def tw_ok9 (A : Option tw_F) : Prop := ∀ F, A = some F → tw_sum5 F ≤ 45
/-- the candidate is better or not -/
theorem tw_pick_lt {A : Option tw_F} {F : tw_F} (h : tw_ok9 A) (hF : tw_sum5 F ≤ 45) (c : ¬ tw_fw A ≤ nI (tw_sum5 F)) : tw_pick A (some F) = some F := by
  cases A with
  | none => rfl
  | some a =>
    show (if tw_sum5 F < tw_sum5 a then some F else some a) = some F
    refine if_pos ?_
    have h9 := h a rfl
    rcases Nat.lt_or_ge (tw_sum5 F) (tw_sum5 a) with q | q
    · exact q
    · exact absurd (nI_le q (by omega)) c
theorem tw_pick_ge {A : Option tw_F} {F : tw_F} (h : tw_ok9 A) (hF : tw_sum5 F ≤ 45) (c : tw_fw A ≤ nI (tw_sum5 F)) : tw_pick A (some F) = A := by
  cases A with
  | none =>
    have c2 : nI 46 ≤ nI (tw_sum5 F) := c
    exact absurd c2 (Int32.not_le.mpr (nI_lt (by omega) (by decide)))
  | some a =>
    show (if tw_sum5 F < tw_sum5 a then some F else some a) = some a
    refine if_neg ?_
    have h9 := h a rfl
    intro q
    exact absurd c (Int32.not_le.mpr (nI_lt q (by omega)))
/-! the numbers of a till -/
def tw_tl (g : tw_G) (b : Nat) : tw_F := fun j => if j < 5 then tw_DN (g.1 (b + j)) else 0
def tw_tn (f : Nat → Int32) : tw_F := fun j => if j < 5 then tw_DN (f j) else 0
def tw_gF (o : Option tw_F) : tw_F := match o with
  | some F => F
  | none => fun _ => 0
def tw_chC (g : tw_G) (n am : Int32) : Option tw_F := tw_ch (tw_tl g (160 + 64 * tw_DN n + 32)) 5 (tw_DN am)
def tw_chM (g : tw_G) (n am : Int32) : Option tw_F := tw_ch (tw_tl g (480 + 64 * tw_DN n + 24)) 5 (tw_DN am)
def tw_RA (am : Int32) : Prop := 1 ≤ am ∧ am ≤ 400
def tw_R9 (my : Int32) : Prop := 0 ≤ my ∧ my ≤ 9
def tw_TC (g : tw_G) : Prop := ∀ j, j < g.2 6 → ∀ k, k < 5 → 0 ≤ g.1 (160 + 64 * j + 32 + k) ∧ g.1 (160 + 64 * j + 32 + k) ≤ 9
theorem tw_9 {x : Int32} (h1 : 0 ≤ x) (h2 : x ≤ 9) : tw_DN x ≤ 9 ∧ x = nI (tw_DN x) := by
  obtain ⟨n, -, h, rfl⟩ := tw_I_rng (a := 0) (b := 9) h1 h2 (by decide) (by decide)
  rw [show tw_DN (nI n) = n from nI_clamp (by omega)]
  exact ⟨h, rfl⟩
theorem tw_tl9 {g : tw_G} {b : Nat} (h : ∀ k, k < 5 → 0 ≤ g.1 (b + k) ∧ g.1 (b + k) ≤ 9) : ∀ k, tw_tl g b k ≤ 9 := by
  intro k
  unfold tw_tl
  by_cases q : k < 5
  · rw [if_pos q]
    exact (tw_9 (h k q).1 (h k q).2).1
  · rw [if_neg q]
    decide
theorem tw_tn9 {f : Nat → Int32} (h : ∀ k, 0 ≤ f k ∧ f k ≤ 9) : ∀ k, tw_tn f k ≤ 9 := by
  intro k
  unfold tw_tn
  by_cases q : k < 5
  · rw [if_pos q]
    exact (tw_9 (h k).1 (h k).2).1
  · rw [if_neg q]
    decide
theorem tw_tntl {g : tw_G} {b : Nat} {f : Nat → Int32} (h : ∀ k, k < 5 → f k = g.1 (b + k)) : tw_tn f = tw_tl g b := by
  funext k
  unfold tw_tn tw_tl
  by_cases q : k < 5
  · rw [if_pos q, if_pos q, h k q]
  · rw [if_neg q, if_neg q]
theorem tw_tl_congr {g g' : tw_G} {a b : Nat} (h : ∀ k, k < 5 → g.1 (a + k) = g'.1 (b + k)) : tw_tl g a = tw_tl g' b := by
  funext k
  unfold tw_tl
  by_cases q : k < 5
  · rw [if_pos q, if_pos q, h k q]
  · rw [if_neg q, if_neg q]
theorem tw_s45 {f F : tw_F} (hf : ∀ k, f k ≤ 9) (h : ∀ k, F k ≤ f k) : tw_sum5 F ≤ 45 := by
  have a0 := h 0
  have a1 := h 1
  have a2 := h 2
  have a3 := h 3
  have a4 := h 4
  have b0 := hf 0
  have b1 := hf 1
  have b2 := hf 2
  have b3 := hf 3
  have b4 := hf 4
  unfold tw_sum5
  omega
theorem tw_minX {x v : Int32} {b : Nat} (h0 : 0 ≤ x) (h9 : x ≤ 9) (hb : b ≤ 400) (e : v = if nI b < x then nI b else x) : v = nI (min (tw_DN x) b) := by
  obtain ⟨a, ex⟩ := tw_9 h0 h9
  obtain ⟨n, en⟩ : ∃ z, z = tw_DN x := ⟨_, rfl⟩
  rw [← en] at a ex ⊢
  rw [ex] at e
  by_cases q : nI b < nI n
  · rw [if_pos q] at e
    have := (nI_ltI (by omega) (by omega)).mp q
    rw [e, show min n b = b by omega]
  · rw [if_neg q] at e
    have : ¬ b < n := fun z => q ((nI_ltI (by omega) (by omega)).mpr z)
    rw [e, show min n b = n by omega]
theorem tw_nimul {a b : Nat} : nI a * nI b = nI (a * b) := (Int32.ofNat_mul a b).symm
theorem tw_I_div {a b : Nat} (ha : a < 2 ^ 31) (hb : b < 2 ^ 31) : nI a / nI b = nI (a / b) := by
  have l : a / b ≤ a := Nat.div_le_self a b
  refine tw_I_of ?_ (by omega)
  rw [Int32.toInt_div, nI_toInt ha, nI_toInt hb]
  have e : Int.tdiv (a : Int) b = ((a / b : Nat) : Int) := by simp
  rw [e]
  clear e
  generalize a / b = c at l ⊢
  apply Int.bmod_eq_of_le_mul_two <;> omega
theorem tw_dm {A e : Nat} (he : e ≤ 9) (hA : A ≤ 100000) : nI (A * 10 + e) / 10 = nI A ∧ nI (A * 10 + e) - nI (A * 10 + e) / 10 * 10 = nI e := by
  have d : nI (A * 10 + e) / 10 = nI A := by
    have z := tw_I_div (a := A * 10 + e) (b := 10) (by omega) (by decide)
    rw [show (A * 10 + e) / 10 = A by omega] at z
    exact z
  refine ⟨d, ?_⟩
  rw [d]
  have z : nI A * 10 = nI (A * 10) := tw_nimul (b := 10)
  rw [z, tw_I_sub (by omega) (by omega), show A * 10 + e - A * 10 = e by omega]
theorem tw_gT_n {g : tw_G} {b : Nat} {F : tw_F} : tw_g1 (tw_g1 (tw_g1 (tw_g1 (tw_g1 g (b + 4) (g.1 (b + 4) - nI (F 4))) (b + 3) (g.1 (b + 3) - nI (F 3))) (b + 2) (g.1 (b + 2) - nI (F 2))) (b + 1) (g.1 (b + 1) - nI (F 1))) (b + 0) (g.1 (b + 0) - nI (F 0)) = tw_gT g b F := by
  refine Prod.ext (funext fun i => ?_) rfl
  show (if i = b + 0 then _ else if i = b + 1 then _ else if i = b + 2 then _ else if i = b + 3 then _ else if i = b + 4 then _ else g.1 i) = if b ≤ i ∧ i < b + 5 then g.1 i - nI (F (i - b)) else g.1 i
  by_cases q : b ≤ i ∧ i < b + 5
  · rw [if_pos q]
    obtain ⟨k, rfl⟩ : ∃ k, i = b + k := ⟨i - b, by omega⟩
    rw [show b + k - b = k by omega]
    rcases (show k = 0 ∨ k = 1 ∨ k = 2 ∨ k = 3 ∨ k = 4 by omega) with rfl | rfl | rfl | rfl | rfl
    · rw [if_pos rfl]
    · rw [if_neg (by omega), if_pos rfl]
    · rw [if_neg (by omega), if_neg (by omega), if_pos rfl]
    · rw [if_neg (by omega), if_neg (by omega), if_neg (by omega), if_pos rfl]
    · rw [if_neg (by omega), if_neg (by omega), if_neg (by omega), if_neg (by omega), if_pos rfl]
  · rw [if_neg q, if_neg (by omega), if_neg (by omega), if_neg (by omega), if_neg (by omega), if_neg (by omega)]
theorem tw_gT_m {g : tw_G} {b : Nat} {F : tw_F} : tw_g1 (tw_g1 (tw_g1 (tw_g1 (tw_g1 g (b + 0) (g.1 (b + 0) - nI (F 0))) (b + 1) (g.1 (b + 1) - nI (F 1))) (b + 2) (g.1 (b + 2) - nI (F 2))) (b + 3) (g.1 (b + 3) - nI (F 3))) (b + 4) (g.1 (b + 4) - nI (F 4)) = tw_gT g b F := by
  refine Prod.ext (funext fun i => ?_) rfl
  show (if i = b + 4 then _ else if i = b + 3 then _ else if i = b + 2 then _ else if i = b + 1 then _ else if i = b + 0 then _ else g.1 i) = if b ≤ i ∧ i < b + 5 then g.1 i - nI (F (i - b)) else g.1 i
  by_cases q : b ≤ i ∧ i < b + 5
  · rw [if_pos q]
    obtain ⟨k, rfl⟩ : ∃ k, i = b + k := ⟨i - b, by omega⟩
    rw [show b + k - b = k by omega]
    rcases (show k = 0 ∨ k = 1 ∨ k = 2 ∨ k = 3 ∨ k = 4 by omega) with rfl | rfl | rfl | rfl | rfl
    · rw [if_neg (by omega), if_neg (by omega), if_neg (by omega), if_neg (by omega), if_pos rfl]
    · rw [if_neg (by omega), if_neg (by omega), if_neg (by omega), if_pos rfl]
    · rw [if_neg (by omega), if_neg (by omega), if_pos rfl]
    · rw [if_neg (by omega), if_pos rfl]
    · rw [if_pos rfl]
  · rw [if_neg q, if_neg (by omega), if_neg (by omega), if_neg (by omega), if_neg (by omega), if_neg (by omega)]
theorem tw_cdN_9 {F : tw_F} (h : ∀ k, F k ≤ 9) : tw_cdN F ≤ 99999 := by
  have a0 := h 0
  have a1 := h 1
  have a2 := h 2
  have a3 := h 3
  have a4 := h 4
  unfold tw_cdN
  omega
theorem tw_cd_n {A : Option tw_F} (h : ∀ F, A = some F → ∀ k, F k ≤ 9) : tw_cd A = -1 ↔ A = none := by
  cases A with
  | none => exact ⟨fun _ => rfl, fun _ => rfl⟩
  | some F =>
    refine ⟨fun z => ?_, fun z => by cases z⟩
    have z2 : nI (tw_cdN F) = -1 := z
    have b := tw_cdN_9 (h F rfl)
    have z3 := congrArg Int32.toInt z2
    rw [nI_toInt (by omega), show (-1 : Int32).toInt = -1 by decide] at z3
    omega
theorem tw_ch9 {f : tw_F} {m l : Nat} (hf : ∀ k, f k ≤ 9) : ∀ F, tw_ch f m l = some F → ∀ k, F k ≤ 9 := fun F hF k => Nat.le_trans ((tw_ch_0 _ _ _ hF).2 k) (hf k)
theorem tw_gF_some {o : Option tw_F} (h : o ≠ none) : o = some (tw_gF o) := by
  cases o with
  | none => exact absurd rfl h
  | some F => rfl
theorem tw_ix5 {k : Int32} (c1 : ¬ k < 0) (c2 : ¬ 5 ≤ k) : ∃ j, j < 5 ∧ k = nI j := by
  obtain ⟨j, hj, rfl⟩ := nI_of c1
  refine ⟨j, ?_, rfl⟩
  rcases Nat.lt_or_ge j 5 with q | q
  · exact q
  · exact absurd (nI_le (a := 5) q hj) c2
/-! the reference's way: what a call of best brings -/
def tw_bR (d : tw_D) (h h1 : tw_H) (r : Option Nat) (X : Option tw_F) : Prop := (r = none ∧ X = none) ∨ ∃ (q : Nat) (F : Nat → Int32) (G : tw_F), r = some q ∧ X = some G ∧ h q = none ∧ h1 q = some (.inl (d.2 0, 5, .inl F)) ∧ ∀ j, j < 5 → F j = nI (G j)
theorem tw_bR.n {d : tw_D} {h h1 : tw_H} {X : Option tw_F} (a : tw_bR d h h1 none X) : X = none := by
  rcases a with ⟨-, e⟩ | ⟨q, F, G, e, -⟩
  · exact e
  · cases e
theorem tw_bR.s {d : tw_D} {h h1 : tw_H} {q : Nat} {X : Option tw_F} (a : tw_bR d h h1 (some q) X) : ∃ (F : Nat → Int32) (G : tw_F), X = some G ∧ h q = none ∧ h1 q = some (.inl (d.2 0, 5, .inl F)) ∧ ∀ j, j < 5 → F j = nI (G j) := by
  rcases a with ⟨e, -⟩ | ⟨q1, F, G, e, a, b, c, z⟩
  · cases e
  · cases e
    exact ⟨F, G, a, b, c, z⟩
theorem tw_fuI {F : Nat → Int32} {G : tw_F} {k n : Nat} (h : ∀ j, j < 5 → F j = nI (G j)) : ∀ j, j < 5 → upd F k (nI n) j = nI (tw_fu G k n j) := by
  intro j hj
  unfold upd tw_fu
  by_cases q : j = k
  · rw [if_pos q, if_pos q]
  · rw [if_neg q, if_neg q, h j hj]
theorem tw_chR (f : tw_F) {m k : Nat} (hk : k + m = 4) (l : Nat) : tw_ch f (m + 1) l = tw_bf (fun n => (tw_ch f m (l - n * tw_ps k)).map (fun F => tw_fu F k n)) (min (f k) (l / tw_ps k) + 1) none := by
  obtain rfl : k = 4 - m := by omega
  rfl
theorem tw_bR.mono {d : tw_D} {h h1 h2 : tw_H} {r : Option Nat} {X : Option tw_F} (a : tw_bR d h h1 r X) (w : tw_gw h1 h2) : tw_bR d h h2 r X := by
  rcases a with a | ⟨q, F, G, a1, a2, a3, a4, a5⟩
  · exact Or.inl a
  · exact Or.inr ⟨q, F, G, a1, a2, a3, w _ _ a4, a5⟩
theorem tw_fu45 {f G : tw_F} {k n : Nat} (hf : ∀ j, f j ≤ 9) (hG : ∀ j, G j ≤ f j) (hn : n ≤ f k) : tw_sum5 (tw_fu G k n) ≤ 45 := tw_s45 hf (fun j => by
  unfold tw_fu
  by_cases q : j = k
  · rw [if_pos q, q]; exact hn
  · rw [if_neg q]; exact hG j)
theorem tw_gw.th {h h1 : tw_H} (w : tw_gw h h1) {x : Nat} (hs : h x ≠ none) : h1 x = h x := by
  cases e : h x with
  | none => exact absurd e hs
  | some y => exact w x y e
theorem tw_bh {l a p : Nat} (h : a * p ≤ l) (hl : l < 2 ^ 31) : nI l - nI p * nI a = nI (l - a * p) := by
  rw [tw_nimul, Nat.mul_comm p a]
  exact tw_I_sub hl h
theorem tw_cdI {a b c d e : Nat} : nI a * 10000 + nI b * 1000 + nI c * 100 + nI d * 10 + nI e = nI ((((a * 10 + b) * 10 + c) * 10 + d) * 10 + e) := by
  have k1 : nI a * 10000 = nI (a * 10000) := tw_nimul (b := 10000)
  have k2 : nI b * 1000 = nI (b * 1000) := tw_nimul (b := 1000)
  have k3 : nI c * 100 = nI (c * 100) := tw_nimul (b := 100)
  have k4 : nI d * 10 = nI (d * 10) := tw_nimul (b := 10)
  rw [k1, k2, k3, k4, tw_niadd, tw_niadd, tw_niadd, tw_niadd]
  exact congrArg nI (by omega)
theorem tw_smI {a b c d e : Nat} : nI a + nI b + nI c + nI d + nI e = nI (a + b + c + d + e) := by
  rw [tw_niadd, tw_niadd, tw_niadd, tw_niadd]
theorem tw_smI0 {a b c d e : Nat} : 0 + nI a + nI b + nI c + nI d + nI e = nI (a + b + c + d + e) := by
  have z : (0 : Int32) = nI 0 := rfl
  rw [z, tw_niadd, tw_niadd, tw_niadd, tw_niadd, tw_niadd, Nat.zero_add]
theorem tw_dm0 {e : Nat} (he : e ≤ 9) : nI e / 10 = nI 0 ∧ nI e - nI e / 10 * 10 = nI e := by
  have z := tw_dm (A := 0) he (by decide)
  rw [show 0 * 10 + e = e by omega] at z
  exact z
theorem tw_tsub {g : tw_G} {B : Nat} {GA : tw_F} (u : ∀ k, k < 5 → 0 ≤ g.1 (B + k) ∧ g.1 (B + k) ≤ 9) (k : Nat) (hk : k < 5) (gle : ∀ k, GA k ≤ tw_tl g B k) : 0 ≤ g.1 (B + k) - nI (GA k) ∧ g.1 (B + k) - nI (GA k) ≤ 9 := by
  have a := tw_9 (u k hk).1 (u k hk).2
  have b := gle k
  unfold tw_tl at b
  rw [if_pos hk] at b
  exact tw_gsub (u k hk).1 (u k hk).2 (nI_pos' (by omega)) (by rw [a.2]; exact nI_le b (by omega)) rfl

set_option maxHeartbeats 4000000 in
set_option maxRecDepth 100000 in
theorem c2_X4_manyOf (d : tw_D) (g : tw_G) (τ : tw_K) (h : tw_H) (hw : tw_wt d g τ h) (x : Nat) (kx : τ x = 5) (j : Nat) (hj : j < 4) (hb : g.2 (4096 + x) = 160 + 64 * j + 32) (i : Nat) (hi : i < 5) : tw_Ct d mX4_manyOf 0 0 [.ref x, .int (nI i)] h (tw_qi (fun r h1 => h1 = h ∧ r = g.1 (160 + 64 * j + 32 + i)) tw_nx) := by
  refine tw_of (by decide +kernel) (Nat.le_of_ble_eq_true rfl) ?_
  show tw_W d mX4_manyOf _ 0 [(0, .ref x), (1, .int (nI i))] [] h 0 0
  have sp0 := tw_sp.rf hw
  refine tw_iload_n 1 dX4_manyOf_0 rfl rfl ?_
  refine tw_if_lt 22 dX4_manyOf_1 (by decide) (fun c1 => absurd c1 (nI_pos (by omega))) (fun _ => ?_)
  refine tw_iload_n 1 dX4_manyOf_4 rfl rfl ?_
  refine tw_aload_n 0 dX4_manyOf_5 rfl rfl ?_
  obtain ⟨e2, f3, m_4, rfl, k5, k6⟩ := sp0.1 x 5 kx (by decide)
  refine tw_get (v := .ref m_4) rfl in_8 0 dX4_manyOf_6 w_496 rfl (by decide) f3 rfl ?_
  obtain ⟨e7, f8, F9, rfl, ⟨b11, ow12, wv13⟩⟩ := sp0.1 m_4 7 k5 (by decide)
  obtain rfl : b11 = (160 + 64 * j + 32) := ow12.b (k6.trans hb)
  refine tw_alen (v := nI 5) 0 rfl dX4_manyOf_9 f8 rfl ?_
  refine tw_icmp_ge 22 dX4_manyOf_10 (by decide) (fun c14 => absurd c14 (Int32.not_le.mpr (nI_lt hi (by decide)))) (fun _ => ?_)
  refine tw_aload_n 0 dX4_manyOf_13 rfl rfl ?_
  refine tw_get (v := .ref m_4) rfl in_8 0 dX4_manyOf_14 w_496 rfl (by decide) f3 rfl ?_
  refine tw_iload_n 1 dX4_manyOf_17 rfl rfl ?_
  have ev15 : F9 ((nI i)).toNatClampNeg = (g.1 ((160 + 64 * j + 32) + i)) := by rw [nI_clamp (by omega)]; exact wv13 i (by omega)
  refine tw_iald (v := (g.1 ((160 + 64 * j + 32) + i))) dX4_manyOf_18 f8 (vp_in_nI (by omega) (by decide)) ev15 ?_
  refine tw_goto 23 dX4_manyOf_19 (by decide) ?_
  exact tw_iret dX4_manyOf_23 rfl (Or.inl ⟨_, rfl, rfl, rfl⟩)

set_option maxHeartbeats 4000000 in
set_option maxRecDepth 100000 in
theorem c2_X4_setMany (d : tw_D) (g : tw_G) (τ : tw_K) (h : tw_H) (hw : tw_wt d g τ h) (x : Nat) (kx : τ x = 5) (j : Nat) (hj : j < 4) (hb : g.2 (4096 + x) = 160 + 64 * j + 32) (i : Nat) (hi : i < 5) (v : Int32) : tw_Ct d mX4_setMany 0 0 [.ref x, .int (nI i), .int v] h (tw_qv (fun h1 => tw_sp d τ h (tw_g1 g (160 + 64 * j + 32 + i) v) τ h1) tw_nx) := by
  refine tw_of (by decide +kernel) (Nat.le_of_ble_eq_true rfl) ?_
  show tw_W d mX4_setMany _ 0 [(0, .ref x), (1, .int (nI i)), (2, .int v)] [] h 0 0
  have sp0 := tw_sp.rf hw
  refine tw_iload_n 1 dX4_setMany_0 rfl rfl ?_
  refine tw_if_lt 20 dX4_setMany_1 (by decide) (fun c1 => absurd c1 (nI_pos (by omega))) (fun _ => ?_)
  refine tw_iload_n 1 dX4_setMany_4 rfl rfl ?_
  refine tw_aload_n 0 dX4_setMany_5 rfl rfl ?_
  obtain ⟨e2, f3, m_4, rfl, k5, k6⟩ := sp0.1 x 5 kx (by decide)
  refine tw_get (v := .ref m_4) rfl in_8 0 dX4_setMany_6 w_496 rfl (by decide) f3 rfl ?_
  obtain ⟨e7, f8, F9, rfl, ⟨b11, ow12, wv13⟩⟩ := sp0.1 m_4 7 k5 (by decide)
  obtain rfl : b11 = (160 + 64 * j + 32) := ow12.b (k6.trans hb)
  refine tw_alen (v := nI 5) 0 rfl dX4_setMany_9 f8 rfl ?_
  refine tw_icmp_ge 20 dX4_setMany_10 (by decide) (fun c14 => absurd c14 (Int32.not_le.mpr (nI_lt hi (by decide)))) (fun _ => ?_)
  refine tw_aload_n 0 dX4_setMany_13 rfl rfl ?_
  refine tw_get (v := .ref m_4) rfl in_8 0 dX4_setMany_14 w_496 rfl (by decide) f3 rfl ?_
  refine tw_iload_n 1 dX4_setMany_17 rfl rfl ?_
  refine tw_iload_n 2 dX4_setMany_18 rfl rfl ?_
  refine tw_iast dX4_setMany_19 f8 (vp_in_nI (by omega) (by decide)) ?_
  rw [nI_clamp (by omega)]
  obtain ⟨h15, eh15⟩ : ∃ z : tw_H, z = tw_up h m_4 (.inl (d.2 0, 5, .inl (upd F9 i v))) := ⟨_, rfl⟩
  rw [← eh15]
  have sp16 : tw_sp d τ h (tw_g1 g ((160 + 64 * j + 32) + i) v) τ h15 := by rw [eh15]; exact sp0.wb k5 (by decide) ow12 ⟨_, rfl, tw_f6.up ow12 wv13⟩ (fun q9 hq9 => tw_g1_ne (by omega)) rfl
  exact tw_vret dX4_setMany_20 rfl (Or.inl ⟨rfl, sp16⟩)

set_option maxHeartbeats 4000000 in
set_option maxRecDepth 100000 in
theorem c2_X4_fewestFor (d : tw_D) (g : tw_G) (τ : tw_K) (h : tw_H) (hw : tw_wt d g τ h) (x : Nat) (kx : τ x = 5) (j : Nat) (hj : j < 4) (hb : g.2 (4096 + x) = 160 + 64 * j + 32) (l : Nat) (hl : l ≤ 400) (ht : ∀ k, k < 5 → 0 ≤ g.1 (160 + 64 * j + 32 + k) ∧ g.1 (160 + 64 * j + 32 + k) ≤ 9) : tw_Ct d mX4_fewestFor 0 0 [.ref x, .int (nI l)] h (tw_qi (fun r h1 => h1 = h ∧ r = tw_cd (tw_ch (tw_tl g (160 + 64 * j + 32)) 5 l)) tw_nx) := by
  refine tw_of (by decide +kernel) (Nat.le_of_ble_eq_true rfl) ?_
  show tw_W d mX4_fewestFor _ 0 [(0, .ref x), (1, .int (nI l))] [] h 0 0
  have sp0 := tw_sp.rf hw
  obtain ⟨f, ef⟩ : ∃ z, z = tw_tl g (160 + 64 * j + 32) := ⟨_, rfl⟩
  have hf0 : f 0 = tw_DN (g.1 (160 + 64 * j + 32 + 0)) := by rw [ef]; rfl
  have hf1 : f 1 = tw_DN (g.1 (160 + 64 * j + 32 + 1)) := by rw [ef]; rfl
  have hf2 : f 2 = tw_DN (g.1 (160 + 64 * j + 32 + 2)) := by rw [ef]; rfl
  have hf3 : f 3 = tw_DN (g.1 (160 + 64 * j + 32 + 3)) := by rw [ef]; rfl
  have hf4 : f 4 = tw_DN (g.1 (160 + 64 * j + 32 + 4)) := by rw [ef]; rfl
  have hf9 : ∀ k, f k ≤ 9 := by rw [ef]; exact tw_tl9 ht
  refine tw_iconst (v := -1) dX4_fewestFor_0 (by decide) ?_
  refine tw_istore_n [(2, .int (-1)), (0, .ref x), (1, .int (nI l))] dX4_fewestFor_1 rfl (by decide) rfl ?_
  refine tw_bipush (v := 46) dX4_fewestFor_2 (by decide) ?_
  refine tw_istore_n [(3, .int 46), (2, .int (-1)), (0, .ref x), (1, .int (nI l))] dX4_fewestFor_4 rfl (by decide) rfl ?_
  refine tw_aload_n 2 dX4_fewestFor_5 rfl rfl ?_
  refine tw_iconst (v := 0) dX4_fewestFor_6 (by decide) ?_
  obtain ⟨e1, f2, m_3, rfl, k4, k5⟩ := sp0.1 x 5 kx (by decide)
  refine tw_bi (tw_callV (M := mX4_fewestFor) (pc := 7) okX4_manyOf dX4_fewestFor_7 w_277 rfl f2 [.int 0] [] rfl rfl ⟨by decide, by decide⟩ (Nat.le_of_ble_eq_true rfl) (c2_X4_manyOf d g τ h sp0.1 x kx j hj hb 0 (by decide)) 0 0 (Nat.le_of_ble_eq_true rfl) (Nat.le_of_ble_eq_true rfl)) (fun r8 h7 q6 => ?_) (fun E h1 q => q.elim)
  obtain ⟨q6e, q6v⟩ := q6
  rw [q6e]
  refine tw_iload_n 3 dX4_fewestFor_10 rfl rfl ?_
  refine tw_bipush (v := 20) dX4_fewestFor_11 (by decide) ?_
  refine tw_idiv dX4_fewestFor_13 (by decide) ?_
  refine tw_nmi (fun v9 ev9 => ?_)
  have yq : v9 = nI (l / 20) := by rw [ev9]; exact tw_I_div (b := 20) (by omega) (by decide)
  subst yq
  refine tw_mmin dX4_fewestFor_14 w_289 w_290 w_93 w_291 ⟨by decide, Nat.le_of_ble_eq_true rfl⟩ ?_
  refine tw_nmi (fun v10 ev10 => ?_)
  have mq := tw_minX (by rw [q6v]; exact (ht 0 (by decide)).1) (by rw [q6v]; exact (ht 0 (by decide)).2) (by omega) ev10
  obtain ⟨aM, eaM⟩ : ∃ z, z = min (f 0) (l / 20) := ⟨_, rfl⟩
  have mr : v10 = nI aM := by rw [mq, eaM, q6v, hf0]
  clear mq
  subst mr
  refine tw_istore [(4, .int (nI aM)), (3, .int 46), (2, .int (-1)), (0, .ref x), (1, .int (nI l))] dX4_fewestFor_17 (by decide) rfl ?_
  have Ma : ∀ (n : Nat) (A1 : Option tw_F), n ≤ aM + 1 → tw_ok9 A1 → tw_fo (fun a A => tw_sB f a (l - a * 20) A) n A1 = tw_ch f 5 l → tw_W d mX4_fewestFor (tw_qi (fun r h1 => h1 = h ∧ r = tw_cd (tw_ch (tw_tl g (160 + 64 * j + 32)) 5 l)) tw_nx) 19 [(4, .int (nI n + (-1))), (2, .int (tw_cd A1)), (3, .int (tw_fw A1)), (0, .ref x), (1, .int (nI l))] [] h 0 0 := by
    intro n
    induction n with
    | zero =>
      intro A1 hna hAa hRa
      refine tw_iload 0 dX4_fewestFor_19 rfl ?_
      refine tw_if_lt 204 dX4_fewestFor_21 (by decide) (fun _ => ?_) (fun c11 => absurd (by decide) c11)
      refine tw_iload_n 1 dX4_fewestFor_204 rfl rfl ?_
      exact tw_iret dX4_fewestFor_205 rfl (Or.inl ⟨_, rfl, rfl, by rw [← ef]; exact congrArg tw_cd (show A1 = tw_ch f 5 l from hRa)⟩)
    | succ a9 ih1 =>
      intro A1 hna hAa hRa
      rw [tw_nIm1 a9]
      refine tw_iload 0 dX4_fewestFor_19 rfl ?_
      refine tw_if_lt 204 dX4_fewestFor_21 (by decide) (fun c12 => absurd c12 (nI_pos (by omega))) (fun _ => ?_)
      refine tw_iload_n 4 dX4_fewestFor_24 rfl rfl ?_
      refine tw_bipush (v := 20) dX4_fewestFor_25 (by decide) ?_
      refine tw_iload 0 dX4_fewestFor_27 rfl ?_
      refine tw_imul dX4_fewestFor_29 ?_
      refine tw_nmi (fun v13 ev13 => ?_)
      refine tw_isub dX4_fewestFor_30 ?_
      refine tw_nmi (fun v14 ev14 => ?_)
      have bh : v14 = nI (l - a9 * 20) := by rw [ev14, ev13]; exact tw_bh (p := 20) (by omega) (by omega)
      obtain ⟨L2, eL2⟩ : ∃ z, z = l - a9 * 20 := ⟨_, rfl⟩
      rw [← eL2] at bh
      have hL2 : L2 ≤ 400 := by omega
      subst bh
      refine tw_istore [(5, .int (nI L2)), (4, .int (nI a9)), (2, .int (tw_cd A1)), (3, .int (tw_fw A1)), (0, .ref x), (1, .int (nI l))] dX4_fewestFor_31 (by decide) rfl ?_
      refine tw_aload_n 4 dX4_fewestFor_33 rfl rfl ?_
      refine tw_iconst (v := 1) dX4_fewestFor_34 (by decide) ?_
      obtain ⟨e15, f16, m_17, rfl, k18, k19⟩ := sp0.1 x 5 kx (by decide)
      refine tw_bi (tw_callV (M := mX4_fewestFor) (pc := 35) okX4_manyOf dX4_fewestFor_35 w_277 rfl f16 [.int 1] [] rfl rfl ⟨by decide, by decide⟩ (Nat.le_of_ble_eq_true rfl) (c2_X4_manyOf d g τ h sp0.1 x kx j hj hb 1 (by decide)) 0 0 (Nat.le_of_ble_eq_true rfl) (Nat.le_of_ble_eq_true rfl)) (fun r22 h21 q20 => ?_) (fun E h1 q => q.elim)
      obtain ⟨q20e, q20v⟩ := q20
      rw [q20e]
      refine tw_iload 0 dX4_fewestFor_38 rfl ?_
      refine tw_bipush (v := 10) dX4_fewestFor_40 (by decide) ?_
      refine tw_idiv dX4_fewestFor_42 (by decide) ?_
      refine tw_nmi (fun v23 ev23 => ?_)
      have yq : v23 = nI (L2 / 10) := by rw [ev23]; exact tw_I_div (b := 10) (by omega) (by decide)
      subst yq
      refine tw_mmin dX4_fewestFor_43 w_289 w_290 w_93 w_291 ⟨by decide, Nat.le_of_ble_eq_true rfl⟩ ?_
      refine tw_nmi (fun v24 ev24 => ?_)
      have mq := tw_minX (by rw [q20v]; exact (ht 1 (by decide)).1) (by rw [q20v]; exact (ht 1 (by decide)).2) (by omega) ev24
      obtain ⟨bM, ebM⟩ : ∃ z, z = min (f 1) (L2 / 10) := ⟨_, rfl⟩
      have mr : v24 = nI bM := by rw [mq, ebM, q20v, hf1]
      clear mq
      subst mr
      refine tw_istore [(6, .int (nI bM)), (5, .int (nI L2)), (4, .int (nI a9)), (2, .int (tw_cd A1)), (3, .int (tw_fw A1)), (0, .ref x), (1, .int (nI l))] dX4_fewestFor_46 (by decide) rfl ?_
      have Mb : ∀ (n : Nat) (A2 : Option tw_F), n ≤ bM + 1 → tw_ok9 A2 → tw_fo (fun a A => tw_sB f a (l - a * 20) A) a9 (tw_fo (fun b A => tw_sC f a9 b (L2 - b * 10) A) n A2) = tw_ch f 5 l → tw_W d mX4_fewestFor (tw_qi (fun r h1 => h1 = h ∧ r = tw_cd (tw_ch (tw_tl g (160 + 64 * j + 32)) 5 l)) tw_nx) 48 [(6, .int (nI n + (-1))), (2, .int (tw_cd A2)), (3, .int (tw_fw A2)), (0, .ref x), (1, .int (nI l)), (4, .int (nI a9)), (5, .int (nI L2))] [] h 0 0 := by
        intro n
        induction n with
        | zero =>
          intro A2 hnb hAb hRb
          refine tw_iload 0 dX4_fewestFor_48 rfl ?_
          refine tw_if_lt 198 dX4_fewestFor_50 (by decide) (fun _ => ?_) (fun c25 => absurd (by decide) c25)
          obtain ⟨v26, ev26⟩ : ∃ y : Int32, y = (nI a9) + (-1) := ⟨_, rfl⟩
          refine tw_iinc [(4, .int v26), (6, .int (nI 0 + (-1))), (2, .int (tw_cd A2)), (3, .int (tw_fw A2)), (0, .ref x), (1, .int (nI l)), (5, .int (nI L2))] 5 dX4_fewestFor_198 rfl (by rw [ev26]; rfl) (by decide) rfl ?_
          refine tw_goto 19 dX4_fewestFor_201 (by decide) ?_
          rw [ev26]
          refine tw_lv [0, 2, 3, 4, 5] rfl ?_
          exact ih1 A2 (by omega) hAb (hRb)
        | succ b9 ih2 =>
          intro A2 hnb hAb hRb
          rw [tw_nIm1 b9]
          refine tw_iload 0 dX4_fewestFor_48 rfl ?_
          refine tw_if_lt 198 dX4_fewestFor_50 (by decide) (fun c27 => absurd c27 (nI_pos (by omega))) (fun _ => ?_)
          refine tw_iload 6 dX4_fewestFor_53 rfl ?_
          refine tw_bipush (v := 10) dX4_fewestFor_55 (by decide) ?_
          refine tw_iload 0 dX4_fewestFor_57 rfl ?_
          refine tw_imul dX4_fewestFor_59 ?_
          refine tw_nmi (fun v28 ev28 => ?_)
          refine tw_isub dX4_fewestFor_60 ?_
          refine tw_nmi (fun v29 ev29 => ?_)
          have bh : v29 = nI (L2 - b9 * 10) := by rw [ev29, ev28]; exact tw_bh (p := 10) (by omega) (by omega)
          obtain ⟨L3, eL3⟩ : ∃ z, z = L2 - b9 * 10 := ⟨_, rfl⟩
          rw [← eL3] at bh
          have hL3 : L3 ≤ 400 := by omega
          subst bh
          refine tw_istore [(7, .int (nI L3)), (6, .int (nI b9)), (2, .int (tw_cd A2)), (3, .int (tw_fw A2)), (0, .ref x), (1, .int (nI l)), (4, .int (nI a9)), (5, .int (nI L2))] dX4_fewestFor_61 (by decide) rfl ?_
          refine tw_aload_n 4 dX4_fewestFor_63 rfl rfl ?_
          refine tw_iconst (v := 2) dX4_fewestFor_64 (by decide) ?_
          obtain ⟨e30, f31, m_32, rfl, k33, k34⟩ := sp0.1 x 5 kx (by decide)
          refine tw_bi (tw_callV (M := mX4_fewestFor) (pc := 65) okX4_manyOf dX4_fewestFor_65 w_277 rfl f31 [.int 2] [] rfl rfl ⟨by decide, by decide⟩ (Nat.le_of_ble_eq_true rfl) (c2_X4_manyOf d g τ h sp0.1 x kx j hj hb 2 (by decide)) 0 0 (Nat.le_of_ble_eq_true rfl) (Nat.le_of_ble_eq_true rfl)) (fun r37 h36 q35 => ?_) (fun E h1 q => q.elim)
          obtain ⟨q35e, q35v⟩ := q35
          rw [q35e]
          refine tw_iload 0 dX4_fewestFor_68 rfl ?_
          refine tw_iconst (v := 5) dX4_fewestFor_70 (by decide) ?_
          refine tw_idiv dX4_fewestFor_71 (by decide) ?_
          refine tw_nmi (fun v38 ev38 => ?_)
          have yq : v38 = nI (L3 / 5) := by rw [ev38]; exact tw_I_div (b := 5) (by omega) (by decide)
          subst yq
          refine tw_mmin dX4_fewestFor_72 w_289 w_290 w_93 w_291 ⟨by decide, Nat.le_of_ble_eq_true rfl⟩ ?_
          refine tw_nmi (fun v39 ev39 => ?_)
          have mq := tw_minX (by rw [q35v]; exact (ht 2 (by decide)).1) (by rw [q35v]; exact (ht 2 (by decide)).2) (by omega) ev39
          obtain ⟨cM, ecM⟩ : ∃ z, z = min (f 2) (L3 / 5) := ⟨_, rfl⟩
          have mr : v39 = nI cM := by rw [mq, ecM, q35v, hf2]
          clear mq
          subst mr
          refine tw_istore [(8, .int (nI cM)), (7, .int (nI L3)), (6, .int (nI b9)), (2, .int (tw_cd A2)), (3, .int (tw_fw A2)), (0, .ref x), (1, .int (nI l)), (4, .int (nI a9)), (5, .int (nI L2))] dX4_fewestFor_75 (by decide) rfl ?_
          have Mc : ∀ (n : Nat) (A3 : Option tw_F), n ≤ cM + 1 → tw_ok9 A3 → tw_fo (fun a A => tw_sB f a (l - a * 20) A) a9 (tw_fo (fun b A => tw_sC f a9 b (L2 - b * 10) A) b9 (tw_bf (tw_xC f a9 b9 L3) n A3)) = tw_ch f 5 l → tw_W d mX4_fewestFor (tw_qi (fun r h1 => h1 = h ∧ r = tw_cd (tw_ch (tw_tl g (160 + 64 * j + 32)) 5 l)) tw_nx) 77 [(8, .int (nI n + (-1))), (2, .int (tw_cd A3)), (3, .int (tw_fw A3)), (0, .ref x), (1, .int (nI l)), (4, .int (nI a9)), (5, .int (nI L2)), (6, .int (nI b9)), (7, .int (nI L3))] [] h 0 0 := by
            intro n
            induction n with
            | zero =>
              intro A3 hnc hAc hRc
              refine tw_iload 0 dX4_fewestFor_77 rfl ?_
              refine tw_if_lt 192 dX4_fewestFor_79 (by decide) (fun _ => ?_) (fun c40 => absurd (by decide) c40)
              obtain ⟨v41, ev41⟩ : ∃ y : Int32, y = (nI b9) + (-1) := ⟨_, rfl⟩
              refine tw_iinc [(6, .int v41), (8, .int (nI 0 + (-1))), (2, .int (tw_cd A3)), (3, .int (tw_fw A3)), (0, .ref x), (1, .int (nI l)), (4, .int (nI a9)), (5, .int (nI L2)), (7, .int (nI L3))] 7 dX4_fewestFor_192 rfl (by rw [ev41]; rfl) (by decide) rfl ?_
              refine tw_goto 48 dX4_fewestFor_195 (by decide) ?_
              rw [ev41]
              refine tw_lv [0, 2, 3, 4, 5, 6, 7] rfl ?_
              exact ih2 A3 (by omega) hAc (hRc)
            | succ c9 ih3 =>
              intro A3 hnc hAc hRc
              rw [tw_nIm1 c9]
              refine tw_iload 0 dX4_fewestFor_77 rfl ?_
              refine tw_if_lt 192 dX4_fewestFor_79 (by decide) (fun c42 => absurd c42 (nI_pos (by omega))) (fun _ => ?_)
              refine tw_iload 8 dX4_fewestFor_82 rfl ?_
              refine tw_iconst (v := 5) dX4_fewestFor_84 (by decide) ?_
              refine tw_iload 0 dX4_fewestFor_85 rfl ?_
              refine tw_imul dX4_fewestFor_87 ?_
              refine tw_nmi (fun v43 ev43 => ?_)
              refine tw_isub dX4_fewestFor_88 ?_
              refine tw_nmi (fun v44 ev44 => ?_)
              have bh : v44 = nI (L3 - c9 * 5) := by rw [ev44, ev43]; exact tw_bh (p := 5) (by omega) (by omega)
              obtain ⟨L4, eL4⟩ : ∃ z, z = L3 - c9 * 5 := ⟨_, rfl⟩
              rw [← eL4] at bh
              have hL4 : L4 ≤ 400 := by omega
              subst bh
              refine tw_istore [(9, .int (nI L4)), (8, .int (nI c9)), (2, .int (tw_cd A3)), (3, .int (tw_fw A3)), (0, .ref x), (1, .int (nI l)), (4, .int (nI a9)), (5, .int (nI L2)), (6, .int (nI b9)), (7, .int (nI L3))] dX4_fewestFor_89 (by decide) rfl ?_
              refine tw_aload_n 4 dX4_fewestFor_91 rfl rfl ?_
              refine tw_iconst (v := 3) dX4_fewestFor_92 (by decide) ?_
              obtain ⟨e45, f46, m_47, rfl, k48, k49⟩ := sp0.1 x 5 kx (by decide)
              refine tw_bi (tw_callV (M := mX4_fewestFor) (pc := 93) okX4_manyOf dX4_fewestFor_93 w_277 rfl f46 [.int 3] [] rfl rfl ⟨by decide, by decide⟩ (Nat.le_of_ble_eq_true rfl) (c2_X4_manyOf d g τ h sp0.1 x kx j hj hb 3 (by decide)) 0 0 (Nat.le_of_ble_eq_true rfl) (Nat.le_of_ble_eq_true rfl)) (fun r52 h51 q50 => ?_) (fun E h1 q => q.elim)
              obtain ⟨q50e, q50v⟩ := q50
              rw [q50e]
              refine tw_iload 0 dX4_fewestFor_96 rfl ?_
              refine tw_iconst (v := 2) dX4_fewestFor_98 (by decide) ?_
              refine tw_idiv dX4_fewestFor_99 (by decide) ?_
              refine tw_nmi (fun v53 ev53 => ?_)
              have yq : v53 = nI (L4 / 2) := by rw [ev53]; exact tw_I_div (b := 2) (by omega) (by decide)
              subst yq
              refine tw_mmin dX4_fewestFor_100 w_289 w_290 w_93 w_291 ⟨by decide, Nat.le_of_ble_eq_true rfl⟩ ?_
              refine tw_nmi (fun v54 ev54 => ?_)
              have mq := tw_minX (by rw [q50v]; exact (ht 3 (by decide)).1) (by rw [q50v]; exact (ht 3 (by decide)).2) (by omega) ev54
              obtain ⟨dM, edM⟩ : ∃ z, z = min (f 3) (L4 / 2) := ⟨_, rfl⟩
              have mr : v54 = nI dM := by rw [mq, edM, q50v, hf3]
              clear mq
              subst mr
              refine tw_istore [(10, .int (nI dM)), (9, .int (nI L4)), (8, .int (nI c9)), (2, .int (tw_cd A3)), (3, .int (tw_fw A3)), (0, .ref x), (1, .int (nI l)), (4, .int (nI a9)), (5, .int (nI L2)), (6, .int (nI b9)), (7, .int (nI L3))] dX4_fewestFor_103 (by decide) rfl ?_
              refine tw_iload 1 dX4_fewestFor_105 rfl ?_
              refine tw_iconst (v := 2) dX4_fewestFor_107 (by decide) ?_
              refine tw_iload 0 dX4_fewestFor_108 rfl ?_
              refine tw_imul dX4_fewestFor_110 ?_
              refine tw_nmi (fun v55 ev55 => ?_)
              refine tw_isub dX4_fewestFor_111 ?_
              refine tw_nmi (fun v56 ev56 => ?_)
              have bh : v56 = nI (L4 - dM * 2) := by rw [ev56, ev55]; exact tw_bh (p := 2) (by omega) (by omega)
              subst bh
              refine tw_istore [(11, .int (nI (L4 - dM * 2))), (10, .int (nI dM)), (9, .int (nI L4)), (8, .int (nI c9)), (2, .int (tw_cd A3)), (3, .int (tw_fw A3)), (0, .ref x), (1, .int (nI l)), (4, .int (nI a9)), (5, .int (nI L2)), (6, .int (nI b9)), (7, .int (nI L3))] dX4_fewestFor_112 (by decide) rfl ?_
              refine tw_iload 0 dX4_fewestFor_114 rfl ?_
              refine tw_aload_n 6 dX4_fewestFor_116 rfl rfl ?_
              refine tw_iconst (v := 4) dX4_fewestFor_117 (by decide) ?_
              refine tw_bi (tw_callV (M := mX4_fewestFor) (pc := 118) okX4_manyOf dX4_fewestFor_118 w_277 rfl f46 [.int 4] [.int (nI (L4 - dM * 2))] rfl rfl ⟨by decide, by decide⟩ (Nat.le_of_ble_eq_true rfl) (c2_X4_manyOf d g τ h sp0.1 x kx j hj hb 4 (by decide)) 0 0 (Nat.le_of_ble_eq_true rfl) (Nat.le_of_ble_eq_true rfl)) (fun r59 h58 q57 => ?_) (fun E h1 q => q.elim)
              obtain ⟨q57e, q57v⟩ := q57
              rw [q57e]
              refine tw_icmp_gt 186 dX4_fewestFor_121 (by decide) (fun c60 => ?_) (fun c60 => ?_)
              · have r4 : r59 = nI (f 4) := by rw [hf4, q57v]; exact (tw_9 (ht 4 (by decide)).1 (ht 4 (by decide)).2).2
                have b4 := hf9 4
                have e4 : ¬ L4 - dM * 2 ≤ f 4 := fun z => absurd c60 (Int32.not_lt.mpr (by rw [r4]; exact nI_le z (by omega)))
                have xe : tw_xC f a9 b9 L3 c9 = none := by unfold tw_xC tw_c34; rw [← eL4, if_neg (by rw [← edM]; exact e4)]; rfl
                obtain ⟨v61, ev61⟩ : ∃ y : Int32, y = (nI c9) + (-1) := ⟨_, rfl⟩
                refine tw_iinc [(8, .int v61), (11, .int (nI (L4 - dM * 2))), (10, .int (nI dM)), (9, .int (nI L4)), (2, .int (tw_cd A3)), (3, .int (tw_fw A3)), (0, .ref x), (1, .int (nI l)), (4, .int (nI a9)), (5, .int (nI L2)), (6, .int (nI b9)), (7, .int (nI L3))] 3 dX4_fewestFor_186 rfl (by rw [ev61]; rfl) (by decide) rfl ?_
                refine tw_goto 77 dX4_fewestFor_189 (by decide) ?_
                rw [ev61]
                refine tw_lv [0, 4, 5, 6, 7, 8, 9, 10, 11] rfl ?_
                exact ih3 A3 (by omega) hAc (by have z : tw_fo (fun a A => tw_sB f a (l - a * 20) A) a9 (tw_fo (fun b A => tw_sC f a9 b (L2 - b * 10) A) b9 (tw_bf (tw_xC f a9 b9 L3) c9 (tw_pick A3 (tw_xC f a9 b9 L3 c9)))) = tw_ch f 5 l := hRc; rw [xe] at z; exact z)
              · have r4 : r59 = nI (f 4) := by rw [hf4, q57v]; exact (tw_9 (ht 4 (by decide)).1 (ht 4 (by decide)).2).2
                have b4 := hf9 4
                have e4 : L4 - dM * 2 ≤ f 4 := by rcases Nat.lt_or_ge (f 4) (L4 - dM * 2) with z | z; exact absurd (by rw [r4]; exact nI_lt z (by omega)) c60; exact z
                have xe : tw_xC f a9 b9 L3 c9 = some (tw_u2 a9 b9 (tw_fu (tw_D34 f L4) 2 c9)) := by unfold tw_xC tw_c34; rw [← eL4, if_pos (by rw [← edM]; exact e4)]; rfl
                have s9 : tw_sum5 (tw_u2 a9 b9 (tw_fu (tw_D34 f L4) 2 c9)) = a9 + b9 + c9 + dM + (L4 - dM * 2) := by rw [edM]; rfl
                have b0 := hf9 0
                have b1 := hf9 1
                have b2 := hf9 2
                have b3 := hf9 3
                have s45 : tw_sum5 (tw_u2 a9 b9 (tw_fu (tw_D34 f L4) 2 c9)) ≤ 45 := by rw [s9]; omega
                have hR3 : tw_fo (fun a A => tw_sB f a (l - a * 20) A) a9 (tw_fo (fun b A => tw_sC f a9 b (L2 - b * 10) A) b9 (tw_bf (tw_xC f a9 b9 L3) c9 (tw_pick A3 (some (tw_u2 a9 b9 (tw_fu (tw_D34 f L4) 2 c9)))))) = tw_ch f 5 l := by have z : tw_fo (fun a A => tw_sB f a (l - a * 20) A) a9 (tw_fo (fun b A => tw_sC f a9 b (L2 - b * 10) A) b9 (tw_bf (tw_xC f a9 b9 L3) c9 (tw_pick A3 (tw_xC f a9 b9 L3 c9)))) = tw_ch f 5 l := hRc; rw [xe] at z; exact z
                refine tw_iload 8 dX4_fewestFor_124 rfl ?_
                refine tw_iload 10 dX4_fewestFor_126 rfl ?_
                refine tw_iadd dX4_fewestFor_128 ?_
                refine tw_nmi (fun v62 ev62 => ?_)
                refine tw_iload 3 dX4_fewestFor_129 rfl ?_
                refine tw_iadd dX4_fewestFor_131 ?_
                refine tw_nmi (fun v63 ev63 => ?_)
                refine tw_iload 1 dX4_fewestFor_132 rfl ?_
                refine tw_iadd dX4_fewestFor_134 ?_
                refine tw_nmi (fun v64 ev64 => ?_)
                refine tw_iload 0 dX4_fewestFor_135 rfl ?_
                refine tw_iadd dX4_fewestFor_137 ?_
                refine tw_nmi (fun v65 ev65 => ?_)
                refine tw_iload_n 5 dX4_fewestFor_138 rfl rfl ?_
                refine tw_icmp_ge 186 dX4_fewestFor_139 (by decide) (fun c66 => ?_) (fun c66 => ?_)
                · have vs : v65 = nI (tw_sum5 (tw_u2 a9 b9 (tw_fu (tw_D34 f L4) 2 c9))) := by rw [s9, ev65, ev64, ev63, ev62]; exact tw_smI
                  obtain ⟨v67, ev67⟩ : ∃ y : Int32, y = (nI c9) + (-1) := ⟨_, rfl⟩
                  refine tw_iinc [(8, .int v67), (11, .int (nI (L4 - dM * 2))), (10, .int (nI dM)), (9, .int (nI L4)), (2, .int (tw_cd A3)), (3, .int (tw_fw A3)), (0, .ref x), (1, .int (nI l)), (4, .int (nI a9)), (5, .int (nI L2)), (6, .int (nI b9)), (7, .int (nI L3))] 3 dX4_fewestFor_186 rfl (by rw [ev67]; rfl) (by decide) rfl ?_
                  refine tw_goto 77 dX4_fewestFor_189 (by decide) ?_
                  rw [ev67]
                  refine tw_lv [0, 4, 5, 6, 7, 8, 9, 10, 11] rfl ?_
                  exact ih3 A3 (by omega) hAc (by have z := hR3; rw [tw_pick_ge hAc s45 (by rw [← vs]; exact c66)] at z; exact z)
                · have vs : v65 = nI (tw_sum5 (tw_u2 a9 b9 (tw_fu (tw_D34 f L4) 2 c9))) := by rw [s9, ev65, ev64, ev63, ev62]; exact tw_smI
                  have pk := tw_pick_lt hAc s45 (by rw [← vs]; exact c66)
                  refine tw_iload 8 dX4_fewestFor_142 rfl ?_
                  refine tw_iload 10 dX4_fewestFor_144 rfl ?_
                  refine tw_iadd dX4_fewestFor_146 ?_
                  refine tw_nmi (fun v68 ev68 => ?_)
                  refine tw_iload 3 dX4_fewestFor_147 rfl ?_
                  refine tw_iadd dX4_fewestFor_149 ?_
                  refine tw_nmi (fun v69 ev69 => ?_)
                  refine tw_iload 1 dX4_fewestFor_150 rfl ?_
                  refine tw_iadd dX4_fewestFor_152 ?_
                  refine tw_nmi (fun v70 ev70 => ?_)
                  refine tw_iload 0 dX4_fewestFor_153 rfl ?_
                  refine tw_iadd dX4_fewestFor_155 ?_
                  refine tw_nmi (fun v71 ev71 => ?_)
                  have w3 : v71 = tw_fw (some (tw_u2 a9 b9 (tw_fu (tw_D34 f L4) 2 c9))) := by show v71 = nI (tw_sum5 (tw_u2 a9 b9 (tw_fu (tw_D34 f L4) 2 c9))); rw [s9, ev71, ev70, ev69, ev68]; exact tw_smI
                  rw [w3]
                  refine tw_istore_n [(3, .int (tw_fw (some (tw_u2 a9 b9 (tw_fu (tw_D34 f L4) 2 c9))))), (11, .int (nI (L4 - dM * 2))), (10, .int (nI dM)), (9, .int (nI L4)), (8, .int (nI c9)), (2, .int (tw_cd A3)), (0, .ref x), (1, .int (nI l)), (4, .int (nI a9)), (5, .int (nI L2)), (6, .int (nI b9)), (7, .int (nI L3))] dX4_fewestFor_156 rfl (by decide) rfl ?_
                  refine tw_iload 8 dX4_fewestFor_157 rfl ?_
                  refine tw_sipush (v := 10000) dX4_fewestFor_159 (by decide) ?_
                  refine tw_imul dX4_fewestFor_162 ?_
                  refine tw_nmi (fun v72 ev72 => ?_)
                  refine tw_iload 10 dX4_fewestFor_163 rfl ?_
                  refine tw_sipush (v := 1000) dX4_fewestFor_165 (by decide) ?_
                  refine tw_imul dX4_fewestFor_168 ?_
                  refine tw_nmi (fun v73 ev73 => ?_)
                  refine tw_iadd dX4_fewestFor_169 ?_
                  refine tw_nmi (fun v74 ev74 => ?_)
                  refine tw_iload 4 dX4_fewestFor_170 rfl ?_
                  refine tw_bipush (v := 100) dX4_fewestFor_172 (by decide) ?_
                  refine tw_imul dX4_fewestFor_174 ?_
                  refine tw_nmi (fun v75 ev75 => ?_)
                  refine tw_iadd dX4_fewestFor_175 ?_
                  refine tw_nmi (fun v76 ev76 => ?_)
                  refine tw_iload 2 dX4_fewestFor_176 rfl ?_
                  refine tw_bipush (v := 10) dX4_fewestFor_178 (by decide) ?_
                  refine tw_imul dX4_fewestFor_180 ?_
                  refine tw_nmi (fun v77 ev77 => ?_)
                  refine tw_iadd dX4_fewestFor_181 ?_
                  refine tw_nmi (fun v78 ev78 => ?_)
                  refine tw_iload 1 dX4_fewestFor_182 rfl ?_
                  refine tw_iadd dX4_fewestFor_184 ?_
                  refine tw_nmi (fun v79 ev79 => ?_)
                  have w2 : v79 = tw_cd (some (tw_u2 a9 b9 (tw_fu (tw_D34 f L4) 2 c9))) := by rw [ev79, ev78, ev76, ev74, ev72, ev73, ev75, ev77]; refine tw_cdI.trans ?_; show nI _ = nI (tw_cdN (tw_u2 a9 b9 (tw_fu (tw_D34 f L4) 2 c9))); rw [edM]; rfl
                  rw [w2]
                  refine tw_istore_n [(2, .int (tw_cd (some (tw_u2 a9 b9 (tw_fu (tw_D34 f L4) 2 c9))))), (3, .int (tw_fw (some (tw_u2 a9 b9 (tw_fu (tw_D34 f L4) 2 c9))))), (11, .int (nI (L4 - dM * 2))), (10, .int (nI dM)), (9, .int (nI L4)), (8, .int (nI c9)), (0, .ref x), (1, .int (nI l)), (4, .int (nI a9)), (5, .int (nI L2)), (6, .int (nI b9)), (7, .int (nI L3))] dX4_fewestFor_185 rfl (by decide) rfl ?_
                  obtain ⟨v80, ev80⟩ : ∃ y : Int32, y = (nI c9) + (-1) := ⟨_, rfl⟩
                  refine tw_iinc [(8, .int v80), (2, .int (tw_cd (some (tw_u2 a9 b9 (tw_fu (tw_D34 f L4) 2 c9))))), (3, .int (tw_fw (some (tw_u2 a9 b9 (tw_fu (tw_D34 f L4) 2 c9))))), (11, .int (nI (L4 - dM * 2))), (10, .int (nI dM)), (9, .int (nI L4)), (0, .ref x), (1, .int (nI l)), (4, .int (nI a9)), (5, .int (nI L2)), (6, .int (nI b9)), (7, .int (nI L3))] 5 dX4_fewestFor_186 rfl (by rw [ev80]; rfl) (by decide) rfl ?_
                  refine tw_goto 77 dX4_fewestFor_189 (by decide) ?_
                  rw [ev80]
                  refine tw_lv [0, 1, 2, 6, 7, 8, 9, 10, 11] rfl ?_
                  exact ih3 (some (tw_u2 a9 b9 (tw_fu (tw_D34 f L4) 2 c9))) (by omega) (fun G z => by cases z; exact s45) (by have z := hR3; rw [pk] at z; exact z)
          rw [← tw_nIm1 cM]
          refine tw_lv [0, 3, 4, 5, 6, 7, 8, 2, 1] rfl ?_
          exact Mc (cM + 1) A2 (Nat.le_refl _) hAb (by rw [ecM, eL3]; exact hRb)
      rw [← tw_nIm1 bM]
      refine tw_lv [0, 3, 4, 5, 6, 2, 1] rfl ?_
      exact Mb (bM + 1) A1 (Nat.le_refl _) hAa (by rw [ebM, eL2]; exact hRa)
  rw [← tw_nIm1 aM]
  refine tw_lv [0, 2, 1, 3, 4] rfl ?_
  exact Ma (aM + 1) none (Nat.le_refl _) (fun F z => by cases z) (by rw [eaM]; exact tw_sA_e f l)

set_option maxHeartbeats 4000000 in
set_option maxRecDepth 100000 in
theorem c2_X4_takeOut (d : tw_D) (g : tw_G) (τ : tw_K) (h : tw_H) (hw : tw_wt d g τ h) (x : Nat) (kx : τ x = 5) (j : Nat) (hj : j < 4) (hb : g.2 (4096 + x) = 160 + 64 * j + 32) (F : tw_F) (h9 : ∀ k, F k ≤ 9) : tw_Ct d mX4_takeOut 0 0 [.ref x, .int (nI (tw_cdN F))] h (tw_qi (fun r h1 => r = nI (tw_sum5 F) ∧ tw_sp d τ h (tw_gT g (160 + 64 * j + 32) F) τ h1) tw_nx) := by
  refine tw_of (by decide +kernel) (Nat.le_of_ble_eq_true rfl) ?_
  show tw_W d mX4_takeOut _ 0 [(0, .ref x), (1, .int (nI (tw_cdN F)))] [] h 0 0
  have sp0 := tw_sp.rf hw
  have n0 := h9 0
  have n1 := h9 1
  have n2 := h9 2
  have n3 := h9 3
  have n4 := h9 4
  refine tw_iconst (v := 0) dX4_takeOut_0 (by decide) ?_
  refine tw_istore_n [(2, .int 0), (0, .ref x), (1, .int (nI (tw_cdN F)))] dX4_takeOut_1 rfl (by decide) rfl ?_
  refine tw_iload_n 2 dX4_takeOut_2 rfl rfl ?_
  refine tw_istore_n [(3, .int (nI (tw_cdN F))), (2, .int 0), (0, .ref x), (1, .int (nI (tw_cdN F)))] dX4_takeOut_3 rfl (by decide) rfl ?_
  refine tw_iconst (v := 4) dX4_takeOut_4 (by decide) ?_
  refine tw_istore [(4, .int 4), (3, .int (nI (tw_cdN F))), (2, .int 0), (0, .ref x), (1, .int (nI (tw_cdN F)))] dX4_takeOut_5 (by decide) rfl ?_
  refine tw_iload 0 dX4_takeOut_7 rfl ?_
  refine tw_if_lt 49 dX4_takeOut_9 (by decide) (fun c1 => absurd c1 (by decide)) (fun _ => ?_)
  refine tw_iload_n 1 dX4_takeOut_12 rfl rfl ?_
  refine tw_bipush (v := 10) dX4_takeOut_13 (by decide) ?_
  refine tw_irem dX4_takeOut_15 (by decide) ?_
  refine tw_nmi (fun v2 ev2 => ?_)
  have dm4 : v2 = nI (F 4) := by rw [ev2]; exact (tw_dm (A := (((F 0 * 10 + F 1) * 10 + F 2) * 10 + F 3)) (h9 4) (by omega)).2
  rw [dm4]
  refine tw_istore [(5, .int (nI (F 4))), (4, .int 4), (3, .int (nI (tw_cdN F))), (2, .int 0), (0, .ref x), (1, .int (nI (tw_cdN F)))] dX4_takeOut_16 (by decide) rfl ?_
  refine tw_aload_n 4 dX4_takeOut_18 rfl rfl ?_
  refine tw_iload 1 dX4_takeOut_19 rfl ?_
  refine tw_aload_n 4 dX4_takeOut_21 rfl rfl ?_
  refine tw_iload 1 dX4_takeOut_22 rfl ?_
  obtain ⟨e6, f7, m_8, rfl, k9, k10⟩ := sp0.1 x 5 kx (by decide)
  refine tw_bi (tw_callV (M := mX4_takeOut) (pc := 24) okX4_manyOf dX4_takeOut_24 w_277 rfl f7 [.int 4] [.int 4, .ref x] rfl rfl ⟨by decide, by decide⟩ (Nat.le_of_ble_eq_true rfl) (c2_X4_manyOf d g τ h sp0.1 x kx j hj hb 4 (by decide)) 0 0 (Nat.le_of_ble_eq_true rfl) (Nat.le_of_ble_eq_true rfl)) (fun r5 h4 q3 => ?_) (fun E h1 q => q.elim)
  obtain ⟨q3e, q3v⟩ := q3
  rw [q3e]
  have q3w : r5 = g.1 (160 + 64 * j + 32 + 4) := by rw [q3v]
  refine tw_iload 0 dX4_takeOut_27 rfl ?_
  refine tw_isub dX4_takeOut_29 ?_
  refine tw_nmi (fun v11 ev11 => ?_)
  have sv4 : v11 = g.1 (160 + 64 * j + 32 + 4) - nI (F 4) := by rw [ev11, q3w]
  rw [sv4]
  refine tw_bv (tw_callV (M := mX4_takeOut) (pc := 30) okX4_setMany dX4_takeOut_30 w_779 rfl f7 [.int 4, .int (g.1 (160 + 64 * j + 32 + 4) - nI (F 4))] [] rfl rfl ⟨by decide, by decide⟩ (Nat.le_of_ble_eq_true rfl) (c2_X4_setMany d g τ h sp0.1 x kx j hj hb 4 (by decide) (g.1 (160 + 64 * j + 32 + 4) - nI (F 4))) 0 0 (Nat.le_of_ble_eq_true rfl) (Nat.le_of_ble_eq_true rfl)) (fun h13 q12 => ?_) (fun E h1 q => q.elim)
  have sp15 := sp0.tr q12
  refine tw_iload_n 3 dX4_takeOut_33 rfl rfl ?_
  refine tw_iload 0 dX4_takeOut_34 rfl ?_
  refine tw_iadd dX4_takeOut_36 ?_
  refine tw_nmi (fun v16 ev16 => ?_)
  refine tw_istore_n [(2, .int v16), (5, .int (nI (F 4))), (4, .int 4), (3, .int (nI (tw_cdN F))), (0, .ref x), (1, .int (nI (tw_cdN F)))] dX4_takeOut_37 rfl (by decide) rfl ?_
  refine tw_iload_n 3 dX4_takeOut_38 rfl rfl ?_
  refine tw_bipush (v := 10) dX4_takeOut_39 (by decide) ?_
  refine tw_idiv dX4_takeOut_41 (by decide) ?_
  refine tw_nmi (fun v17 ev17 => ?_)
  have dv4 : v17 = nI (((F 0 * 10 + F 1) * 10 + F 2) * 10 + F 3) := by rw [ev17]; exact (tw_dm (A := (((F 0 * 10 + F 1) * 10 + F 2) * 10 + F 3)) (h9 4) (by omega)).1
  rw [dv4]
  refine tw_istore_n [(3, .int (nI (((F 0 * 10 + F 1) * 10 + F 2) * 10 + F 3))), (2, .int v16), (5, .int (nI (F 4))), (4, .int 4), (0, .ref x), (1, .int (nI (tw_cdN F)))] dX4_takeOut_42 rfl (by decide) rfl ?_
  refine tw_iinc [(4, .int 3), (3, .int (nI (((F 0 * 10 + F 1) * 10 + F 2) * 10 + F 3))), (2, .int v16), (5, .int (nI (F 4))), (0, .ref x), (1, .int (nI (tw_cdN F)))] 3 dX4_takeOut_43 rfl (by decide) (by decide) rfl ?_
  refine tw_goto 7 dX4_takeOut_46 (by decide) ?_
  refine tw_iload 0 dX4_takeOut_7 rfl ?_
  refine tw_if_lt 49 dX4_takeOut_9 (by decide) (fun c18 => absurd c18 (by decide)) (fun _ => ?_)
  refine tw_iload_n 1 dX4_takeOut_12 rfl rfl ?_
  refine tw_bipush (v := 10) dX4_takeOut_13 (by decide) ?_
  refine tw_irem dX4_takeOut_15 (by decide) ?_
  refine tw_nmi (fun v19 ev19 => ?_)
  have dm3 : v19 = nI (F 3) := by rw [ev19]; exact (tw_dm (A := ((F 0 * 10 + F 1) * 10 + F 2)) (h9 3) (by omega)).2
  rw [dm3]
  refine tw_istore [(5, .int (nI (F 3))), (4, .int 3), (3, .int (nI (((F 0 * 10 + F 1) * 10 + F 2) * 10 + F 3))), (2, .int v16), (0, .ref x), (1, .int (nI (tw_cdN F)))] dX4_takeOut_16 (by decide) rfl ?_
  refine tw_aload_n 4 dX4_takeOut_18 rfl rfl ?_
  refine tw_iload 1 dX4_takeOut_19 rfl ?_
  refine tw_aload_n 4 dX4_takeOut_21 rfl rfl ?_
  refine tw_iload 1 dX4_takeOut_22 rfl ?_
  obtain ⟨e23, f24, m_25, rfl, k26, k27⟩ := sp15.1 x 5 kx (by decide)
  refine tw_bi (tw_callV (M := mX4_takeOut) (pc := 24) okX4_manyOf dX4_takeOut_24 w_277 rfl f24 [.int 3] [.int 3, .ref x] rfl rfl ⟨by decide, by decide⟩ (Nat.le_of_ble_eq_true rfl) (c2_X4_manyOf d (tw_g1 g (160 + 64 * j + 32 + 4) (g.1 (160 + 64 * j + 32 + 4) - nI (F 4))) τ h13 sp15.1 x kx j hj hb 3 (by decide)) 0 0 (Nat.le_of_ble_eq_true rfl) (Nat.le_of_ble_eq_true rfl)) (fun r22 h21 q20 => ?_) (fun E h1 q => q.elim)
  obtain ⟨q20e, q20v⟩ := q20
  rw [q20e]
  have q20w : r22 = g.1 (160 + 64 * j + 32 + 3) := by rw [q20v]; repeat rw [tw_g1_ne (by omega)]
  refine tw_iload 0 dX4_takeOut_27 rfl ?_
  refine tw_isub dX4_takeOut_29 ?_
  refine tw_nmi (fun v28 ev28 => ?_)
  have sv3 : v28 = g.1 (160 + 64 * j + 32 + 3) - nI (F 3) := by rw [ev28, q20w]
  rw [sv3]
  refine tw_bv (tw_callV (M := mX4_takeOut) (pc := 30) okX4_setMany dX4_takeOut_30 w_779 rfl f24 [.int 3, .int (g.1 (160 + 64 * j + 32 + 3) - nI (F 3))] [] rfl rfl ⟨by decide, by decide⟩ (Nat.le_of_ble_eq_true rfl) (c2_X4_setMany d (tw_g1 g (160 + 64 * j + 32 + 4) (g.1 (160 + 64 * j + 32 + 4) - nI (F 4))) τ h13 sp15.1 x kx j hj hb 3 (by decide) (g.1 (160 + 64 * j + 32 + 3) - nI (F 3))) 0 0 (Nat.le_of_ble_eq_true rfl) (Nat.le_of_ble_eq_true rfl)) (fun h30 q29 => ?_) (fun E h1 q => q.elim)
  have sp32 := sp15.tr q29
  refine tw_iload_n 3 dX4_takeOut_33 rfl rfl ?_
  refine tw_iload 0 dX4_takeOut_34 rfl ?_
  refine tw_iadd dX4_takeOut_36 ?_
  refine tw_nmi (fun v33 ev33 => ?_)
  refine tw_istore_n [(2, .int v33), (5, .int (nI (F 3))), (4, .int 3), (3, .int (nI (((F 0 * 10 + F 1) * 10 + F 2) * 10 + F 3))), (0, .ref x), (1, .int (nI (tw_cdN F)))] dX4_takeOut_37 rfl (by decide) rfl ?_
  refine tw_iload_n 3 dX4_takeOut_38 rfl rfl ?_
  refine tw_bipush (v := 10) dX4_takeOut_39 (by decide) ?_
  refine tw_idiv dX4_takeOut_41 (by decide) ?_
  refine tw_nmi (fun v34 ev34 => ?_)
  have dv3 : v34 = nI ((F 0 * 10 + F 1) * 10 + F 2) := by rw [ev34]; exact (tw_dm (A := ((F 0 * 10 + F 1) * 10 + F 2)) (h9 3) (by omega)).1
  rw [dv3]
  refine tw_istore_n [(3, .int (nI ((F 0 * 10 + F 1) * 10 + F 2))), (2, .int v33), (5, .int (nI (F 3))), (4, .int 3), (0, .ref x), (1, .int (nI (tw_cdN F)))] dX4_takeOut_42 rfl (by decide) rfl ?_
  refine tw_iinc [(4, .int 2), (3, .int (nI ((F 0 * 10 + F 1) * 10 + F 2))), (2, .int v33), (5, .int (nI (F 3))), (0, .ref x), (1, .int (nI (tw_cdN F)))] 3 dX4_takeOut_43 rfl (by decide) (by decide) rfl ?_
  refine tw_goto 7 dX4_takeOut_46 (by decide) ?_
  refine tw_iload 0 dX4_takeOut_7 rfl ?_
  refine tw_if_lt 49 dX4_takeOut_9 (by decide) (fun c35 => absurd c35 (by decide)) (fun _ => ?_)
  refine tw_iload_n 1 dX4_takeOut_12 rfl rfl ?_
  refine tw_bipush (v := 10) dX4_takeOut_13 (by decide) ?_
  refine tw_irem dX4_takeOut_15 (by decide) ?_
  refine tw_nmi (fun v36 ev36 => ?_)
  have dm2 : v36 = nI (F 2) := by rw [ev36]; exact (tw_dm (A := (F 0 * 10 + F 1)) (h9 2) (by omega)).2
  rw [dm2]
  refine tw_istore [(5, .int (nI (F 2))), (4, .int 2), (3, .int (nI ((F 0 * 10 + F 1) * 10 + F 2))), (2, .int v33), (0, .ref x), (1, .int (nI (tw_cdN F)))] dX4_takeOut_16 (by decide) rfl ?_
  refine tw_aload_n 4 dX4_takeOut_18 rfl rfl ?_
  refine tw_iload 1 dX4_takeOut_19 rfl ?_
  refine tw_aload_n 4 dX4_takeOut_21 rfl rfl ?_
  refine tw_iload 1 dX4_takeOut_22 rfl ?_
  obtain ⟨e40, f41, m_42, rfl, k43, k44⟩ := sp32.1 x 5 kx (by decide)
  refine tw_bi (tw_callV (M := mX4_takeOut) (pc := 24) okX4_manyOf dX4_takeOut_24 w_277 rfl f41 [.int 2] [.int 2, .ref x] rfl rfl ⟨by decide, by decide⟩ (Nat.le_of_ble_eq_true rfl) (c2_X4_manyOf d (tw_g1 (tw_g1 g (160 + 64 * j + 32 + 4) (g.1 (160 + 64 * j + 32 + 4) - nI (F 4))) (160 + 64 * j + 32 + 3) (g.1 (160 + 64 * j + 32 + 3) - nI (F 3))) τ h30 sp32.1 x kx j hj hb 2 (by decide)) 0 0 (Nat.le_of_ble_eq_true rfl) (Nat.le_of_ble_eq_true rfl)) (fun r39 h38 q37 => ?_) (fun E h1 q => q.elim)
  obtain ⟨q37e, q37v⟩ := q37
  rw [q37e]
  have q37w : r39 = g.1 (160 + 64 * j + 32 + 2) := by rw [q37v]; repeat rw [tw_g1_ne (by omega)]
  refine tw_iload 0 dX4_takeOut_27 rfl ?_
  refine tw_isub dX4_takeOut_29 ?_
  refine tw_nmi (fun v45 ev45 => ?_)
  have sv2 : v45 = g.1 (160 + 64 * j + 32 + 2) - nI (F 2) := by rw [ev45, q37w]
  rw [sv2]
  refine tw_bv (tw_callV (M := mX4_takeOut) (pc := 30) okX4_setMany dX4_takeOut_30 w_779 rfl f41 [.int 2, .int (g.1 (160 + 64 * j + 32 + 2) - nI (F 2))] [] rfl rfl ⟨by decide, by decide⟩ (Nat.le_of_ble_eq_true rfl) (c2_X4_setMany d (tw_g1 (tw_g1 g (160 + 64 * j + 32 + 4) (g.1 (160 + 64 * j + 32 + 4) - nI (F 4))) (160 + 64 * j + 32 + 3) (g.1 (160 + 64 * j + 32 + 3) - nI (F 3))) τ h30 sp32.1 x kx j hj hb 2 (by decide) (g.1 (160 + 64 * j + 32 + 2) - nI (F 2))) 0 0 (Nat.le_of_ble_eq_true rfl) (Nat.le_of_ble_eq_true rfl)) (fun h47 q46 => ?_) (fun E h1 q => q.elim)
  have sp49 := sp32.tr q46
  refine tw_iload_n 3 dX4_takeOut_33 rfl rfl ?_
  refine tw_iload 0 dX4_takeOut_34 rfl ?_
  refine tw_iadd dX4_takeOut_36 ?_
  refine tw_nmi (fun v50 ev50 => ?_)
  refine tw_istore_n [(2, .int v50), (5, .int (nI (F 2))), (4, .int 2), (3, .int (nI ((F 0 * 10 + F 1) * 10 + F 2))), (0, .ref x), (1, .int (nI (tw_cdN F)))] dX4_takeOut_37 rfl (by decide) rfl ?_
  refine tw_iload_n 3 dX4_takeOut_38 rfl rfl ?_
  refine tw_bipush (v := 10) dX4_takeOut_39 (by decide) ?_
  refine tw_idiv dX4_takeOut_41 (by decide) ?_
  refine tw_nmi (fun v51 ev51 => ?_)
  have dv2 : v51 = nI (F 0 * 10 + F 1) := by rw [ev51]; exact (tw_dm (A := (F 0 * 10 + F 1)) (h9 2) (by omega)).1
  rw [dv2]
  refine tw_istore_n [(3, .int (nI (F 0 * 10 + F 1))), (2, .int v50), (5, .int (nI (F 2))), (4, .int 2), (0, .ref x), (1, .int (nI (tw_cdN F)))] dX4_takeOut_42 rfl (by decide) rfl ?_
  refine tw_iinc [(4, .int 1), (3, .int (nI (F 0 * 10 + F 1))), (2, .int v50), (5, .int (nI (F 2))), (0, .ref x), (1, .int (nI (tw_cdN F)))] 3 dX4_takeOut_43 rfl (by decide) (by decide) rfl ?_
  refine tw_goto 7 dX4_takeOut_46 (by decide) ?_
  refine tw_iload 0 dX4_takeOut_7 rfl ?_
  refine tw_if_lt 49 dX4_takeOut_9 (by decide) (fun c52 => absurd c52 (by decide)) (fun _ => ?_)
  refine tw_iload_n 1 dX4_takeOut_12 rfl rfl ?_
  refine tw_bipush (v := 10) dX4_takeOut_13 (by decide) ?_
  refine tw_irem dX4_takeOut_15 (by decide) ?_
  refine tw_nmi (fun v53 ev53 => ?_)
  have dm1 : v53 = nI (F 1) := by rw [ev53]; exact (tw_dm (A := F 0) (h9 1) (by omega)).2
  rw [dm1]
  refine tw_istore [(5, .int (nI (F 1))), (4, .int 1), (3, .int (nI (F 0 * 10 + F 1))), (2, .int v50), (0, .ref x), (1, .int (nI (tw_cdN F)))] dX4_takeOut_16 (by decide) rfl ?_
  refine tw_aload_n 4 dX4_takeOut_18 rfl rfl ?_
  refine tw_iload 1 dX4_takeOut_19 rfl ?_
  refine tw_aload_n 4 dX4_takeOut_21 rfl rfl ?_
  refine tw_iload 1 dX4_takeOut_22 rfl ?_
  obtain ⟨e57, f58, m_59, rfl, k60, k61⟩ := sp49.1 x 5 kx (by decide)
  refine tw_bi (tw_callV (M := mX4_takeOut) (pc := 24) okX4_manyOf dX4_takeOut_24 w_277 rfl f58 [.int 1] [.int 1, .ref x] rfl rfl ⟨by decide, by decide⟩ (Nat.le_of_ble_eq_true rfl) (c2_X4_manyOf d (tw_g1 (tw_g1 (tw_g1 g (160 + 64 * j + 32 + 4) (g.1 (160 + 64 * j + 32 + 4) - nI (F 4))) (160 + 64 * j + 32 + 3) (g.1 (160 + 64 * j + 32 + 3) - nI (F 3))) (160 + 64 * j + 32 + 2) (g.1 (160 + 64 * j + 32 + 2) - nI (F 2))) τ h47 sp49.1 x kx j hj hb 1 (by decide)) 0 0 (Nat.le_of_ble_eq_true rfl) (Nat.le_of_ble_eq_true rfl)) (fun r56 h55 q54 => ?_) (fun E h1 q => q.elim)
  obtain ⟨q54e, q54v⟩ := q54
  rw [q54e]
  have q54w : r56 = g.1 (160 + 64 * j + 32 + 1) := by rw [q54v]; repeat rw [tw_g1_ne (by omega)]
  refine tw_iload 0 dX4_takeOut_27 rfl ?_
  refine tw_isub dX4_takeOut_29 ?_
  refine tw_nmi (fun v62 ev62 => ?_)
  have sv1 : v62 = g.1 (160 + 64 * j + 32 + 1) - nI (F 1) := by rw [ev62, q54w]
  rw [sv1]
  refine tw_bv (tw_callV (M := mX4_takeOut) (pc := 30) okX4_setMany dX4_takeOut_30 w_779 rfl f58 [.int 1, .int (g.1 (160 + 64 * j + 32 + 1) - nI (F 1))] [] rfl rfl ⟨by decide, by decide⟩ (Nat.le_of_ble_eq_true rfl) (c2_X4_setMany d (tw_g1 (tw_g1 (tw_g1 g (160 + 64 * j + 32 + 4) (g.1 (160 + 64 * j + 32 + 4) - nI (F 4))) (160 + 64 * j + 32 + 3) (g.1 (160 + 64 * j + 32 + 3) - nI (F 3))) (160 + 64 * j + 32 + 2) (g.1 (160 + 64 * j + 32 + 2) - nI (F 2))) τ h47 sp49.1 x kx j hj hb 1 (by decide) (g.1 (160 + 64 * j + 32 + 1) - nI (F 1))) 0 0 (Nat.le_of_ble_eq_true rfl) (Nat.le_of_ble_eq_true rfl)) (fun h64 q63 => ?_) (fun E h1 q => q.elim)
  have sp66 := sp49.tr q63
  refine tw_iload_n 3 dX4_takeOut_33 rfl rfl ?_
  refine tw_iload 0 dX4_takeOut_34 rfl ?_
  refine tw_iadd dX4_takeOut_36 ?_
  refine tw_nmi (fun v67 ev67 => ?_)
  refine tw_istore_n [(2, .int v67), (5, .int (nI (F 1))), (4, .int 1), (3, .int (nI (F 0 * 10 + F 1))), (0, .ref x), (1, .int (nI (tw_cdN F)))] dX4_takeOut_37 rfl (by decide) rfl ?_
  refine tw_iload_n 3 dX4_takeOut_38 rfl rfl ?_
  refine tw_bipush (v := 10) dX4_takeOut_39 (by decide) ?_
  refine tw_idiv dX4_takeOut_41 (by decide) ?_
  refine tw_nmi (fun v68 ev68 => ?_)
  have dv1 : v68 = nI (F 0) := by rw [ev68]; exact (tw_dm (A := F 0) (h9 1) (by omega)).1
  rw [dv1]
  refine tw_istore_n [(3, .int (nI (F 0))), (2, .int v67), (5, .int (nI (F 1))), (4, .int 1), (0, .ref x), (1, .int (nI (tw_cdN F)))] dX4_takeOut_42 rfl (by decide) rfl ?_
  refine tw_iinc [(4, .int 0), (3, .int (nI (F 0))), (2, .int v67), (5, .int (nI (F 1))), (0, .ref x), (1, .int (nI (tw_cdN F)))] 3 dX4_takeOut_43 rfl (by decide) (by decide) rfl ?_
  refine tw_goto 7 dX4_takeOut_46 (by decide) ?_
  refine tw_iload 0 dX4_takeOut_7 rfl ?_
  refine tw_if_lt 49 dX4_takeOut_9 (by decide) (fun c69 => absurd c69 (by decide)) (fun _ => ?_)
  refine tw_iload_n 1 dX4_takeOut_12 rfl rfl ?_
  refine tw_bipush (v := 10) dX4_takeOut_13 (by decide) ?_
  refine tw_irem dX4_takeOut_15 (by decide) ?_
  refine tw_nmi (fun v70 ev70 => ?_)
  have dm0 : v70 = nI (F 0) := by rw [ev70]; exact (tw_dm0 (h9 0)).2
  rw [dm0]
  refine tw_istore [(5, .int (nI (F 0))), (4, .int 0), (3, .int (nI (F 0))), (2, .int v67), (0, .ref x), (1, .int (nI (tw_cdN F)))] dX4_takeOut_16 (by decide) rfl ?_
  refine tw_aload_n 4 dX4_takeOut_18 rfl rfl ?_
  refine tw_iload 1 dX4_takeOut_19 rfl ?_
  refine tw_aload_n 4 dX4_takeOut_21 rfl rfl ?_
  refine tw_iload 1 dX4_takeOut_22 rfl ?_
  obtain ⟨e74, f75, m_76, rfl, k77, k78⟩ := sp66.1 x 5 kx (by decide)
  refine tw_bi (tw_callV (M := mX4_takeOut) (pc := 24) okX4_manyOf dX4_takeOut_24 w_277 rfl f75 [.int 0] [.int 0, .ref x] rfl rfl ⟨by decide, by decide⟩ (Nat.le_of_ble_eq_true rfl) (c2_X4_manyOf d (tw_g1 (tw_g1 (tw_g1 (tw_g1 g (160 + 64 * j + 32 + 4) (g.1 (160 + 64 * j + 32 + 4) - nI (F 4))) (160 + 64 * j + 32 + 3) (g.1 (160 + 64 * j + 32 + 3) - nI (F 3))) (160 + 64 * j + 32 + 2) (g.1 (160 + 64 * j + 32 + 2) - nI (F 2))) (160 + 64 * j + 32 + 1) (g.1 (160 + 64 * j + 32 + 1) - nI (F 1))) τ h64 sp66.1 x kx j hj hb 0 (by decide)) 0 0 (Nat.le_of_ble_eq_true rfl) (Nat.le_of_ble_eq_true rfl)) (fun r73 h72 q71 => ?_) (fun E h1 q => q.elim)
  obtain ⟨q71e, q71v⟩ := q71
  rw [q71e]
  have q71w : r73 = g.1 (160 + 64 * j + 32 + 0) := by rw [q71v]; repeat rw [tw_g1_ne (by omega)]
  refine tw_iload 0 dX4_takeOut_27 rfl ?_
  refine tw_isub dX4_takeOut_29 ?_
  refine tw_nmi (fun v79 ev79 => ?_)
  have sv0 : v79 = g.1 (160 + 64 * j + 32 + 0) - nI (F 0) := by rw [ev79, q71w]
  rw [sv0]
  refine tw_bv (tw_callV (M := mX4_takeOut) (pc := 30) okX4_setMany dX4_takeOut_30 w_779 rfl f75 [.int 0, .int (g.1 (160 + 64 * j + 32 + 0) - nI (F 0))] [] rfl rfl ⟨by decide, by decide⟩ (Nat.le_of_ble_eq_true rfl) (c2_X4_setMany d (tw_g1 (tw_g1 (tw_g1 (tw_g1 g (160 + 64 * j + 32 + 4) (g.1 (160 + 64 * j + 32 + 4) - nI (F 4))) (160 + 64 * j + 32 + 3) (g.1 (160 + 64 * j + 32 + 3) - nI (F 3))) (160 + 64 * j + 32 + 2) (g.1 (160 + 64 * j + 32 + 2) - nI (F 2))) (160 + 64 * j + 32 + 1) (g.1 (160 + 64 * j + 32 + 1) - nI (F 1))) τ h64 sp66.1 x kx j hj hb 0 (by decide) (g.1 (160 + 64 * j + 32 + 0) - nI (F 0))) 0 0 (Nat.le_of_ble_eq_true rfl) (Nat.le_of_ble_eq_true rfl)) (fun h81 q80 => ?_) (fun E h1 q => q.elim)
  have sp83 := sp66.tr q80
  refine tw_iload_n 3 dX4_takeOut_33 rfl rfl ?_
  refine tw_iload 0 dX4_takeOut_34 rfl ?_
  refine tw_iadd dX4_takeOut_36 ?_
  refine tw_nmi (fun v84 ev84 => ?_)
  refine tw_istore_n [(2, .int v84), (5, .int (nI (F 0))), (4, .int 0), (3, .int (nI (F 0))), (0, .ref x), (1, .int (nI (tw_cdN F)))] dX4_takeOut_37 rfl (by decide) rfl ?_
  refine tw_iload_n 3 dX4_takeOut_38 rfl rfl ?_
  refine tw_bipush (v := 10) dX4_takeOut_39 (by decide) ?_
  refine tw_idiv dX4_takeOut_41 (by decide) ?_
  refine tw_nmi (fun v85 ev85 => ?_)
  have dv0 : v85 = nI 0 := by rw [ev85]; exact (tw_dm0 (h9 0)).1
  rw [dv0]
  refine tw_istore_n [(3, .int (nI 0)), (2, .int v84), (5, .int (nI (F 0))), (4, .int 0), (0, .ref x), (1, .int (nI (tw_cdN F)))] dX4_takeOut_42 rfl (by decide) rfl ?_
  refine tw_iinc [(4, .int (-1)), (3, .int (nI 0)), (2, .int v84), (5, .int (nI (F 0))), (0, .ref x), (1, .int (nI (tw_cdN F)))] 3 dX4_takeOut_43 rfl (by decide) (by decide) rfl ?_
  refine tw_goto 7 dX4_takeOut_46 (by decide) ?_
  refine tw_iload 0 dX4_takeOut_7 rfl ?_
  refine tw_if_lt 49 dX4_takeOut_9 (by decide) (fun _ => ?_) (fun c86 => absurd (by decide) c86)
  refine tw_iload_n 2 dX4_takeOut_49 rfl rfl ?_
  exact tw_iret dX4_takeOut_50 rfl (Or.inl ⟨_, rfl, by rw [ev84, ev67, ev50, ev33, ev16, tw_smI0]; exact congrArg nI (by unfold tw_sum5; omega), by rw [← tw_gT_n]; exact sp83⟩)

set_option maxHeartbeats 4000000 in
set_option maxRecDepth 100000 in
theorem c2_X5_till (d : tw_D) (g : tw_G) (τ : tw_K) (h : tw_H) (hw : tw_wt d g τ h) (x : Nat) (kx : τ x = 11) (n : Int32) (kd : Int32) (my : Int32) : tw_Ct d mX5_till 20 120 [.ref x, .int n, .int kd, .int my] h (tw_qi (fun r9 h1 => r9 = g.1 (160 + 64 * tw_DN n + 32 + tw_DN kd) ∧ (tw_ix (g.2 6) n ∧ tw_ix 5 kd) ∧ tw_R9 my ∧ ∃ τ1, tw_sp d τ h (tw_g1 g (160 + 64 * tw_DN n + 32 + tw_DN kd) my) τ1 h1) (fun E h1 => (E = tw_IOE ∧ ¬ (tw_ix (g.2 6) n ∧ tw_ix 5 kd) ∨ E = tw_IAE ∧ (tw_ix (g.2 6) n ∧ tw_ix 5 kd) ∧ ¬ tw_R9 my) ∧ ∃ τ1, tw_sp d τ h g τ1 h1)) := by
  refine tw_of (by decide +kernel) (Nat.le_of_ble_eq_true rfl) ?_
  show tw_W d mX5_till _ 0 [(0, .ref x), (1, .int n), (2, .int kd), (3, .int my)] [] h 20 120
  have sp0 := tw_sp.rf hw
  have b9 := (tw_b678 hw kx).1
  refine tw_aload_n 0 dX5_till_0 rfl rfl ?_
  refine tw_iload_n 1 dX5_till_1 rfl rfl ?_
  obtain ⟨e4, f5, td_6, ca_7, ha_8, da_9, c1_10, c2_11, c3_12, c4_13, rfl, k14, k15, k16, k17, k18, k19, k20, k21, k22, k23, k24, k25, k26, k27, k28, k29, k30⟩ := sp0.1 x 11 kx (by decide)
  refine tw_br (tw_callV (M := mX5_till) (pc := 2) okX5_countryAt dX5_till_2 w_546 rfl f5 [.int n] [] rfl rfl ⟨by decide, by decide⟩ (Nat.le_of_ble_eq_true rfl) (c3_X5_countryAt d g τ h sp0.1 x kx n) 19 114 (Nat.le_of_ble_eq_true rfl) (Nat.le_of_ble_eq_true rfl)) (fun r3 h2 q1 => ?_) (fun E h1 q1 => Or.inr ⟨E, rfl, Or.inl ⟨q1.1, fun z => q1.2.2 z.1⟩, τ, by rw [q1.2.1]; exact sp0⟩)
  obtain ⟨q1e, q1k, jn, q1j, q1n, q1b⟩ := q1
  rw [q1e]
  subst q1n
  have cDn : tw_DN (nI jn) = jn := nI_clamp (by omega)
  have ixn : tw_ix (g.2 6) (nI jn) := ⟨jn, q1j, rfl⟩
  obtain ⟨e31, f32, n_33, r_34, c_35, go_36, so_37, v_38, rd_39, rf_40, t_41, rfl, k42, k43, k44, k45, k46, k47, k48, k49, k50⟩ := sp0.1 r3 2 q1k (by decide)
  obtain ⟨j51, ow52, fn9, fr9, fc9, fg9, fs9, q53, q54, q55, q56⟩ := k50
  obtain rfl : jn = j51 := by have z := ow52.b q1b; omega
  subst fn9 fr9 fc9 fg9 fs9
  refine tw_getN (v := .ref t_41) rfl in_4 8 dX5_till_5 w_514 rfl (by decide) f32 rfl ?_
  refine tw_astore [(4, .ref t_41), (0, .ref x), (1, .int (nI jn)), (2, .int kd), (3, .int my)] dX5_till_8 (by decide) rfl ?_
  refine tw_iload_n 3 dX5_till_10 rfl rfl ?_
  refine tw_if_lt 19 dX5_till_11 (by decide) (fun c57 => ?_) (fun c57 => ?_)
  · exact tw_throwS (i := 17) (by decide +kernel) w_550 w_96 rfl at_IOE dX5_till_19 dX5_till_22 dX5_till_23 dX5_till_25 dX5_till_28 ⟨by decide, Nat.le_of_ble_eq_true rfl⟩ (Nat.le_of_ble_eq_true rfl) (Nat.le_of_ble_eq_true rfl) (Or.inr ⟨_, rfl, Or.inl ⟨rfl, fun z => (tw_ix_lt (by decide) c57) z.2⟩, _, sp0⟩)
  · refine tw_iload_n 3 dX5_till_14 rfl rfl ?_
    refine tw_iconst (v := 5) dX5_till_15 (by decide) ?_
    refine tw_icmp_lt 29 dX5_till_16 (by decide) (fun c58 => ?_) (fun c58 => ?_)
    · refine tw_iload_n 4 dX5_till_29 rfl rfl ?_
      refine tw_iconst (v := 0) dX5_till_30 (by decide) ?_
      refine tw_bipush (v := 9) dX5_till_31 (by decide) ?_
      obtain ⟨k, hk, ek⟩ := tw_ix5 c57 (Int32.not_le.mpr c58)
      have ixk : tw_ix 5 kd := ⟨k, hk, ek⟩
      have ix0 := And.intro ixn ixk
      subst ek
      have cDkd : tw_DN (nI k) = k := nI_clamp (by omega)
      refine tw_bv (tw_callS (M := mX5_till) (pc := 33) okX5_needRange dX5_till_33 w_399 [.int my, .int 0, .int 9] [] rfl rfl ⟨by decide, by decide⟩ (Nat.le_of_ble_eq_true rfl) (c2_X5_needRange d g τ h sp0.1 my 0 9) 18 108 (Nat.le_of_ble_eq_true rfl) (Nat.le_of_ble_eq_true rfl)) (fun h60 q59 => ?_) (fun E h1 q59 => Or.inr ⟨E, rfl, Or.inr ⟨q59.1, ix0, q59.2.2⟩, τ, by rw [q59.2.1]; exact sp0⟩)
      obtain ⟨q59e, rc⟩ := q59
      rw [q59e]
      have rc0 : tw_R9 my := rc
      refine tw_aload 0 dX5_till_36 rfl ?_
      refine tw_iload_n 3 dX5_till_38 rfl rfl ?_
      obtain ⟨e65, f66, m_67, rfl, k68, k69⟩ := sp0.1 t_41 5 k45 (by decide)
      refine tw_bi (tw_callVN (M := mX5_till) (pc := 39) okX4_manyOf dX5_till_39 w_762 rfl f66 [.int (nI k)] [] rfl rfl ⟨by decide, by decide⟩ (Nat.le_of_ble_eq_true rfl) (c2_X4_manyOf d g τ h sp0.1 t_41 k45 jn (by omega) q55 k hk) 18 108 (Nat.le_of_ble_eq_true rfl) (Nat.le_of_ble_eq_true rfl)) (fun r64 h63 q62 => ?_) (fun E h1 q => q.elim)
      obtain ⟨q62e, q62v⟩ := q62
      rw [q62e]
      refine tw_istore [(5, .int r64), (4, .ref t_41), (0, .ref x), (1, .int (nI jn)), (2, .int (nI k)), (3, .int my)] dX5_till_42 (by decide) rfl ?_
      refine tw_aload 1 dX5_till_44 rfl ?_
      refine tw_iload_n 4 dX5_till_46 rfl rfl ?_
      refine tw_iload_n 5 dX5_till_47 rfl rfl ?_
      refine tw_bv (tw_callVN (M := mX5_till) (pc := 48) okX4_setMany dX5_till_48 w_763 rfl f66 [.int (nI k), .int my] [] rfl rfl ⟨by decide, by decide⟩ (Nat.le_of_ble_eq_true rfl) (c2_X4_setMany d g τ h sp0.1 t_41 k45 jn (by omega) q55 k hk my) 18 108 (Nat.le_of_ble_eq_true rfl) (Nat.le_of_ble_eq_true rfl)) (fun h71 q70 => ?_) (fun E h1 q => q.elim)
      have sp73 := sp0.tr q70
      refine tw_iload 0 dX5_till_51 rfl ?_
      exact tw_iret dX5_till_53 rfl (Or.inl ⟨_, rfl, (by rw [cDn, cDkd]; exact q62v), ix0, rc0, _, by rw [cDn, cDkd]; exact sp73⟩)
    · exact tw_throwS (i := 17) (by decide +kernel) w_550 w_96 rfl at_IOE dX5_till_19 dX5_till_22 dX5_till_23 dX5_till_25 dX5_till_28 ⟨by decide, Nat.le_of_ble_eq_true rfl⟩ (Nat.le_of_ble_eq_true rfl) (Nat.le_of_ble_eq_true rfl) (Or.inr ⟨_, rfl, Or.inl ⟨rfl, fun z => (tw_ix_ge (N := 5) (Nat.le_refl _) (by decide) (Int32.not_lt.mp c58)) z.2⟩, _, sp0⟩)

set_option maxHeartbeats 4000000 in
set_option maxRecDepth 100000 in
theorem c2_X5_give (d : tw_D) (g : tw_G) (τ : tw_K) (h : tw_H) (hw : tw_wt d g τ h) (x : Nat) (kx : τ x = 11) (n : Int32) (am : Int32) (he : tw_TC g) : tw_Ct d mX5_give 20 120 [.ref x, .int n, .int am] h (tw_qi (fun r9 h1 => r9 = nI (tw_sum5 (tw_gF (tw_chC g n am))) ∧ tw_ix (g.2 6) n ∧ tw_RA am ∧ tw_chC g n am ≠ none ∧ ∃ τ1, tw_sp d τ h (tw_gT g (160 + 64 * tw_DN n + 32) (tw_gF (tw_chC g n am))) τ1 h1) (fun E h1 => (E = tw_IOE ∧ ¬ tw_ix (g.2 6) n ∨ E = tw_IAE ∧ tw_ix (g.2 6) n ∧ ¬ tw_RA am ∨ E = tw_ISE ∧ tw_ix (g.2 6) n ∧ tw_RA am ∧ ¬ tw_chC g n am ≠ none) ∧ ∃ τ1, tw_sp d τ h g τ1 h1)) := by
  refine tw_of (by decide +kernel) (Nat.le_of_ble_eq_true rfl) ?_
  show tw_W d mX5_give _ 0 [(0, .ref x), (1, .int n), (2, .int am)] [] h 20 120
  have sp0 := tw_sp.rf hw
  have b9 := (tw_b678 hw kx).1
  refine tw_aload_n 0 dX5_give_0 rfl rfl ?_
  refine tw_iload_n 1 dX5_give_1 rfl rfl ?_
  obtain ⟨e4, f5, td_6, ca_7, ha_8, da_9, c1_10, c2_11, c3_12, c4_13, rfl, k14, k15, k16, k17, k18, k19, k20, k21, k22, k23, k24, k25, k26, k27, k28, k29, k30⟩ := sp0.1 x 11 kx (by decide)
  refine tw_br (tw_callV (M := mX5_give) (pc := 2) okX5_countryAt dX5_give_2 w_546 rfl f5 [.int n] [] rfl rfl ⟨by decide, by decide⟩ (Nat.le_of_ble_eq_true rfl) (c3_X5_countryAt d g τ h sp0.1 x kx n) 19 114 (Nat.le_of_ble_eq_true rfl) (Nat.le_of_ble_eq_true rfl)) (fun r3 h2 q1 => ?_) (fun E h1 q1 => Or.inr ⟨E, rfl, Or.inl ⟨q1.1, q1.2.2⟩, τ, by rw [q1.2.1]; exact sp0⟩)
  obtain ⟨q1e, q1k, jn, q1j, q1n, q1b⟩ := q1
  rw [q1e]
  subst q1n
  have cDn : tw_DN (nI jn) = jn := nI_clamp (by omega)
  have ix0 : tw_ix (g.2 6) (nI jn) := ⟨jn, q1j, rfl⟩
  obtain ⟨e31, f32, n_33, r_34, c_35, go_36, so_37, v_38, rd_39, rf_40, t_41, rfl, k42, k43, k44, k45, k46, k47, k48, k49, k50⟩ := sp0.1 r3 2 q1k (by decide)
  obtain ⟨j51, ow52, fn9, fr9, fc9, fg9, fs9, q53, q54, q55, q56⟩ := k50
  obtain rfl : jn = j51 := by have z := ow52.b q1b; omega
  subst fn9 fr9 fc9 fg9 fs9
  refine tw_getN (v := .ref t_41) rfl in_4 8 dX5_give_5 w_514 rfl (by decide) f32 rfl ?_
  refine tw_astore_n [(3, .ref t_41), (0, .ref x), (1, .int (nI jn)), (2, .int am)] dX5_give_8 rfl (by decide) rfl ?_
  refine tw_iload_n 3 dX5_give_9 rfl rfl ?_
  refine tw_iconst (v := 1) dX5_give_10 (by decide) ?_
  refine tw_sipush (v := 400) dX5_give_11 (by decide) ?_
  refine tw_bv (tw_callS (M := mX5_give) (pc := 14) okX5_needRange dX5_give_14 w_399 [.int am, .int 1, .int 400] [] rfl rfl ⟨by decide, by decide⟩ (Nat.le_of_ble_eq_true rfl) (c2_X5_needRange d g τ h sp0.1 am 1 400) 18 108 (Nat.le_of_ble_eq_true rfl) (Nat.le_of_ble_eq_true rfl)) (fun h58 q57 => ?_) (fun E h1 q57 => Or.inr ⟨E, rfl, Or.inr (Or.inl ⟨q57.1, ix0, q57.2.2⟩), τ, by rw [q57.2.1]; exact sp0⟩)
  obtain ⟨q57e, rc⟩ := q57
  rw [q57e]
  have rc0 : tw_RA am := rc
  obtain ⟨l, hl, el⟩ := tw_l400 rc.1 rc.2
  subst el
  have cDam : tw_DN (nI l) = l := nI_clamp (by omega)
  refine tw_aload_n 0 dX5_give_17 rfl rfl ?_
  refine tw_iload_n 3 dX5_give_18 rfl rfl ?_
  obtain ⟨e63, f64, m_65, rfl, k66, k67⟩ := sp0.1 t_41 5 k45 (by decide)
  refine tw_bi (tw_callVN (M := mX5_give) (pc := 19) okX4_fewestFor dX5_give_19 w_285 rfl f64 [.int (nI l)] [] rfl rfl ⟨by decide, by decide⟩ (Nat.le_of_ble_eq_true rfl) (c2_X4_fewestFor d g τ h sp0.1 t_41 k45 jn (by omega) q55 l hl (he jn q1j)) 18 108 (Nat.le_of_ble_eq_true rfl) (Nat.le_of_ble_eq_true rfl)) (fun r62 h61 q60 => ?_) (fun E h1 q => q.elim)
  obtain ⟨q60e, q60v⟩ := q60
  rw [q60e]
  have t9 := tw_tl9 (he jn q1j)
  refine tw_istore [(4, .int r62), (3, .ref t_41), (0, .ref x), (1, .int (nI jn)), (2, .int (nI l))] dX5_give_22 (by decide) rfl ?_
  refine tw_iload 0 dX5_give_24 rfl ?_
  refine tw_iconst (v := -1) dX5_give_26 (by decide) ?_
  refine tw_icmp_ne 40 dX5_give_27 (by decide) (fun c68 => ?_) (fun c68 => ?_)
  · have nn9 : tw_ch (tw_tl g (160 + 64 * jn + 32)) 5 l ≠ none := fun z => c68 (by rw [q60v, z]; rfl)
    refine tw_aload_n 1 dX5_give_40 rfl rfl ?_
    refine tw_iload 0 dX5_give_41 rfl ?_
    obtain ⟨F9, eF9⟩ : ∃ z, z = tw_gF (tw_ch (tw_tl g (160 + 64 * jn + 32)) 5 l) := ⟨_, rfl⟩
    have sm9 : tw_ch (tw_tl g (160 + 64 * jn + 32)) 5 l = some F9 := by rw [eF9]; exact tw_gF_some nn9
    have rd9 : r62 = nI (tw_cdN F9) := by rw [q60v, sm9]; rfl
    rw [rd9]
    refine tw_bi (tw_callVN (M := mX5_give) (pc := 43) okX4_takeOut dX5_give_43 w_775 rfl f64 [.int (nI (tw_cdN F9))] [] rfl rfl ⟨by decide, by decide⟩ (Nat.le_of_ble_eq_true rfl) (c2_X4_takeOut d g τ h sp0.1 t_41 k45 jn (by omega) q55 F9 (tw_ch9 t9 _ sm9)) 18 108 (Nat.le_of_ble_eq_true rfl) (Nat.le_of_ble_eq_true rfl)) (fun r71 h70 q69 => ?_) (fun E h1 q => q.elim)
    obtain ⟨q69v, q69s⟩ := q69
    have sp72 := sp0.tr q69s
    exact tw_iret dX5_give_46 rfl (Or.inl ⟨_, rfl, (by unfold tw_chC; rw [cDn, cDam]; rw [← eF9]; exact q69v), ix0, rc0, (by unfold tw_chC; rw [cDn, cDam]; exact nn9), _, by unfold tw_chC; rw [cDn, cDam]; rw [← eF9]; exact sp72⟩)
  · have nn9 : tw_ch (tw_tl g (160 + 64 * jn + 32)) 5 l = none := (tw_cd_n (tw_ch9 t9)).mp (by rw [← q60v]; exact c68)
    exact tw_throwS (i := 18) (by decide +kernel) w_471 w_88 rfl at_ISE dX5_give_30 dX5_give_33 dX5_give_34 dX5_give_36 dX5_give_39 ⟨by decide, Nat.le_of_ble_eq_true rfl⟩ (Nat.le_of_ble_eq_true rfl) (Nat.le_of_ble_eq_true rfl) (Or.inr ⟨_, rfl, Or.inr (Or.inr ⟨rfl, ix0, rc0, fun z => z (by unfold tw_chC; rw [cDn, cDam]; exact nn9)⟩), _, sp0⟩)

set_option maxHeartbeats 4000000 in
set_option maxRecDepth 100000 in
theorem c2_X10_all (d : tw_D) (h : tw_H) (x : Nat) (F : Nat → Int32) (hx : h x = some (.inl (d.2 0, 5, .inl F))) (G : tw_F) (hG : ∀ j, j < 5 → F j = nI (G j)) : tw_Ct d mX10_all 0 0 [.ref x] h (tw_qi (fun r h1 => h1 = h ∧ r = nI (tw_sum5 G)) tw_nx) := by
  refine tw_of (by decide +kernel) (Nat.le_of_ble_eq_true rfl) ?_
  show tw_W d mX10_all _ 0 [(0, .ref x)] [] h 0 0
  refine tw_iconst (v := 0) dX10_all_0 (by decide) ?_
  refine tw_istore_n [(1, .int 0), (0, .ref x)] dX10_all_1 rfl (by decide) rfl ?_
  refine tw_aload_n 1 dX10_all_2 rfl rfl ?_
  refine tw_astore_n [(2, .ref x), (1, .int 0), (0, .ref x)] dX10_all_3 rfl (by decide) rfl ?_
  refine tw_aload_n 0 dX10_all_4 rfl rfl ?_
  refine tw_alen (v := nI 5) 0 rfl dX10_all_5 hx rfl ?_
  refine tw_istore_n [(3, .int (nI 5)), (2, .ref x), (1, .int 0), (0, .ref x)] dX10_all_6 rfl (by decide) rfl ?_
  refine tw_iconst (v := 0) dX10_all_7 (by decide) ?_
  refine tw_istore [(4, .int 0), (3, .int (nI 5)), (2, .ref x), (1, .int 0), (0, .ref x)] dX10_all_8 (by decide) rfl ?_
  refine tw_iload 0 dX10_all_10 rfl ?_
  refine tw_iload_n 1 dX10_all_12 rfl rfl ?_
  refine tw_icmp_ge 33 dX10_all_13 (by decide) (fun c1 => absurd c1 (by decide)) (fun _ => ?_)
  refine tw_aload_n 2 dX10_all_16 rfl rfl ?_
  refine tw_iload 0 dX10_all_17 rfl ?_
  refine tw_iald (v := nI (G 0)) dX10_all_19 hx (vp_in_nI (n := 0) (by decide) (by decide)) (by rw [show ((0 : Int32)).toNatClampNeg = 0 by decide]; exact hG 0 (by decide)) ?_
  refine tw_istore [(5, .int (nI (G 0))), (4, .int 0), (3, .int (nI 5)), (2, .ref x), (1, .int 0), (0, .ref x)] dX10_all_20 (by decide) rfl ?_
  refine tw_iload_n 4 dX10_all_22 rfl rfl ?_
  refine tw_iload 0 dX10_all_23 rfl ?_
  refine tw_iadd dX10_all_25 ?_
  refine tw_nmi (fun v3 ev3 => ?_)
  refine tw_istore_n [(1, .int v3), (5, .int (nI (G 0))), (4, .int 0), (3, .int (nI 5)), (2, .ref x), (0, .ref x)] dX10_all_26 rfl (by decide) rfl ?_
  refine tw_iinc [(4, .int 1), (1, .int v3), (5, .int (nI (G 0))), (3, .int (nI 5)), (2, .ref x), (0, .ref x)] 2 dX10_all_27 rfl (by decide) (by decide) rfl ?_
  refine tw_goto 10 dX10_all_30 (by decide) ?_
  refine tw_iload 0 dX10_all_10 rfl ?_
  refine tw_iload_n 3 dX10_all_12 rfl rfl ?_
  refine tw_icmp_ge 33 dX10_all_13 (by decide) (fun c4 => absurd c4 (by decide)) (fun _ => ?_)
  refine tw_aload_n 4 dX10_all_16 rfl rfl ?_
  refine tw_iload 0 dX10_all_17 rfl ?_
  refine tw_iald (v := nI (G 1)) dX10_all_19 hx (vp_in_nI (n := 1) (by decide) (by decide)) (by rw [show ((1 : Int32)).toNatClampNeg = 1 by decide]; exact hG 1 (by decide)) ?_
  refine tw_istore [(5, .int (nI (G 1))), (4, .int 1), (1, .int v3), (3, .int (nI 5)), (2, .ref x), (0, .ref x)] dX10_all_20 (by decide) rfl ?_
  refine tw_iload_n 2 dX10_all_22 rfl rfl ?_
  refine tw_iload 0 dX10_all_23 rfl ?_
  refine tw_iadd dX10_all_25 ?_
  refine tw_nmi (fun v6 ev6 => ?_)
  refine tw_istore_n [(1, .int v6), (5, .int (nI (G 1))), (4, .int 1), (3, .int (nI 5)), (2, .ref x), (0, .ref x)] dX10_all_26 rfl (by decide) rfl ?_
  refine tw_iinc [(4, .int 2), (1, .int v6), (5, .int (nI (G 1))), (3, .int (nI 5)), (2, .ref x), (0, .ref x)] 2 dX10_all_27 rfl (by decide) (by decide) rfl ?_
  refine tw_goto 10 dX10_all_30 (by decide) ?_
  refine tw_iload 0 dX10_all_10 rfl ?_
  refine tw_iload_n 3 dX10_all_12 rfl rfl ?_
  refine tw_icmp_ge 33 dX10_all_13 (by decide) (fun c7 => absurd c7 (by decide)) (fun _ => ?_)
  refine tw_aload_n 4 dX10_all_16 rfl rfl ?_
  refine tw_iload 0 dX10_all_17 rfl ?_
  refine tw_iald (v := nI (G 2)) dX10_all_19 hx (vp_in_nI (n := 2) (by decide) (by decide)) (by rw [show ((2 : Int32)).toNatClampNeg = 2 by decide]; exact hG 2 (by decide)) ?_
  refine tw_istore [(5, .int (nI (G 2))), (4, .int 2), (1, .int v6), (3, .int (nI 5)), (2, .ref x), (0, .ref x)] dX10_all_20 (by decide) rfl ?_
  refine tw_iload_n 2 dX10_all_22 rfl rfl ?_
  refine tw_iload 0 dX10_all_23 rfl ?_
  refine tw_iadd dX10_all_25 ?_
  refine tw_nmi (fun v9 ev9 => ?_)
  refine tw_istore_n [(1, .int v9), (5, .int (nI (G 2))), (4, .int 2), (3, .int (nI 5)), (2, .ref x), (0, .ref x)] dX10_all_26 rfl (by decide) rfl ?_
  refine tw_iinc [(4, .int 3), (1, .int v9), (5, .int (nI (G 2))), (3, .int (nI 5)), (2, .ref x), (0, .ref x)] 2 dX10_all_27 rfl (by decide) (by decide) rfl ?_
  refine tw_goto 10 dX10_all_30 (by decide) ?_
  refine tw_iload 0 dX10_all_10 rfl ?_
  refine tw_iload_n 3 dX10_all_12 rfl rfl ?_
  refine tw_icmp_ge 33 dX10_all_13 (by decide) (fun c10 => absurd c10 (by decide)) (fun _ => ?_)
  refine tw_aload_n 4 dX10_all_16 rfl rfl ?_
  refine tw_iload 0 dX10_all_17 rfl ?_
  refine tw_iald (v := nI (G 3)) dX10_all_19 hx (vp_in_nI (n := 3) (by decide) (by decide)) (by rw [show ((3 : Int32)).toNatClampNeg = 3 by decide]; exact hG 3 (by decide)) ?_
  refine tw_istore [(5, .int (nI (G 3))), (4, .int 3), (1, .int v9), (3, .int (nI 5)), (2, .ref x), (0, .ref x)] dX10_all_20 (by decide) rfl ?_
  refine tw_iload_n 2 dX10_all_22 rfl rfl ?_
  refine tw_iload 0 dX10_all_23 rfl ?_
  refine tw_iadd dX10_all_25 ?_
  refine tw_nmi (fun v12 ev12 => ?_)
  refine tw_istore_n [(1, .int v12), (5, .int (nI (G 3))), (4, .int 3), (3, .int (nI 5)), (2, .ref x), (0, .ref x)] dX10_all_26 rfl (by decide) rfl ?_
  refine tw_iinc [(4, .int 4), (1, .int v12), (5, .int (nI (G 3))), (3, .int (nI 5)), (2, .ref x), (0, .ref x)] 2 dX10_all_27 rfl (by decide) (by decide) rfl ?_
  refine tw_goto 10 dX10_all_30 (by decide) ?_
  refine tw_iload 0 dX10_all_10 rfl ?_
  refine tw_iload_n 3 dX10_all_12 rfl rfl ?_
  refine tw_icmp_ge 33 dX10_all_13 (by decide) (fun c13 => absurd c13 (by decide)) (fun _ => ?_)
  refine tw_aload_n 4 dX10_all_16 rfl rfl ?_
  refine tw_iload 0 dX10_all_17 rfl ?_
  refine tw_iald (v := nI (G 4)) dX10_all_19 hx (vp_in_nI (n := 4) (by decide) (by decide)) (by rw [show ((4 : Int32)).toNatClampNeg = 4 by decide]; exact hG 4 (by decide)) ?_
  refine tw_istore [(5, .int (nI (G 4))), (4, .int 4), (1, .int v12), (3, .int (nI 5)), (2, .ref x), (0, .ref x)] dX10_all_20 (by decide) rfl ?_
  refine tw_iload_n 2 dX10_all_22 rfl rfl ?_
  refine tw_iload 0 dX10_all_23 rfl ?_
  refine tw_iadd dX10_all_25 ?_
  refine tw_nmi (fun v15 ev15 => ?_)
  refine tw_istore_n [(1, .int v15), (5, .int (nI (G 4))), (4, .int 4), (3, .int (nI 5)), (2, .ref x), (0, .ref x)] dX10_all_26 rfl (by decide) rfl ?_
  refine tw_iinc [(4, .int 5), (1, .int v15), (5, .int (nI (G 4))), (3, .int (nI 5)), (2, .ref x), (0, .ref x)] 2 dX10_all_27 rfl (by decide) (by decide) rfl ?_
  refine tw_goto 10 dX10_all_30 (by decide) ?_
  refine tw_iload 0 dX10_all_10 rfl ?_
  refine tw_iload_n 3 dX10_all_12 rfl rfl ?_
  refine tw_icmp_ge 33 dX10_all_13 (by decide) (fun _ => ?_) (fun c16 => absurd (by decide) c16)
  refine tw_iload_n 1 dX10_all_33 rfl rfl ?_
  exact tw_iret dX10_all_34 rfl (Or.inl ⟨_, rfl, rfl, by rw [ev15, ev12, ev9, ev6, ev3]; exact tw_smI0⟩)

set_option maxHeartbeats 4000000 in
set_option maxRecDepth 100000 in
theorem c2_best0 (d : tw_D) (h : tw_H) (t l : Nat) (f : Nat → Int32) (hl : l ≤ 400) : tw_Ct d (mX10_best 0) (tw_wy 0 l) (5 * tw_wy 0 l) [.ref t, .int (nI 5), .int (nI l)] h (tw_qq (fun r h1 => tw_gw h h1 ∧ tw_bR d h h1 r (tw_ch (tw_tn f) 0 l)) tw_nx) := by
  refine tw_of okX10_best_0.1.2.2.2 (Nat.le_of_ble_eq_true rfl) ?_
  show tw_W d (mX10_best 0) _ 0 [(0, .ref t), (1, .int (nI 5)), (2, .int (nI l))] [] h (tw_wy 0 l) (5 * tw_wy 0 l)
  refine tw_iload_n 1 dX10_best_0 rfl rfl ?_
  refine tw_iconst (v := 5) dX10_best_1 (by decide) ?_
  refine tw_icmp_ne 17 dX10_best_2 (by decide) (fun c1 => absurd (rfl) c1) (fun _ => ?_)
  refine tw_iload_n 2 dX10_best_5 rfl rfl ?_
  refine tw_if_ne 15 dX10_best_6 (by decide) (fun c2 => ?_) (fun c2 => ?_)
  · refine tw_null dX10_best_15 ?_
    exact tw_aretN dX10_best_16 rfl (Or.inr ⟨_, rfl⟩) (Or.inl ⟨none, rfl, tw_gw.rf, Or.inl ⟨rfl, if_neg (fun z => c2 (by subst z; rfl))⟩⟩)
  · refine tw_iconst (v := 5) dX10_best_9 (by decide) ?_
    have hl0 : l = 0 := tw_nIj (by show nI l = nI 0; exact c2) (by omega) (by decide)
    have hc0 : tw_wy 0 l = 1 := by rw [hl0]; rfl
    refine tw_newa (a0 := (5, .inl (fun _ => 0))) 0 rfl dX10_best_10 rfl w_500 (fun _ => rfl) (by decide) (by decide) (by decide) 0 0 (by omega) (by omega) (fun q hq hA => ?_)
    refine tw_goto 16 dX10_best_12 (by decide) ?_
    exact tw_aret dX10_best_16 rfl (Or.inr ⟨_, rfl⟩) (Or.inl ⟨some q, rfl, tw_gw.up tw_gw.rf hq, Or.inr ⟨q, _, fun _ => 0, rfl, if_pos hl0, hq, tw_up_s, fun _ _ => rfl⟩⟩)

set_option maxHeartbeats 4000000 in
set_option maxRecDepth 100000 in
theorem c2_best1 (d : tw_D) (m k : Nat) (hk : k + m = 4) (ih : ∀ m9, m9 ≤ m → ∀ (h : tw_H) (t l : Nat) (f : Nat → Int32), h t = some (.inl (d.2 0, 5, .inl f)) → (∀ j, 0 ≤ f j ∧ f j ≤ 9) → l ≤ 400 → tw_Ct d (mX10_best m9) (tw_wy m9 l) (5 * tw_wy m9 l) [.ref t, .int (nI (5 - m9)), .int (nI l)] h (tw_qq (fun r h1 => tw_gw h h1 ∧ tw_bR d h h1 r (tw_ch (tw_tn f) m9 l)) tw_nx)) (h : tw_H) (t l : Nat) (f : Nat → Int32) (ht : h t = some (.inl (d.2 0, 5, .inl f))) (hf : ∀ j, 0 ≤ f j ∧ f j ≤ 9) (hl : l ≤ 400) : tw_Ct d (mX10_best (m + 1)) (tw_wy (m + 1) l) (5 * tw_wy (m + 1) l) [.ref t, .int (nI k), .int (nI l)] h (tw_qq (fun r h1 => tw_gw h h1 ∧ tw_bR d h h1 r (tw_ch (tw_tn f) (m + 1) l)) tw_nx) := by
  refine tw_of okX10_best_0.1.2.2.2 (Nat.le_of_ble_eq_true rfl) ?_
  show tw_W d (mX10_best (m + 1)) _ 0 [(0, .ref t), (1, .int (nI k)), (2, .int (nI l))] [] h (tw_wy (m + 1) l) (5 * tw_wy (m + 1) l)
  have hwy : tw_wy (m + 1) l = tw_sm (fun i => tw_wy m (l - i * tw_ps k)) (min 9 (l / tw_ps k) + 1) := by show tw_sm _ _ = _; rw [show 4 - m = k by omega]
  refine tw_iload_n 1 dX10_best_0 rfl rfl ?_
  refine tw_iconst (v := 5) dX10_best_1 (by decide) ?_
  refine tw_icmp_ne 17 dX10_best_2 (by decide) (fun _ => ?_) (fun c1 => absurd c1 (fun q => absurd (tw_nIj (show nI k = nI 5 from q) (by omega) (by decide)) (by omega)))
  refine tw_null dX10_best_17 ?_
  refine tw_astore_nN [(3, .null), (0, .ref t), (1, .int (nI k)), (2, .int (nI l))] dX10_best_18 rfl (Nat.le_of_ble_eq_true rfl) rfl ?_
  refine tw_aload_n 1 dX10_best_19 rfl rfl ?_
  refine tw_iload_n 2 dX10_best_20 rfl rfl ?_
  obtain ⟨v2, ev2⟩ : ∃ y : Int32, f k = y := ⟨_, rfl⟩
  refine tw_iald (v := v2) dX10_best_21 ht (vp_in_nI (by omega) (by decide)) (by rw [nI_clamp (by omega)]; exact ev2) ?_
  refine tw_iload_n 3 dX10_best_22 rfl rfl ?_
  refine tw_gets (fun _ _ z => z.2.2.2.2.1.1) rfl dX10_best_23 w_1483 ?_
  refine tw_iload_n 2 dX10_best_26 rfl rfl ?_
  refine tw_ti (v := .int (tw_pnd k)) (fun _ _ z => z.2.2.2.2.1.2) dX10_best_27 (vp_in_nI (by omega) (by decide)) (by rw [nI_clamp (by omega)]; rfl) ?_
  refine tw_idiv dX10_best_28 (tw_pndz (by omega)) ?_
  refine tw_nmi (fun v3 ev3 => ?_)
  have qd := tw_divP hl (by omega) ev3
  subst qd
  refine tw_mmin dX10_best_29 w_1485 w_290 w_93 w_291 ⟨by show 1 ≤ 1 + (m + 1); omega, by show 0 + 13 ≤ 25 + (m + 1) * 25; omega⟩ ?_
  refine tw_nmi (fun v4 ev4 => ?_)
  have mq := tw_minX (by rw [← ev2]; exact (hf k).1) (by rw [← ev2]; exact (hf k).2) (Nat.le_trans (Nat.div_le_self _ _) hl) ev4
  have fk9 : tw_tn f k = tw_DN v2 := by unfold tw_tn; rw [if_pos (by omega), ev2]
  have fb9 := tw_tn9 hf k
  obtain ⟨c9, ec9⟩ : ∃ z, z = min (tw_tn f k) (l / tw_ps k) := ⟨_, rfl⟩
  have mr : v4 = nI c9 := by rw [mq, ec9, fk9]
  clear mq
  subst mr
  have hc9 : c9 ≤ min 9 (l / tw_ps k) := by omega
  refine tw_istore [(4, .int (nI c9)), (3, .null), (0, .ref t), (1, .int (nI k)), (2, .int (nI l))] dX10_best_32 (Nat.le_of_ble_eq_true rfl) rfl ?_
  have hcp : c9 * tw_ps k ≤ l := Nat.le_trans (Nat.mul_le_mul_right _ (show c9 ≤ l / tw_ps k by omega)) (Nat.div_mul_le_self _ _)
  have L : ∀ (n : Nat) (hk : tw_H) (o : Option Nat) (A : Option tw_F), n ≤ c9 + 1 → tw_gw h hk → tw_bR d h hk o A → tw_ok9 A → tw_bf (fun n => (tw_ch (tw_tn f) m (l - n * tw_ps k)).map (fun F => tw_fu F k n)) n A = tw_ch (tw_tn f) (m + 1) l → tw_W d (mX10_best (m + 1)) (tw_qq (fun r h1 => tw_gw h h1 ∧ tw_bR d h h1 r (tw_ch (tw_tn f) (m + 1) l)) tw_nx) 34 [(4, .int (nI n + (-1))), (3, va_rf o), (0, .ref t), (1, .int (nI k)), (2, .int (nI l))] [] hk (tw_sm (fun i => tw_wy m (l - i * tw_ps k)) n) (5 * tw_sm (fun i => tw_wy m (l - i * tw_ps k)) n) := by
    intro n
    induction n with
    | zero =>
      intro hk o A hn gw1 ob0 hA hR
      refine tw_iload 0 dX10_best_34 rfl ?_
      refine tw_if_lt 97 dX10_best_36 (by decide) (fun _ => ?_) (fun c5 => absurd (by decide) c5)
      cases o with
      | none =>
        refine tw_aload_nN 1 dX10_best_97 rfl rfl ?_
        exact tw_aretN dX10_best_98 rfl (Or.inr ⟨_, rfl⟩) (Or.inl ⟨none, rfl, gw1, by have z : A = tw_ch (tw_tn f) (m + 1) l := hR; rw [← z]; exact ob0⟩)
      | some b =>
        refine tw_aload_n 1 dX10_best_97 rfl rfl ?_
        exact tw_aret dX10_best_98 rfl (Or.inr ⟨_, rfl⟩) (Or.inl ⟨some b, rfl, gw1, by have z : A = tw_ch (tw_tn f) (m + 1) l := hR; rw [← z]; exact ob0⟩)
    | succ n9 L =>
      intro hk o A hn gw1 ob0 hA hR
      rw [tw_nIm1 n9]
      refine tw_iload 0 dX10_best_34 rfl ?_
      refine tw_if_lt 97 dX10_best_36 (by decide) (fun c6 => absurd c6 (nI_pos (by omega))) (fun _ => ?_)
      refine tw_aload_n 2 dX10_best_39 rfl rfl ?_
      refine tw_iload_n 3 dX10_best_40 rfl rfl ?_
      refine tw_iconst (v := 1) dX10_best_41 (by decide) ?_
      refine tw_iadd dX10_best_42 ?_
      refine tw_nmi (fun v7 ev7 => ?_)
      refine tw_iload_n 4 dX10_best_43 rfl rfl ?_
      refine tw_iload 0 dX10_best_44 rfl ?_
      refine tw_gets (fun _ _ z => z.2.2.2.2.1.1) rfl dX10_best_46 w_1483 ?_
      refine tw_iload_n 3 dX10_best_49 rfl rfl ?_
      refine tw_ti (v := .int (tw_pnd k)) (fun _ _ z => z.2.2.2.2.1.2) dX10_best_50 (vp_in_nI (by omega) (by decide)) (by rw [nI_clamp (by omega)]; rfl) ?_
      refine tw_imul dX10_best_51 ?_
      refine tw_nmi (fun v8 ev8 => ?_)
      refine tw_isub dX10_best_52 ?_
      refine tw_nmi (fun v9 ev9 => ?_)
      have hnp : n9 * tw_ps k ≤ l := Nat.le_trans (Nat.mul_le_mul_right _ (by omega)) hcp
      have qk : v7 = nI (5 - m) := by rw [ev7, nI_1, show k + 1 = 5 - m by omega]
      subst qk
      have ql := tw_subM hl (by omega) hnp ev8 ev9
      subst ql
      refine tw_bq (tw_callS (okX10_best m) dX10_best_53 w_1480 [.ref t, .int (nI (5 - m)), .int (nI (l - n9 * tw_ps k))] [] rfl rfl ⟨by show 1 + m + 1 ≤ 1 + (m + 1); omega, by show 8 + (6 + 11) + (25 + m * 25) ≤ 25 + (m + 1) * 25; omega⟩ (Nat.le_of_ble_eq_true rfl) (ih m (by omega) hk t (l - n9 * tw_ps k) f (gw1 _ _ ht) hf (by omega)) (tw_sm (fun i => tw_wy m (l - i * tw_ps k)) n9) (5 * tw_sm (fun i => tw_wy m (l - i * tw_ps k)) n9) (Nat.le_refl _) (by rw [← Nat.mul_add]; exact Nat.le_refl _)) (fun r h1 q => ?_) (fun E h1 q => q.elim)
      obtain ⟨qg, qr⟩ := q
      have gw2 := gw1.tr qg
      have hR2 : tw_bf (fun n => (tw_ch (tw_tn f) m (l - n * tw_ps k)).map (fun F => tw_fu F k n)) n9 (tw_pick A ((fun n => (tw_ch (tw_tn f) m (l - n * tw_ps k)).map (fun F => tw_fu F k n)) n9)) = tw_ch (tw_tn f) (m + 1) l := hR
      cases r with
      | none =>
        have cN : (fun n => (tw_ch (tw_tn f) m (l - n * tw_ps k)).map (fun F => tw_fu F k n)) n9 = none := by show Option.map _ (tw_ch (tw_tn f) m (l - n9 * tw_ps k)) = none; rw [qr.n]; rfl
        rw [cN] at hR2
        refine tw_astoreN [(5, .null), (4, .int (nI n9)), (3, va_rf o), (0, .ref t), (1, .int (nI k)), (2, .int (nI l))] dX10_best_56 (Nat.le_of_ble_eq_true rfl) rfl ?_
        refine tw_aloadN 0 dX10_best_58 rfl ?_
        refine tw_ifnonnullN dX10_best_60 ?_
        refine tw_goto 91 dX10_best_63 (by decide) ?_
        cases o with
        | none =>
          obtain ⟨v10, ev10⟩ : ∃ y : Int32, y = (nI n9) + (-1) := ⟨_, rfl⟩
          refine tw_iinc [(4, .int v10), (5, .null), (3, .null), (0, .ref t), (1, .int (nI k)), (2, .int (nI l))] 1 dX10_best_91 rfl (by rw [ev10]; rfl) (Nat.le_of_ble_eq_true rfl) rfl ?_
          refine tw_goto 34 dX10_best_94 (by decide) ?_
          rw [ev10]
          refine tw_lv [0, 2, 3, 4, 5] rfl ?_
          exact L h1 none A (by omega) gw2 ((ob0.mono qg)) hA hR2
        | some b =>
          obtain ⟨v11, ev11⟩ : ∃ y : Int32, y = (nI n9) + (-1) := ⟨_, rfl⟩
          refine tw_iinc [(4, .int v11), (5, .null), (3, .ref b), (0, .ref t), (1, .int (nI k)), (2, .int (nI l))] 1 dX10_best_91 rfl (by rw [ev11]; rfl) (Nat.le_of_ble_eq_true rfl) rfl ?_
          refine tw_goto 34 dX10_best_94 (by decide) ?_
          rw [ev11]
          refine tw_lv [0, 2, 3, 4, 5] rfl ?_
          exact L h1 (some b) A (by omega) gw2 ((ob0.mono qg)) hA hR2
      | some q =>
        obtain ⟨F, GX, eX, hq, hF, hFe⟩ := qr.s
        have cS : (fun n => (tw_ch (tw_tn f) m (l - n * tw_ps k)).map (fun F => tw_fu F k n)) n9 = some (tw_fu GX k n9) := by show Option.map _ (tw_ch (tw_tn f) m (l - n9 * tw_ps k)) = _; rw [eX]; rfl
        rw [cS] at hR2
        have x45 : tw_sum5 (tw_fu GX k n9) ≤ 45 := tw_fu45 (tw_tn9 hf) (tw_ch_0 _ _ _ eX).2 (by omega)
        refine tw_astore [(5, .ref q), (4, .int (nI n9)), (3, va_rf o), (0, .ref t), (1, .int (nI k)), (2, .int (nI l))] dX10_best_56 (Nat.le_of_ble_eq_true rfl) rfl ?_
        refine tw_aload 0 dX10_best_58 rfl ?_
        refine tw_ifnonnull 66 dX10_best_60 (by decide) ?_
        refine tw_aload 0 dX10_best_66 rfl ?_
        refine tw_iload_n 4 dX10_best_68 rfl rfl ?_
        refine tw_iload 1 dX10_best_69 rfl ?_
        refine tw_iast dX10_best_71 hF (vp_in_nI (by omega) (by decide)) ?_
        rw [nI_clamp (by omega)]
        obtain ⟨h2, eh2⟩ : ∃ z : tw_H, z = tw_up h1 q (.inl (d.2 0, 5, .inl (upd F k (nI n9)))) := ⟨_, rfl⟩
        rw [← eh2]
        have hF2 : h2 q = some (.inl (d.2 0, 5, .inl (upd F k (nI n9)))) := by rw [eh2]; exact tw_up_s
        have gw3 : tw_gw h h2 := by rw [eh2]; exact gw2.up (gw1.nn hq)
        cases o with
        | none =>
          have eA := ob0.n
          rw [eA] at hR2
          refine tw_aload_nN 2 dX10_best_72 rfl rfl ?_
          refine tw_ifnullN 88 dX10_best_73 (by decide) ?_
          refine tw_aload 0 dX10_best_88 rfl ?_
          refine tw_astore_n [(3, .ref q), (5, .ref q), (4, .int (nI n9)), (0, .ref t), (1, .int (nI k)), (2, .int (nI l))] dX10_best_90 rfl (Nat.le_of_ble_eq_true rfl) rfl ?_
          obtain ⟨v12, ev12⟩ : ∃ y : Int32, y = (nI n9) + (-1) := ⟨_, rfl⟩
          refine tw_iinc [(4, .int v12), (3, .ref q), (5, .ref q), (0, .ref t), (1, .int (nI k)), (2, .int (nI l))] 2 dX10_best_91 rfl (by rw [ev12]; rfl) (Nat.le_of_ble_eq_true rfl) rfl ?_
          refine tw_goto 34 dX10_best_94 (by decide) ?_
          rw [ev12]
          refine tw_lv [0, 1, 3, 4, 5] rfl ?_
          exact L h2 (some q) (some (tw_fu GX k n9)) (by omega) gw3 ((Or.inr ⟨q, _, _, rfl, rfl, gw1.nn hq, hF2, tw_fuI hFe⟩)) (fun G z => by cases z; exact x45) hR2
        | some b =>
          obtain ⟨F7, GA, eA, hb0, hG, hGe⟩ := ob0.s
          rw [eA] at hR2
          have a45 := hA GA eA
          have hG2 : h2 b = some (.inl (d.2 0, 5, .inl F7)) := by rw [eh2, tw_up_n (tw_neF hG hq)]; exact qg b _ hG
          refine tw_aload_n 2 dX10_best_72 rfl rfl ?_
          refine tw_ifnull dX10_best_73 ?_
          refine tw_aload 0 dX10_best_76 rfl ?_
          refine tw_bi (tw_callS okX10_all dX10_best_78 w_1486 [.ref q] [] rfl rfl ⟨by show 0 + 1 ≤ 1 + (m + 1); omega, by show 8 + (6 + 11) + 0 ≤ 25 + (m + 1) * 25; omega⟩ (Nat.le_of_ble_eq_true rfl) (c2_X10_all d h2 q (upd F k (nI n9)) hF2 (tw_fu GX k n9) (tw_fuI hFe)) (tw_sm (fun i => tw_wy m (l - i * tw_ps k)) n9) (5 * tw_sm (fun i => tw_wy m (l - i * tw_ps k)) n9) (by omega) (by omega)) (fun r15 h14 q13 => ?_) (fun E h1 q => q.elim)
          obtain ⟨q13e, q13v⟩ := q13
          rw [q13e, q13v]
          refine tw_aload_n 2 dX10_best_81 rfl rfl ?_
          refine tw_bi (tw_callS okX10_all dX10_best_82 w_1486 [.ref b] [.int (nI (tw_sum5 (tw_fu GX k n9)))] rfl rfl ⟨by show 0 + 1 ≤ 1 + (m + 1); omega, by show 8 + (6 + 11) + 0 ≤ 25 + (m + 1) * 25; omega⟩ (Nat.le_of_ble_eq_true rfl) (c2_X10_all d h2 b F7 hG2 GA hGe) (tw_sm (fun i => tw_wy m (l - i * tw_ps k)) n9) (5 * tw_sm (fun i => tw_wy m (l - i * tw_ps k)) n9) (by omega) (by omega)) (fun r18 h17 q16 => ?_) (fun E h1 q => q.elim)
          obtain ⟨q16e, q16v⟩ := q16
          rw [q16e, q16v]
          refine tw_icmp_ge 91 dX10_best_85 (by decide) (fun c19 => ?_) (fun c19 => ?_)
          · have pk : tw_pick (some GA) (some (tw_fu GX k n9)) = some GA := if_neg (fun z => absurd (nI_lt z (by omega)) (Int32.not_lt.mpr c19))
            rw [pk] at hR2
            obtain ⟨v20, ev20⟩ : ∃ y : Int32, y = (nI n9) + (-1) := ⟨_, rfl⟩
            refine tw_iinc [(4, .int v20), (5, .ref q), (3, .ref b), (0, .ref t), (1, .int (nI k)), (2, .int (nI l))] 1 dX10_best_91 rfl (by rw [ev20]; rfl) (Nat.le_of_ble_eq_true rfl) rfl ?_
            refine tw_goto 34 dX10_best_94 (by decide) ?_
            rw [ev20]
            refine tw_lv [0, 2, 3, 4, 5] rfl ?_
            exact L h2 (some b) (some GA) (by omega) gw3 ((Or.inr ⟨b, _, GA, rfl, rfl, hb0, hG2, hGe⟩)) (fun G z => by cases z; exact a45) hR2
          · have pk : tw_pick (some GA) (some (tw_fu GX k n9)) = some (tw_fu GX k n9) := if_pos (by rcases Nat.lt_or_ge (tw_sum5 (tw_fu GX k n9)) (tw_sum5 GA) with z | z; exact z; exact absurd (nI_le z (by omega)) c19)
            rw [pk] at hR2
            refine tw_aload 0 dX10_best_88 rfl ?_
            refine tw_astore_n [(3, .ref q), (5, .ref q), (4, .int (nI n9)), (0, .ref t), (1, .int (nI k)), (2, .int (nI l))] dX10_best_90 rfl (Nat.le_of_ble_eq_true rfl) rfl ?_
            obtain ⟨v21, ev21⟩ : ∃ y : Int32, y = (nI n9) + (-1) := ⟨_, rfl⟩
            refine tw_iinc [(4, .int v21), (3, .ref q), (5, .ref q), (0, .ref t), (1, .int (nI k)), (2, .int (nI l))] 2 dX10_best_91 rfl (by rw [ev21]; rfl) (Nat.le_of_ble_eq_true rfl) rfl ?_
            refine tw_goto 34 dX10_best_94 (by decide) ?_
            rw [ev21]
            refine tw_lv [0, 1, 3, 4, 5] rfl ?_
            exact L h2 (some q) (some (tw_fu GX k n9)) (by omega) gw3 ((Or.inr ⟨q, _, _, rfl, rfl, gw1.nn hq, hF2, tw_fuI hFe⟩)) (fun G z => by cases z; exact x45) hR2
  rw [← tw_nIm1 c9]
  refine tw_lv [0, 1, 2, 3, 4] rfl ?_
  refine tw_less (c2 := tw_sm (fun i => tw_wy m (l - i * tw_ps k)) (c9 + 1)) (n2 := 5 * tw_sm (fun i => tw_wy m (l - i * tw_ps k)) (c9 + 1)) (by rw [hwy]; exact tw_sm_le (by omega)) (Nat.mul_le_mul_left 5 (by rw [hwy]; exact tw_sm_le (by omega))) ?_
  exact L (c9 + 1) h none none (Nat.le_refl _) tw_gw.rf (Or.inl ⟨rfl, rfl⟩) (fun F z => by cases z) (by rw [tw_chR (tw_tn f) hk l, ← ec9])

theorem c2_best (d : tw_D) : ∀ M9 m, m ≤ M9 → m ≤ 5 → ∀ (h : tw_H) (t l : Nat) (f : Nat → Int32), h t = some (.inl (d.2 0, 5, .inl f)) → (∀ j, 0 ≤ f j ∧ f j ≤ 9) → l ≤ 400 → tw_Ct d (mX10_best m) (tw_wy m l) (5 * tw_wy m l) [.ref t, .int (nI (5 - m)), .int (nI l)] h (tw_qq (fun r h1 => tw_gw h h1 ∧ tw_bR d h h1 r (tw_ch (tw_tn f) m l)) tw_nx) := by
  intro M9
  induction M9 with
  | zero =>
    intro m hm _ h t l f ht hf hl
    obtain rfl : m = 0 := by omega
    exact c2_best0 d h t l f hl
  | succ M9 ih =>
    intro m hm h5 h t l f ht hf hl
    cases m with
    | zero => exact c2_best0 d h t l f hl
    | succ m =>
      rw [show 5 - (m + 1) = 4 - m by omega]
      exact c2_best1 d m (4 - m) (by omega) (fun m9 h9 => ih m9 (by omega) (by omega)) h t l f ht hf hl

theorem tw_n5 {k : Int32} (h : ¬ (0 ≤ k ∧ k ≤ 4)) : ¬ tw_ix 5 k := by
  rintro ⟨j, hj, rfl⟩
  exact h ⟨nI_le (a := 0) (Nat.zero_le j) (by omega), nI_le (b := 4) (by omega) (by decide)⟩
theorem tw_k5 {k : Int32} (h1 : 0 ≤ k) (h2 : k ≤ 4) : ∃ j, j < 5 ∧ k = nI j := by
  obtain ⟨n, -, h, e⟩ := tw_I_rng (a := 0) (b := 4) h1 h2 (by decide) (by decide)
  exact ⟨n, by omega, e⟩
set_option maxHeartbeats 4000000 in
set_option maxRecDepth 100000 in
theorem c2_X10_till (d : tw_D) (g : tw_G) (τ : tw_K) (h : tw_H) (hw : tw_wt d g τ h) (x : Nat) (kx : τ x = 36) (n : Int32) (kd : Int32) (my : Int32) (o : Nat) (ko : τ o = 12) : tw_Ct d mX10_till 0 0 [.ref x, .int n, .int kd, .int my] h (tw_qi (fun r9 h1 => ∃ g1 τ1, tw_sp d τ h g1 τ1 h1 ∧ h1 o = h o ∧ ((¬ (tw_ix (g.2 3) n ∧ tw_ix 5 kd) ∧ tw_th (h1 x) = 1 ∧ g1 = g) ∨ ((tw_ix (g.2 3) n ∧ tw_ix 5 kd) ∧ ¬ tw_R9 my ∧ tw_th (h1 x) = 2 ∧ g1 = g) ∨ ((tw_ix (g.2 3) n ∧ tw_ix 5 kd) ∧ tw_R9 my ∧ r9 = g.1 (480 + 64 * tw_DN n + 24 + tw_DN kd) ∧ tw_th (h1 x) = 0 ∧ g1 = tw_g1 g (480 + 64 * tw_DN n + 24 + tw_DN kd) my))) tw_nx) := by
  refine tw_of (by decide +kernel) (Nat.le_of_ble_eq_true rfl) ?_
  show tw_W d mX10_till _ 0 [(0, .ref x), (1, .int n), (2, .int kd), (3, .int my)] [] h 0 0
  have sp0 := tw_sp.rf hw
  have oq0 : h o = h o := rfl
  refine tw_aload_n 0 dX10_till_0 rfl rfl ?_
  refine tw_aload_n 0 dX10_till_1 rfl rfl ?_
  refine tw_iload_n 1 dX10_till_2 rfl rfl ?_
  obtain ⟨e1, f2, th_3, td_4, ds_5, fr_6, ca_7, us_8, wo_9, cm_10, lc_11, lh_12, ld_13, rfl, k14, k15, k16, k17, k18, k19, k20, k21, k22, k23, k24, k25, k26, k27, k28, k29, k30, k31, k32, k33, k34, k35⟩ := sp0.1 x 36 kx (by decide)
  refine tw_bi (tw_callV (M := mX10_till) (pc := 3) okX10_isNoCountry dX10_till_3 w_1288 rfl f2 [.int n] [.ref x] rfl rfl ⟨by decide, by decide⟩ (Nat.le_of_ble_eq_true rfl) (c2_X10_isNoCountry d g τ h sp0.1 x kx n) 0 0 (Nat.le_of_ble_eq_true rfl) (Nat.le_of_ble_eq_true rfl)) (fun r38 h37 q36 => ?_) (fun E h1 q => q.elim)
  obtain ⟨q36e, q36d⟩ := q36
  rw [q36e]
  rcases q36d with ⟨q36r, q36n⟩ | ⟨q36r, q36i⟩
  · rw [q36r]
    refine tw_if_ne 18 dX10_till_6 (by decide) (fun _ => ?_) (fun c39 => absurd c39 (by decide))
    refine tw_iconst (v := 1) dX10_till_18 (by decide) ?_
    refine tw_goto 23 dX10_till_19 (by decide) ?_
    refine tw_iconst (v := 1) dX10_till_23 (by decide) ?_
    refine tw_bi (tw_callV (M := mX10_till) (pc := 24) okX10_start dX10_till_24 w_1196 rfl f2 [.int 1, .int 1] [] rfl rfl ⟨by decide, by decide⟩ (Nat.le_of_ble_eq_true rfl) (c_X10_start d g τ h sp0.1 x kx 1 1 (by decide)) 0 0 (Nat.le_of_ble_eq_true rfl) (Nat.le_of_ble_eq_true rfl)) (fun r42 h41 q40 => ?_) (fun E h1 q => q.elim)
    obtain ⟨e43, he44, hs45, hr46, hc47⟩ := q40
    obtain ⟨rz48, tz49⟩ := hc47.2 rfl
    have th50 : tw_th (h41 x) = 1 := by rw [he44, tw_up_s]; exact tz49
    have sp51 : tw_sp d τ h g τ h41 := by rw [he44]; exact sp0.set kx (by decide) hs45
    rw [rz48]
    have oq52 : h41 o = h o := by rw [he44, tw_up_n (tw_nk ko kx (by decide))] <;> exact oq0
    refine tw_if_ne 53 dX10_till_27 (by decide) (fun _ => ?_) (fun c53 => absurd c53 (by decide))
    refine tw_iconst (v := 0) dX10_till_53 (by decide) ?_
    exact tw_iret dX10_till_54 rfl (Or.inl ⟨_, rfl, _, _, sp51, oq52, Or.inl ⟨fun z => q36n z.1, th50, rfl⟩⟩)
  · rw [q36r]
    have q36x := q36i
    obtain ⟨jn, q36j, q36k⟩ := q36i
    subst q36k
    have cDn : tw_DN (nI jn) = jn := nI_clamp (by omega)
    refine tw_if_ne 18 dX10_till_6 (by decide) (fun c54 => absurd (by decide) c54) (fun _ => ?_)
    refine tw_iload_n 2 dX10_till_9 rfl rfl ?_
    refine tw_iconst (v := 0) dX10_till_10 (by decide) ?_
    refine tw_iconst (v := 4) dX10_till_11 (by decide) ?_
    refine tw_bi (tw_callS (M := mX10_till) (pc := 12) okX10_isIn dX10_till_12 w_1192 [.int kd, .int 0, .int 4] [.ref x] rfl rfl ⟨by decide, by decide⟩ (Nat.le_of_ble_eq_true rfl) (c_X10_isIn d g τ h sp0.1 kd 0 4) 0 0 (Nat.le_of_ble_eq_true rfl) (Nat.le_of_ble_eq_true rfl)) (fun r57 h56 q55 => ?_) (fun E h1 q => q.elim)
    obtain ⟨q55e, q55d⟩ := q55
    rw [q55e]
    rcases q55d with ⟨q55r, q55n⟩ | ⟨q55r, rk9⟩
    · rw [q55r]
      refine tw_if_ne 22 dX10_till_15 (by decide) (fun c58 => absurd (by decide) c58) (fun _ => ?_)
      refine tw_iconst (v := 1) dX10_till_18 (by decide) ?_
      refine tw_goto 23 dX10_till_19 (by decide) ?_
      refine tw_iconst (v := 1) dX10_till_23 (by decide) ?_
      refine tw_bi (tw_callV (M := mX10_till) (pc := 24) okX10_start dX10_till_24 w_1196 rfl f2 [.int 1, .int 1] [] rfl rfl ⟨by decide, by decide⟩ (Nat.le_of_ble_eq_true rfl) (c_X10_start d g τ h sp0.1 x kx 1 1 (by decide)) 0 0 (Nat.le_of_ble_eq_true rfl) (Nat.le_of_ble_eq_true rfl)) (fun r61 h60 q59 => ?_) (fun E h1 q => q.elim)
      obtain ⟨e62, he63, hs64, hr65, hc66⟩ := q59
      obtain ⟨rz67, tz68⟩ := hc66.2 rfl
      have th69 : tw_th (h60 x) = 1 := by rw [he63, tw_up_s]; exact tz68
      have sp70 : tw_sp d τ h g τ h60 := by rw [he63]; exact sp0.set kx (by decide) hs64
      rw [rz67]
      have oq71 : h60 o = h o := by rw [he63, tw_up_n (tw_nk ko kx (by decide))] <;> exact oq0
      refine tw_if_ne 53 dX10_till_27 (by decide) (fun _ => ?_) (fun c72 => absurd c72 (by decide))
      refine tw_iconst (v := 0) dX10_till_53 (by decide) ?_
      exact tw_iret dX10_till_54 rfl (Or.inl ⟨_, rfl, _, _, sp70, oq71, Or.inl ⟨fun z => (tw_n5 q55n) z.2, th69, rfl⟩⟩)
    · rw [q55r]
      obtain ⟨k, hk, ek⟩ := tw_k5 rk9.1 rk9.2
      have ixk : tw_ix 5 kd := ⟨k, hk, ek⟩
      have ix0 := And.intro q36x ixk
      subst ek
      have cDkd : tw_DN (nI k) = k := nI_clamp (by omega)
      refine tw_if_ne 22 dX10_till_15 (by decide) (fun _ => ?_) (fun c73 => absurd c73 (by decide))
      refine tw_iconst (v := 0) dX10_till_22 (by decide) ?_
      refine tw_iconst (v := 1) dX10_till_23 (by decide) ?_
      refine tw_bi (tw_callV (M := mX10_till) (pc := 24) okX10_start dX10_till_24 w_1196 rfl f2 [.int 0, .int 1] [] rfl rfl ⟨by decide, by decide⟩ (Nat.le_of_ble_eq_true rfl) (c_X10_start d g τ h sp0.1 x kx 0 1 (by decide)) 0 0 (Nat.le_of_ble_eq_true rfl) (Nat.le_of_ble_eq_true rfl)) (fun r76 h75 q74 => ?_) (fun E h1 q => q.elim)
      obtain ⟨e77, he78, hs79, hr80, hc81⟩ := q74
      obtain ⟨rz82, tz83⟩ := hc81.1 rfl
      have th84 : tw_th (h75 x) = 0 := by rw [he78, tw_up_s]; exact tz83
      have sp85 : tw_sp d τ h g τ h75 := by rw [he78]; exact sp0.set kx (by decide) hs79
      rw [rz82]
      have oq86 : h75 o = h o := by rw [he78, tw_up_n (tw_nk ko kx (by decide))] <;> exact oq0
      refine tw_if_ne 53 dX10_till_27 (by decide) (fun c87 => absurd (by decide) c87) (fun _ => ?_)
      refine tw_aload_n 0 dX10_till_30 rfl rfl ?_
      refine tw_iload_n 3 dX10_till_31 rfl rfl ?_
      refine tw_iconst (v := 0) dX10_till_32 (by decide) ?_
      refine tw_bipush (v := 9) dX10_till_33 (by decide) ?_
      refine tw_bi (tw_callS (M := mX10_till) (pc := 35) okX10_isIn dX10_till_35 w_1192 [.int my, .int 0, .int 9] [.ref x] rfl rfl ⟨by decide, by decide⟩ (Nat.le_of_ble_eq_true rfl) (c_X10_isIn d g τ h75 sp85.1 my 0 9) 0 0 (Nat.le_of_ble_eq_true rfl) (Nat.le_of_ble_eq_true rfl)) (fun r90 h89 q88 => ?_) (fun E h1 q => q.elim)
      obtain ⟨q88e, q88d⟩ := q88
      rw [q88e]
      rcases q88d with ⟨q88r, q88n⟩ | ⟨q88r, q88a, q88b⟩
      · rw [q88r]
        refine tw_if_ne 45 dX10_till_38 (by decide) (fun c91 => absurd (by decide) c91) (fun _ => ?_)
        refine tw_iconst (v := 1) dX10_till_41 (by decide) ?_
        refine tw_goto 46 dX10_till_42 (by decide) ?_
        refine tw_iconst (v := 2) dX10_till_46 (by decide) ?_
        obtain ⟨e92, f93, th_94, td_95, ds_96, fr_97, ca_98, us_99, wo_100, cm_101, lc_102, lh_103, ld_104, rfl, k105, k106, k107, k108, k109, k110, k111, k112, k113, k114, k115, k116, k117, k118, k119, k120, k121, k122, k123, k124, k125, k126⟩ := sp85.1 x 36 kx (by decide)
        refine tw_bi (tw_callV (M := mX10_till) (pc := 47) okX10_refuse dX10_till_47 w_1200 rfl f93 [.int 1, .int 2] [] rfl rfl ⟨by decide, by decide⟩ (Nat.le_of_ble_eq_true rfl) (c_X10_refuse d g τ h75 sp85.1 x kx 1 2 (by decide)) 0 0 (Nat.le_of_ble_eq_true rfl) (Nat.le_of_ble_eq_true rfl)) (fun r129 h128 q127 => ?_) (fun E h1 q => q.elim)
        obtain ⟨e130, he131, hs132, hr133, hc134⟩ := q127
        obtain ⟨rz135, tz136⟩ := (hc134 th84).2 rfl
        have th137 : tw_th (h128 x) = 2 := by rw [he131, tw_up_s]; exact tz136
        have sp138 : tw_sp d τ h g τ h128 := by rw [he131]; exact sp85.set kx (by decide) hs132
        rw [rz135]
        have oq139 : h128 o = h o := by rw [he131, tw_up_n (tw_nk ko kx (by decide))] <;> exact oq86
        refine tw_if_eq 55 dX10_till_50 (by decide) (fun c140 => absurd c140 (by decide)) (fun _ => ?_)
        refine tw_iconst (v := 0) dX10_till_53 (by decide) ?_
        exact tw_iret dX10_till_54 rfl (Or.inl ⟨_, rfl, _, _, sp138, oq139, Or.inr (Or.inl ⟨ix0, fun z => q88n z, th137, rfl⟩)⟩)
      · rw [q88r]
        refine tw_if_ne 45 dX10_till_38 (by decide) (fun _ => ?_) (fun c141 => absurd c141 (by decide))
        refine tw_iconst (v := 0) dX10_till_45 (by decide) ?_
        refine tw_iconst (v := 2) dX10_till_46 (by decide) ?_
        obtain ⟨e142, f143, th_144, td_145, ds_146, fr_147, ca_148, us_149, wo_150, cm_151, lc_152, lh_153, ld_154, rfl, k155, k156, k157, k158, k159, k160, k161, k162, k163, k164, k165, k166, k167, k168, k169, k170, k171, k172, k173, k174, k175, k176⟩ := sp85.1 x 36 kx (by decide)
        refine tw_bi (tw_callV (M := mX10_till) (pc := 47) okX10_refuse dX10_till_47 w_1200 rfl f143 [.int 0, .int 2] [] rfl rfl ⟨by decide, by decide⟩ (Nat.le_of_ble_eq_true rfl) (c_X10_refuse d g τ h75 sp85.1 x kx 0 2 (by decide)) 0 0 (Nat.le_of_ble_eq_true rfl) (Nat.le_of_ble_eq_true rfl)) (fun r179 h178 q177 => ?_) (fun E h1 q => q.elim)
        obtain ⟨e180, he181, hs182, hr183, hc184⟩ := q177
        obtain ⟨rz185, tz186⟩ := (hc184 th84).1 rfl
        have th187 : tw_th (h178 x) = 0 := by rw [he181, tw_up_s]; exact tz186
        have sp188 : tw_sp d τ h g τ h178 := by rw [he181]; exact sp85.set kx (by decide) hs182
        rw [rz185]
        have oq189 : h178 o = h o := by rw [he181, tw_up_n (tw_nk ko kx (by decide))] <;> exact oq86
        refine tw_if_eq 55 dX10_till_50 (by decide) (fun _ => ?_) (fun c190 => absurd (by decide) c190)
        refine tw_aload_n 0 dX10_till_55 rfl rfl ?_
        obtain ⟨e191, f192, th_193, td_194, ds_195, fr_196, ca_197, us_198, wo_199, cm_200, lc_201, lh_202, ld_203, rfl, k204, k205, k206, k207, k208, k209, k210, k211, k212, k213, k214, k215, k216, k217, k218, k219, k220, k221, k222, k223, k224, k225⟩ := sp188.1 x 36 kx (by decide)
        refine tw_get (v := .ref lc_201) rfl in_14 9 dX10_till_56 w_1160 rfl (by decide) f192 rfl ?_
        refine tw_iload_n 1 dX10_till_59 rfl rfl ?_
        obtain ⟨e226, f227, ⟨el228, rfl, k229⟩, k230⟩ := sp188.1 lc_201 24 k210 (by decide)
        refine tw_br (tw_callV (M := mX10_till) (pc := 60) okJx4a65c_get_915e3 dX10_till_60 w_1292 rfl f227 [.int (nI jn)] [] rfl rfl ⟨by decide, by decide⟩ (Nat.le_of_ble_eq_true rfl) (c24_get d g τ h178 sp188.1 lc_201 k210 jn (by omega) (by omega)) 0 0 (Nat.le_of_ble_eq_true rfl) (Nat.le_of_ble_eq_true rfl)) (fun r233 h232 q231 => ?_) (fun E h1 q => q.elim)
        obtain ⟨q231e, q231k⟩ := q231
        rw [q231e]
        have el234 : tw_el h178 (g.2 12) jn = r233 := by rw [← k230]; exact q231k.2.symm
        have kl235 : τ (g.2 12) = 24 := by rw [← k230]; exact k210
        have id236 : g.2 (4096 + r233) = 480 + 64 * jn := by rw [← el234]; exact tw_eli24 sp188.1 kl235 (by omega)
        obtain ⟨e237, f238, r_239, c_240, v_241, o_242, t_243, rfl, k244, k245, k246, k247, k248, k249⟩ := sp188.1 r233 21 q231k.1 (by decide)
        obtain ⟨j250, ow251, fr9, fc9, q252, q253, q254⟩ := k249
        obtain rfl : jn = j250 := by have z := ow251.b id236; omega
        subst fr9 fc9
        refine tw_castS (ci := 11) rfl dX10_till_63 w_1208 f238 ?_
        refine tw_get (v := .ref t_243) rfl in_11 4 dX10_till_66 w_1221 rfl (by decide) f238 rfl ?_
        refine tw_iload_n 2 dX10_till_69 rfl rfl ?_
        obtain ⟨e255, f256, F257, rfl, k259, ⟨b260, ow261, wv262⟩⟩ := sp188.1 t_243 33 k246 (by decide)
        obtain rfl : b260 = (480 + 64 * jn + 24) := ow261.b q253
        have ev263 : F257 ((nI k)).toNatClampNeg = (g.1 ((480 + 64 * jn + 24) + k)) := by rw [nI_clamp (by omega)]; exact wv262 k (by omega)
        refine tw_iald (v := (g.1 ((480 + 64 * jn + 24) + k))) dX10_till_70 f256 (vp_in_nI (by omega) (by decide)) ev263 ?_
        refine tw_istore [(4, .int (g.1 ((480 + 64 * jn + 24) + k))), (0, .ref x), (1, .int (nI jn)), (2, .int (nI k)), (3, .int my)] dX10_till_71 (by decide) rfl ?_
        refine tw_aload_n 1 dX10_till_73 rfl rfl ?_
        refine tw_get (v := .ref lc_201) rfl in_14 9 dX10_till_74 w_1160 rfl (by decide) f192 rfl ?_
        refine tw_iload_n 2 dX10_till_77 rfl rfl ?_
        refine tw_br (tw_callV (M := mX10_till) (pc := 78) okJx4a65c_get_915e3 dX10_till_78 w_1292 rfl f227 [.int (nI jn)] [] rfl rfl ⟨by decide, by decide⟩ (Nat.le_of_ble_eq_true rfl) (c24_get d g τ h178 sp188.1 lc_201 k210 jn (by omega) (by omega)) 0 0 (Nat.le_of_ble_eq_true rfl) (Nat.le_of_ble_eq_true rfl)) (fun r266 h265 q264 => ?_) (fun E h1 q => q.elim)
        obtain ⟨q264e, q264k⟩ := q264
        rw [q264e]
        have q264ky : r266 = r233 := q264k.2.trans (by rw [k230]; exact el234)
        rw [q264ky]
        refine tw_castS (ci := 11) rfl dX10_till_81 w_1208 f238 ?_
        refine tw_get (v := .ref t_243) rfl in_11 4 dX10_till_84 w_1221 rfl (by decide) f238 rfl ?_
        refine tw_iload_n 3 dX10_till_87 rfl rfl ?_
        refine tw_iload_n 4 dX10_till_88 rfl rfl ?_
        refine tw_iast dX10_till_89 f256 (vp_in_nI (by omega) (by decide)) ?_
        rw [nI_clamp (by omega)]
        obtain ⟨h267, eh267⟩ : ∃ z : tw_H, z = tw_up h178 t_243 (.inl (d.2 0, 5, .inl (upd F257 k my))) := ⟨_, rfl⟩
        rw [← eh267]
        have th268 : tw_th (h267 x) = 0 := by rw [eh267, tw_up_n (tw_nk kx k246 (by decide))] <;> exact th187
        have oq269 : h267 o = h o := by rw [eh267, tw_up_n (tw_nk ko k246 (by decide))] <;> exact oq189
        have sp270 : tw_sp d τ h (tw_g1 g ((480 + 64 * jn + 24) + k) my) τ h267 := by rw [eh267]; exact sp188.wb k246 (by decide) ow261 ⟨_, rfl, (tw_tk k259 q88a q88b), tw_f6.up ow261 wv262⟩ (fun q9 hq9 => tw_g1_ne (by omega)) rfl
        refine tw_iload 0 dX10_till_90 rfl ?_
        exact tw_iret dX10_till_92 rfl (Or.inl ⟨_, rfl, _, _, sp270, oq269, Or.inr (Or.inr ⟨ix0, ⟨q88a, q88b⟩, (by rw [cDn, cDkd]), th268, (by rw [cDn, cDkd])⟩)⟩)

set_option maxHeartbeats 4000000 in
set_option maxRecDepth 100000 in
theorem c2_X10_give (d : tw_D) (g : tw_G) (τ : tw_K) (h : tw_H) (hw : tw_wt d g τ h) (x : Nat) (kx : τ x = 36) (n am : Int32) (o : Nat) (ko : τ o = 12) : tw_Ct d mX10_give 500 2500 [.ref x, .int n, .int am] h (tw_qi (fun r9 h1 => ∃ g1 τ1, tw_sp d τ h g1 τ1 h1 ∧ h1 o = h o ∧ ((¬ tw_ix (g.2 3) n ∧ tw_th (h1 x) = 1 ∧ g1 = g) ∨ (tw_ix (g.2 3) n ∧ ¬ tw_RA am ∧ tw_th (h1 x) = 2 ∧ g1 = g) ∨ (tw_ix (g.2 3) n ∧ tw_RA am ∧ ¬ tw_chM g n am ≠ none ∧ tw_th (h1 x) = 3 ∧ g1 = g) ∨ (tw_ix (g.2 3) n ∧ tw_RA am ∧ tw_chM g n am ≠ none ∧ r9 = nI (tw_sum5 (tw_gF (tw_chM g n am))) ∧ tw_th (h1 x) = 0 ∧ g1 = tw_gT g (480 + 64 * tw_DN n + 24) (tw_gF (tw_chM g n am))))) tw_nx) := by
  refine tw_of (by decide +kernel) (Nat.le_of_ble_eq_true rfl) ?_
  show tw_W d mX10_give _ 0 [(0, .ref x), (1, .int n), (2, .int am)] [] h 500 2500
  have sp0 := tw_sp.rf hw
  have oq0 : h o = h o := rfl
  refine tw_aload_n 0 dX10_give_0 rfl rfl ?_
  refine tw_aload_n 0 dX10_give_1 rfl rfl ?_
  refine tw_iload_n 1 dX10_give_2 rfl rfl ?_
  obtain ⟨e1, f2, th_3, td_4, ds_5, fr_6, ca_7, us_8, wo_9, cm_10, lc_11, lh_12, ld_13, rfl, k14, k15, k16, k17, k18, k19, k20, k21, k22, k23, k24, k25, k26, k27, k28, k29, k30, k31, k32, k33, k34, k35⟩ := sp0.1 x 36 kx (by decide)
  refine tw_bi (tw_callV (M := mX10_give) (pc := 3) okX10_isNoCountry dX10_give_3 w_1288 rfl f2 [.int n] [.ref x] rfl rfl ⟨by decide, by decide⟩ (Nat.le_of_ble_eq_true rfl) (c2_X10_isNoCountry d g τ h sp0.1 x kx n) 500 2500 (Nat.le_of_ble_eq_true rfl) (Nat.le_of_ble_eq_true rfl)) (fun r38 h37 q36 => ?_) (fun E h1 q => q.elim)
  obtain ⟨q36e, q36d⟩ := q36
  rw [q36e]
  rcases q36d with ⟨q36r, q36n⟩ | ⟨q36r, q36i⟩
  · rw [q36r]
    refine tw_iconst (v := 1) dX10_give_6 (by decide) ?_
    refine tw_bi (tw_callV (M := mX10_give) (pc := 7) okX10_start dX10_give_7 w_1196 rfl f2 [.int 1, .int 1] [] rfl rfl ⟨by decide, by decide⟩ (Nat.le_of_ble_eq_true rfl) (c_X10_start d g τ h sp0.1 x kx 1 1 (by decide)) 500 2500 (Nat.le_of_ble_eq_true rfl) (Nat.le_of_ble_eq_true rfl)) (fun r41 h40 q39 => ?_) (fun E h1 q => q.elim)
    obtain ⟨e42, he43, hs44, hr45, hc46⟩ := q39
    obtain ⟨rz47, tz48⟩ := hc46.2 rfl
    have th49 : tw_th (h40 x) = 1 := by rw [he43, tw_up_s]; exact tz48
    have sp50 : tw_sp d τ h g τ h40 := by rw [he43]; exact sp0.set kx (by decide) hs44
    rw [rz47]
    have oq51 : h40 o = h o := by rw [he43, tw_up_n (tw_nk ko kx (by decide))] <;> exact oq0
    refine tw_if_ne 37 dX10_give_10 (by decide) (fun _ => ?_) (fun c52 => absurd c52 (by decide))
    refine tw_iconst (v := 0) dX10_give_37 (by decide) ?_
    exact tw_iret dX10_give_38 rfl (Or.inl ⟨_, rfl, _, _, sp50, oq51, Or.inl ⟨q36n, th49, rfl⟩⟩)
  · rw [q36r]
    have ix0 := q36i
    obtain ⟨jn, q36j, q36k⟩ := q36i
    subst q36k
    have cDn : tw_DN (nI jn) = jn := nI_clamp (by omega)
    refine tw_iconst (v := 1) dX10_give_6 (by decide) ?_
    refine tw_bi (tw_callV (M := mX10_give) (pc := 7) okX10_start dX10_give_7 w_1196 rfl f2 [.int 0, .int 1] [] rfl rfl ⟨by decide, by decide⟩ (Nat.le_of_ble_eq_true rfl) (c_X10_start d g τ h sp0.1 x kx 0 1 (by decide)) 500 2500 (Nat.le_of_ble_eq_true rfl) (Nat.le_of_ble_eq_true rfl)) (fun r55 h54 q53 => ?_) (fun E h1 q => q.elim)
    obtain ⟨e56, he57, hs58, hr59, hc60⟩ := q53
    obtain ⟨rz61, tz62⟩ := hc60.1 rfl
    have th63 : tw_th (h54 x) = 0 := by rw [he57, tw_up_s]; exact tz62
    have sp64 : tw_sp d τ h g τ h54 := by rw [he57]; exact sp0.set kx (by decide) hs58
    rw [rz61]
    have oq65 : h54 o = h o := by rw [he57, tw_up_n (tw_nk ko kx (by decide))] <;> exact oq0
    refine tw_if_ne 37 dX10_give_10 (by decide) (fun c66 => absurd (by decide) c66) (fun _ => ?_)
    refine tw_aload_n 0 dX10_give_13 rfl rfl ?_
    refine tw_iload_n 2 dX10_give_14 rfl rfl ?_
    refine tw_iconst (v := 1) dX10_give_15 (by decide) ?_
    refine tw_sipush (v := 400) dX10_give_16 (by decide) ?_
    refine tw_bi (tw_callS (M := mX10_give) (pc := 19) okX10_isIn dX10_give_19 w_1192 [.int am, .int 1, .int 400] [.ref x] rfl rfl ⟨by decide, by decide⟩ (Nat.le_of_ble_eq_true rfl) (c_X10_isIn d g τ h54 sp64.1 am 1 400) 500 2500 (Nat.le_of_ble_eq_true rfl) (Nat.le_of_ble_eq_true rfl)) (fun r69 h68 q67 => ?_) (fun E h1 q => q.elim)
    obtain ⟨q67e, q67d⟩ := q67
    rw [q67e]
    rcases q67d with ⟨q67r, q67n⟩ | ⟨q67r, q67a, q67b⟩
    · rw [q67r]
      refine tw_if_ne 29 dX10_give_22 (by decide) (fun c70 => absurd (by decide) c70) (fun _ => ?_)
      refine tw_iconst (v := 1) dX10_give_25 (by decide) ?_
      refine tw_goto 30 dX10_give_26 (by decide) ?_
      refine tw_iconst (v := 2) dX10_give_30 (by decide) ?_
      obtain ⟨e71, f72, th_73, td_74, ds_75, fr_76, ca_77, us_78, wo_79, cm_80, lc_81, lh_82, ld_83, rfl, k84, k85, k86, k87, k88, k89, k90, k91, k92, k93, k94, k95, k96, k97, k98, k99, k100, k101, k102, k103, k104, k105⟩ := sp64.1 x 36 kx (by decide)
      refine tw_bi (tw_callV (M := mX10_give) (pc := 31) okX10_refuse dX10_give_31 w_1200 rfl f72 [.int 1, .int 2] [] rfl rfl ⟨by decide, by decide⟩ (Nat.le_of_ble_eq_true rfl) (c_X10_refuse d g τ h54 sp64.1 x kx 1 2 (by decide)) 500 2500 (Nat.le_of_ble_eq_true rfl) (Nat.le_of_ble_eq_true rfl)) (fun r108 h107 q106 => ?_) (fun E h1 q => q.elim)
      obtain ⟨e109, he110, hs111, hr112, hc113⟩ := q106
      obtain ⟨rz114, tz115⟩ := (hc113 th63).2 rfl
      have th116 : tw_th (h107 x) = 2 := by rw [he110, tw_up_s]; exact tz115
      have sp117 : tw_sp d τ h g τ h107 := by rw [he110]; exact sp64.set kx (by decide) hs111
      rw [rz114]
      have oq118 : h107 o = h o := by rw [he110, tw_up_n (tw_nk ko kx (by decide))] <;> exact oq65
      refine tw_if_eq 39 dX10_give_34 (by decide) (fun c119 => absurd c119 (by decide)) (fun _ => ?_)
      refine tw_iconst (v := 0) dX10_give_37 (by decide) ?_
      exact tw_iret dX10_give_38 rfl (Or.inl ⟨_, rfl, _, _, sp117, oq118, Or.inr (Or.inl ⟨ix0, q67n, th116, rfl⟩)⟩)
    · rw [q67r]
      refine tw_if_ne 29 dX10_give_22 (by decide) (fun _ => ?_) (fun c120 => absurd c120 (by decide))
      refine tw_iconst (v := 0) dX10_give_29 (by decide) ?_
      refine tw_iconst (v := 2) dX10_give_30 (by decide) ?_
      obtain ⟨e121, f122, th_123, td_124, ds_125, fr_126, ca_127, us_128, wo_129, cm_130, lc_131, lh_132, ld_133, rfl, k134, k135, k136, k137, k138, k139, k140, k141, k142, k143, k144, k145, k146, k147, k148, k149, k150, k151, k152, k153, k154, k155⟩ := sp64.1 x 36 kx (by decide)
      refine tw_bi (tw_callV (M := mX10_give) (pc := 31) okX10_refuse dX10_give_31 w_1200 rfl f122 [.int 0, .int 2] [] rfl rfl ⟨by decide, by decide⟩ (Nat.le_of_ble_eq_true rfl) (c_X10_refuse d g τ h54 sp64.1 x kx 0 2 (by decide)) 500 2500 (Nat.le_of_ble_eq_true rfl) (Nat.le_of_ble_eq_true rfl)) (fun r158 h157 q156 => ?_) (fun E h1 q => q.elim)
      obtain ⟨e159, he160, hs161, hr162, hc163⟩ := q156
      obtain ⟨rz164, tz165⟩ := (hc163 th63).1 rfl
      have th166 : tw_th (h157 x) = 0 := by rw [he160, tw_up_s]; exact tz165
      have sp167 : tw_sp d τ h g τ h157 := by rw [he160]; exact sp64.set kx (by decide) hs161
      rw [rz164]
      have oq168 : h157 o = h o := by rw [he160, tw_up_n (tw_nk ko kx (by decide))] <;> exact oq65
      refine tw_if_eq 39 dX10_give_34 (by decide) (fun _ => ?_) (fun c169 => absurd (by decide) c169)
      refine tw_aload_n 0 dX10_give_39 rfl rfl ?_
      obtain ⟨e170, f171, th_172, td_173, ds_174, fr_175, ca_176, us_177, wo_178, cm_179, lc_180, lh_181, ld_182, rfl, k183, k184, k185, k186, k187, k188, k189, k190, k191, k192, k193, k194, k195, k196, k197, k198, k199, k200, k201, k202, k203, k204⟩ := sp167.1 x 36 kx (by decide)
      refine tw_get (v := .ref lc_180) rfl in_14 9 dX10_give_40 w_1160 rfl (by decide) f171 rfl ?_
      refine tw_iload_n 1 dX10_give_43 rfl rfl ?_
      obtain ⟨e205, f206, ⟨el207, rfl, k208⟩, k209⟩ := sp167.1 lc_180 24 k189 (by decide)
      refine tw_br (tw_callV (M := mX10_give) (pc := 44) okJx4a65c_get_915e3 dX10_give_44 w_1292 rfl f206 [.int (nI jn)] [] rfl rfl ⟨by decide, by decide⟩ (Nat.le_of_ble_eq_true rfl) (c24_get d g τ h157 sp167.1 lc_180 k189 jn (by omega) (by omega)) 500 2500 (Nat.le_of_ble_eq_true rfl) (Nat.le_of_ble_eq_true rfl)) (fun r212 h211 q210 => ?_) (fun E h1 q => q.elim)
      obtain ⟨q210e, q210k⟩ := q210
      rw [q210e]
      have el213 : tw_el h157 (g.2 12) jn = r212 := by rw [← k209]; exact q210k.2.symm
      have kl214 : τ (g.2 12) = 24 := by rw [← k209]; exact k189
      have id215 : g.2 (4096 + r212) = 480 + 64 * jn := by rw [← el213]; exact tw_eli24 sp167.1 kl214 (by omega)
      obtain ⟨e216, f217, r_218, c_219, v_220, o_221, t_222, rfl, k223, k224, k225, k226, k227, k228⟩ := sp167.1 r212 21 q210k.1 (by decide)
      obtain ⟨j229, ow230, fr9, fc9, q231, q232, q233⟩ := k228
      obtain rfl : jn = j229 := by have z := ow230.b id215; omega
      subst fr9 fc9
      refine tw_castS (ci := 11) rfl dX10_give_47 w_1208 f217 ?_
      refine tw_get (v := .ref t_222) rfl in_11 4 dX10_give_50 w_1221 rfl (by decide) f217 rfl ?_
      refine tw_iconst (v := 0) dX10_give_53 (by decide) ?_
      refine tw_iload_n 2 dX10_give_54 rfl rfl ?_
      obtain ⟨l, hl, el⟩ := tw_l400 q67a q67b
      subst el
      have cDam : tw_DN (nI l) = l := nI_clamp (by omega)
      obtain ⟨e234, f235, F236, rfl, k238, ⟨b239, ow240, wv241⟩⟩ := sp167.1 t_222 33 k225 (by decide)
      obtain rfl : b239 = (480 + 64 * jn + 24) := ow240.b q232
      have tn9 := tw_tntl wv241
      have u9 : ∀ k, k < 5 → 0 ≤ g.1 ((480 + 64 * jn + 24) + k) ∧ g.1 ((480 + 64 * jn + 24) + k) ≤ 9 := fun k hk => by rw [← wv241 k hk]; exact k238 k
      refine tw_bq (tw_callS (okX10_best 5) dX10_give_55 w_1480 [.ref t_222, .int 0, .int (nI l)] [] rfl rfl ⟨by decide, by decide⟩ (Nat.le_of_ble_eq_true rfl) (c2_best d 5 5 (Nat.le_refl _) (Nat.le_refl _) h157 t_222 l F236 f235 k238 hl) 0 0 (by have := tw_w5 hl; omega) (by have := tw_w5 hl; omega)) (fun r244 h243 q242 => ?_) (fun E h1 q => q.elim)
      obtain ⟨q242g, q242r⟩ := q242
      rw [tn9] at q242r
      have sp245 := sp167.tr (q242g.sp sp167.1)
      have th246 : tw_th (h243 x) = 0 := by rw [q242g.th (tw_some sp167.1 kx (by decide))]; exact th166
      have oq247 : h243 o = h o := by rw [q242g.th (tw_some sp167.1 ko (by decide))]; exact oq168
      have f248 := q242g _ _ f171
      have f249 := q242g _ _ f206
      have f250 := q242g _ _ f217
      have f251 := q242g _ _ f235
      cases r244 with
      | none =>
        have nn := q242r.n
        refine tw_astore_nN [(3, .null), (0, .ref x), (1, .int (nI jn)), (2, .int (nI l))] dX10_give_58 rfl (by decide) rfl ?_
        refine tw_aload_n 1 dX10_give_59 rfl rfl ?_
        refine tw_aload_nN 0 dX10_give_60 rfl rfl ?_
        refine tw_ifnonnullN dX10_give_61 ?_
        refine tw_iconst (v := 1) dX10_give_64 (by decide) ?_
        refine tw_goto 69 dX10_give_65 (by decide) ?_
        refine tw_iconst (v := 3) dX10_give_69 (by decide) ?_
        refine tw_bi (tw_callV (M := mX10_give) (pc := 70) okX10_refuse dX10_give_70 w_1200 rfl f248 [.int 1, .int 3] [] rfl rfl ⟨by decide, by decide⟩ (Nat.le_of_ble_eq_true rfl) (c_X10_refuse d g τ h243 sp245.1 x kx 1 3 (by decide)) 0 0 (Nat.le_of_ble_eq_true rfl) (Nat.le_of_ble_eq_true rfl)) (fun r254 h253 q252 => ?_) (fun E h1 q => q.elim)
        obtain ⟨e255, he256, hs257, hr258, hc259⟩ := q252
        obtain ⟨rz260, tz261⟩ := (hc259 th246).2 rfl
        have th262 : tw_th (h253 x) = 3 := by rw [he256, tw_up_s]; exact tz261
        have sp263 : tw_sp d τ h g τ h253 := by rw [he256]; exact sp245.set kx (by decide) hs257
        rw [rz260]
        have oq264 : h253 o = h o := by rw [he256, tw_up_n (tw_nk ko kx (by decide))] <;> exact oq247
        refine tw_if_eq 78 dX10_give_73 (by decide) (fun c265 => absurd c265 (by decide)) (fun _ => ?_)
        refine tw_iconst (v := 0) dX10_give_76 (by decide) ?_
        exact tw_iret dX10_give_77 rfl (Or.inl ⟨_, rfl, _, _, sp263, oq264, Or.inr (Or.inr (Or.inl ⟨ix0, ⟨q67a, q67b⟩, fun z => z (by unfold tw_chM; rw [cDn, cDam]; exact nn), th262, rfl⟩))⟩)
      | some b =>
        obtain ⟨F8, GA, eA, hq8, hG8, hGe⟩ := q242r.s
        have n8 := sp167.nn hq8
        have z8 := sp167.1.none hq8
        refine tw_astore_n [(3, .ref b), (0, .ref x), (1, .int (nI jn)), (2, .int (nI l))] dX10_give_58 rfl (by decide) rfl ?_
        refine tw_aload_n 1 dX10_give_59 rfl rfl ?_
        refine tw_aload_n 0 dX10_give_60 rfl rfl ?_
        refine tw_ifnonnull 68 dX10_give_61 (by decide) ?_
        refine tw_iconst (v := 0) dX10_give_68 (by decide) ?_
        refine tw_iconst (v := 3) dX10_give_69 (by decide) ?_
        refine tw_bi (tw_callV (M := mX10_give) (pc := 70) okX10_refuse dX10_give_70 w_1200 rfl f248 [.int 0, .int 3] [] rfl rfl ⟨by decide, by decide⟩ (Nat.le_of_ble_eq_true rfl) (c_X10_refuse d g τ h243 sp245.1 x kx 0 3 (by decide)) 0 0 (Nat.le_of_ble_eq_true rfl) (Nat.le_of_ble_eq_true rfl)) (fun r268 h267 q266 => ?_) (fun E h1 q => q.elim)
        obtain ⟨e269, he270, hs271, hr272, hc273⟩ := q266
        obtain ⟨rz274, tz275⟩ := (hc273 th246).1 rfl
        have th276 : tw_th (h267 x) = 0 := by rw [he270, tw_up_s]; exact tz275
        have sp277 : tw_sp d τ h g τ h267 := by rw [he270]; exact sp245.set kx (by decide) hs271
        rw [rz274]
        have oq278 : h267 o = h o := by rw [he270, tw_up_n (tw_nk ko kx (by decide))] <;> exact oq247
        have f279 : h267 b = some (.inl (d.2 0, 5, .inl F8)) := by rw [he270, tw_up_n (fun q => absurd z8 (by rw [q, kx]; decide))]; exact hG8
        refine tw_if_eq 78 dX10_give_73 (by decide) (fun _ => ?_) (fun c280 => absurd (by decide) c280)
        have gle := (tw_ch_0 _ _ _ eA).2
        refine tw_iconst (v := 0) dX10_give_78 (by decide) ?_
        refine tw_istore [(4, .int 0), (3, .ref b), (0, .ref x), (1, .int (nI jn)), (2, .int (nI l))] dX10_give_79 (by decide) rfl ?_
        refine tw_iload 0 dX10_give_81 rfl ?_
        refine tw_iconst (v := 5) dX10_give_83 (by decide) ?_
        refine tw_icmp_ge 117 dX10_give_84 (by decide) (fun c281 => absurd c281 (by decide)) (fun _ => ?_)
        refine tw_aload_n 2 dX10_give_87 rfl rfl ?_
        obtain ⟨e282, f283, th_284, td_285, ds_286, fr_287, ca_288, us_289, wo_290, cm_291, lc_292, lh_293, ld_294, rfl, k295, k296, k297, k298, k299, k300, k301, k302, k303, k304, k305, k306, k307, k308, k309, k310, k311, k312, k313, k314, k315, k316⟩ := sp277.1 x 36 kx (by decide)
        refine tw_get (v := .ref lc_292) rfl in_14 9 dX10_give_88 w_1160 rfl (by decide) f283 rfl ?_
        refine tw_iload_n 3 dX10_give_91 rfl rfl ?_
        obtain ⟨e317, f318, ⟨el319, rfl, k320⟩, k321⟩ := sp277.1 lc_292 24 k301 (by decide)
        refine tw_br (tw_callV (M := mX10_give) (pc := 92) okJx4a65c_get_915e3 dX10_give_92 w_1292 rfl f318 [.int (nI jn)] [] rfl rfl ⟨by decide, by decide⟩ (Nat.le_of_ble_eq_true rfl) (c24_get d g τ h267 sp277.1 lc_292 k301 jn (by omega) (by omega)) 0 0 (Nat.le_of_ble_eq_true rfl) (Nat.le_of_ble_eq_true rfl)) (fun r324 h323 q322 => ?_) (fun E h1 q => q.elim)
        obtain ⟨q322e, q322k⟩ := q322
        rw [q322e]
        have el325 : tw_el h267 (g.2 12) jn = r324 := by rw [← k321]; exact q322k.2.symm
        have kl326 : τ (g.2 12) = 24 := by rw [← k321]; exact k301
        have id327 : g.2 (4096 + r324) = 480 + 64 * jn := by rw [← el325]; exact tw_eli24 sp277.1 kl326 (by omega)
        obtain ⟨e328, f329, r_330, c_331, v_332, o_333, t_334, rfl, k335, k336, k337, k338, k339, k340⟩ := sp277.1 r324 21 q322k.1 (by decide)
        obtain ⟨j341, ow342, fr9, fc9, q343, q344, q345⟩ := k340
        obtain rfl : jn = j341 := by have z := ow342.b id327; omega
        subst fr9 fc9
        refine tw_castS (ci := 11) rfl dX10_give_95 w_1208 f329 ?_
        refine tw_get (v := .ref t_334) rfl in_11 4 dX10_give_98 w_1221 rfl (by decide) f329 rfl ?_
        refine tw_iload 0 dX10_give_101 rfl ?_
        refine tw_dup2 dX10_give_103 rfl rfl ?_
        obtain ⟨e346, f347, F348, rfl, k350, ⟨b351, ow352, wv353⟩⟩ := sp277.1 t_334 33 k337 (by decide)
        obtain rfl : b351 = (480 + 64 * jn + 24) := ow352.b q344
        have ev354 : F348 (0 : Int32).toNatClampNeg = (g.1 ((480 + 64 * jn + 24) + 0)) := by rw [show (0 : Int32).toNatClampNeg = 0 by decide]; exact wv353 0 (by omega)
        refine tw_iald (v := (g.1 ((480 + 64 * jn + 24) + 0))) dX10_give_104 f347 (vp_in_nI (n := 0) (by decide) (by decide)) ev354 ?_
        refine tw_aload_n 1 dX10_give_105 rfl rfl ?_
        refine tw_iload 0 dX10_give_106 rfl ?_
        refine tw_iald (v := nI (GA 0)) dX10_give_108 f279 (vp_in_nI (n := 0) (by decide) (by decide)) (by rw [show ((0 : Int32)).toNatClampNeg = 0 by decide]; exact hGe 0 (by decide)) ?_
        refine tw_isub dX10_give_109 ?_
        refine tw_nmi (fun v355 ev355 => ?_)
        have sv0 : v355 = g.1 (480 + 64 * jn + 24 + 0) - nI (GA 0) := by rw [ev355]
        rw [sv0]
        refine tw_iast dX10_give_110 f347 (vp_in_nI (n := 0) (by decide) (by decide)) ?_
        rw [show (0 : Int32).toNatClampNeg = 0 by decide]
        obtain ⟨h356, eh356⟩ : ∃ z : tw_H, z = tw_up h267 t_334 (.inl (d.2 0, 5, .inl (upd F348 0 (g.1 (480 + 64 * jn + 24 + 0) - nI (GA 0))))) := ⟨_, rfl⟩
        rw [← eh356]
        have th357 : tw_th (h356 x) = 0 := by rw [eh356, tw_up_n (tw_nk kx k337 (by decide))] <;> exact th276
        have oq358 : h356 o = h o := by rw [eh356, tw_up_n (tw_nk ko k337 (by decide))] <;> exact oq278
        have sp359 : tw_sp d τ h (tw_g1 g ((480 + 64 * jn + 24) + 0) (g.1 (480 + 64 * jn + 24 + 0) - nI (GA 0))) τ h356 := by rw [eh356]; exact sp277.wb k337 (by decide) ow352 ⟨_, rfl, (tw_tk k350 (tw_tsub u9 0 (by decide) gle).1 (tw_tsub u9 0 (by decide) gle).2), tw_f6.up ow352 wv353⟩ (fun q9 hq9 => tw_g1_ne (by omega)) rfl
        have f360 : h356 b = some (.inl (d.2 0, 5, .inl F8)) := by rw [eh356, tw_up_n (fun q => absurd (z8) (by rw [q, k337]; decide))]; exact f279
        obtain ⟨gW0, egW0⟩ : ∃ z : tw_G, z = (tw_g1 g ((480 + 64 * jn + 24) + 0) (g.1 (480 + 64 * jn + 24 + 0) - nI (GA 0))) := ⟨_, rfl⟩
        rw [← egW0] at sp359
        have gW03 : gW0.2 3 = g.2 3 := by rw [egW0]; exact rfl
        refine tw_iinc [(4, .int 1), (3, .ref b), (0, .ref x), (1, .int (nI jn)), (2, .int (nI l))] 0 dX10_give_111 rfl (by decide) (by decide) rfl ?_
        refine tw_goto 81 dX10_give_114 (by decide) ?_
        refine tw_iload 0 dX10_give_81 rfl ?_
        refine tw_iconst (v := 5) dX10_give_83 (by decide) ?_
        refine tw_icmp_ge 117 dX10_give_84 (by decide) (fun c361 => absurd c361 (by decide)) (fun _ => ?_)
        refine tw_aload_n 2 dX10_give_87 rfl rfl ?_
        obtain ⟨e362, f363, th_364, td_365, ds_366, fr_367, ca_368, us_369, wo_370, cm_371, lc_372, lh_373, ld_374, rfl, k375, k376, k377, k378, k379, k380, k381, k382, k383, k384, k385, k386, k387, k388, k389, k390, k391, k392, k393, k394, k395, k396⟩ := sp359.1 x 36 kx (by decide)
        refine tw_get (v := .ref lc_372) rfl in_14 9 dX10_give_88 w_1160 rfl (by decide) f363 rfl ?_
        refine tw_iload_n 3 dX10_give_91 rfl rfl ?_
        obtain ⟨e397, f398, ⟨el399, rfl, k400⟩, k401⟩ := sp359.1 lc_372 24 k381 (by decide)
        refine tw_br (tw_callV (M := mX10_give) (pc := 92) okJx4a65c_get_915e3 dX10_give_92 w_1292 rfl f398 [.int (nI jn)] [] rfl rfl ⟨by decide, by decide⟩ (Nat.le_of_ble_eq_true rfl) (c24_get d gW0 τ h356 sp359.1 lc_372 k381 jn (by omega) (by omega)) 0 0 (Nat.le_of_ble_eq_true rfl) (Nat.le_of_ble_eq_true rfl)) (fun r404 h403 q402 => ?_) (fun E h1 q => q.elim)
        obtain ⟨q402e, q402k⟩ := q402
        rw [q402e]
        have el405 : tw_el h356 (gW0.2 12) jn = r404 := by rw [← k401]; exact q402k.2.symm
        have kl406 : τ (gW0.2 12) = 24 := by rw [← k401]; exact k381
        have id407 : gW0.2 (4096 + r404) = 480 + 64 * jn := by rw [← el405]; exact tw_eli24 sp359.1 kl406 (by omega)
        obtain ⟨e408, f409, r_410, c_411, v_412, o_413, t_414, rfl, k415, k416, k417, k418, k419, k420⟩ := sp359.1 r404 21 q402k.1 (by decide)
        obtain ⟨j421, ow422, fr9, fc9, q423, q424, q425⟩ := k420
        obtain rfl : jn = j421 := by have z := ow422.b id407; omega
        subst fr9 fc9
        refine tw_castS (ci := 11) rfl dX10_give_95 w_1208 f409 ?_
        refine tw_get (v := .ref t_414) rfl in_11 4 dX10_give_98 w_1221 rfl (by decide) f409 rfl ?_
        refine tw_iload 0 dX10_give_101 rfl ?_
        refine tw_dup2 dX10_give_103 rfl rfl ?_
        obtain ⟨e426, f427, F428, rfl, k430, ⟨b431, ow432, wv433⟩⟩ := sp359.1 t_414 33 k417 (by decide)
        obtain rfl : b431 = (480 + 64 * jn + 24) := ow432.b q424
        have ev434 : F428 (1 : Int32).toNatClampNeg = (gW0.1 ((480 + 64 * jn + 24) + 1)) := by rw [show (1 : Int32).toNatClampNeg = 1 by decide]; exact wv433 1 (by omega)
        refine tw_iald (v := (gW0.1 ((480 + 64 * jn + 24) + 1))) dX10_give_104 f427 (vp_in_nI (n := 1) (by decide) (by decide)) ev434 ?_
        refine tw_aload_n 1 dX10_give_105 rfl rfl ?_
        refine tw_iload 0 dX10_give_106 rfl ?_
        refine tw_iald (v := nI (GA 1)) dX10_give_108 f360 (vp_in_nI (n := 1) (by decide) (by decide)) (by rw [show ((1 : Int32)).toNatClampNeg = 1 by decide]; exact hGe 1 (by decide)) ?_
        refine tw_isub dX10_give_109 ?_
        refine tw_nmi (fun v435 ev435 => ?_)
        have sv1 : v435 = g.1 (480 + 64 * jn + 24 + 1) - nI (GA 1) := by rw [ev435]; rw [egW0, tw_g1_ne (by omega)]
        rw [sv1]
        refine tw_iast dX10_give_110 f427 (vp_in_nI (n := 1) (by decide) (by decide)) ?_
        rw [show (1 : Int32).toNatClampNeg = 1 by decide]
        obtain ⟨h436, eh436⟩ : ∃ z : tw_H, z = tw_up h356 t_414 (.inl (d.2 0, 5, .inl (upd F428 1 (g.1 (480 + 64 * jn + 24 + 1) - nI (GA 1))))) := ⟨_, rfl⟩
        rw [← eh436]
        have th437 : tw_th (h436 x) = 0 := by rw [eh436, tw_up_n (tw_nk kx k417 (by decide))] <;> exact th357
        have oq438 : h436 o = h o := by rw [eh436, tw_up_n (tw_nk ko k417 (by decide))] <;> exact oq358
        have sp439 : tw_sp d τ h (tw_g1 gW0 ((480 + 64 * jn + 24) + 1) (g.1 (480 + 64 * jn + 24 + 1) - nI (GA 1))) τ h436 := by rw [eh436]; exact sp359.wb k417 (by decide) ow432 ⟨_, rfl, (tw_tk k430 (tw_tsub u9 1 (by decide) gle).1 (tw_tsub u9 1 (by decide) gle).2), tw_f6.up ow432 wv433⟩ (fun q9 hq9 => tw_g1_ne (by omega)) rfl
        have f440 : h436 b = some (.inl (d.2 0, 5, .inl F8)) := by rw [eh436, tw_up_n (fun q => absurd (z8) (by rw [q, k417]; decide))]; exact f360
        obtain ⟨gW1, egW1⟩ : ∃ z : tw_G, z = (tw_g1 gW0 ((480 + 64 * jn + 24) + 1) (g.1 (480 + 64 * jn + 24 + 1) - nI (GA 1))) := ⟨_, rfl⟩
        rw [← egW1] at sp439
        have gW13 : gW1.2 3 = g.2 3 := by rw [egW1]; exact gW03
        refine tw_iinc [(4, .int 2), (3, .ref b), (0, .ref x), (1, .int (nI jn)), (2, .int (nI l))] 0 dX10_give_111 rfl (by decide) (by decide) rfl ?_
        refine tw_goto 81 dX10_give_114 (by decide) ?_
        refine tw_iload 0 dX10_give_81 rfl ?_
        refine tw_iconst (v := 5) dX10_give_83 (by decide) ?_
        refine tw_icmp_ge 117 dX10_give_84 (by decide) (fun c441 => absurd c441 (by decide)) (fun _ => ?_)
        refine tw_aload_n 2 dX10_give_87 rfl rfl ?_
        obtain ⟨e442, f443, th_444, td_445, ds_446, fr_447, ca_448, us_449, wo_450, cm_451, lc_452, lh_453, ld_454, rfl, k455, k456, k457, k458, k459, k460, k461, k462, k463, k464, k465, k466, k467, k468, k469, k470, k471, k472, k473, k474, k475, k476⟩ := sp439.1 x 36 kx (by decide)
        refine tw_get (v := .ref lc_452) rfl in_14 9 dX10_give_88 w_1160 rfl (by decide) f443 rfl ?_
        refine tw_iload_n 3 dX10_give_91 rfl rfl ?_
        obtain ⟨e477, f478, ⟨el479, rfl, k480⟩, k481⟩ := sp439.1 lc_452 24 k461 (by decide)
        refine tw_br (tw_callV (M := mX10_give) (pc := 92) okJx4a65c_get_915e3 dX10_give_92 w_1292 rfl f478 [.int (nI jn)] [] rfl rfl ⟨by decide, by decide⟩ (Nat.le_of_ble_eq_true rfl) (c24_get d gW1 τ h436 sp439.1 lc_452 k461 jn (by omega) (by omega)) 0 0 (Nat.le_of_ble_eq_true rfl) (Nat.le_of_ble_eq_true rfl)) (fun r484 h483 q482 => ?_) (fun E h1 q => q.elim)
        obtain ⟨q482e, q482k⟩ := q482
        rw [q482e]
        have el485 : tw_el h436 (gW1.2 12) jn = r484 := by rw [← k481]; exact q482k.2.symm
        have kl486 : τ (gW1.2 12) = 24 := by rw [← k481]; exact k461
        have id487 : gW1.2 (4096 + r484) = 480 + 64 * jn := by rw [← el485]; exact tw_eli24 sp439.1 kl486 (by omega)
        obtain ⟨e488, f489, r_490, c_491, v_492, o_493, t_494, rfl, k495, k496, k497, k498, k499, k500⟩ := sp439.1 r484 21 q482k.1 (by decide)
        obtain ⟨j501, ow502, fr9, fc9, q503, q504, q505⟩ := k500
        obtain rfl : jn = j501 := by have z := ow502.b id487; omega
        subst fr9 fc9
        refine tw_castS (ci := 11) rfl dX10_give_95 w_1208 f489 ?_
        refine tw_get (v := .ref t_494) rfl in_11 4 dX10_give_98 w_1221 rfl (by decide) f489 rfl ?_
        refine tw_iload 0 dX10_give_101 rfl ?_
        refine tw_dup2 dX10_give_103 rfl rfl ?_
        obtain ⟨e506, f507, F508, rfl, k510, ⟨b511, ow512, wv513⟩⟩ := sp439.1 t_494 33 k497 (by decide)
        obtain rfl : b511 = (480 + 64 * jn + 24) := ow512.b q504
        have ev514 : F508 (2 : Int32).toNatClampNeg = (gW1.1 ((480 + 64 * jn + 24) + 2)) := by rw [show (2 : Int32).toNatClampNeg = 2 by decide]; exact wv513 2 (by omega)
        refine tw_iald (v := (gW1.1 ((480 + 64 * jn + 24) + 2))) dX10_give_104 f507 (vp_in_nI (n := 2) (by decide) (by decide)) ev514 ?_
        refine tw_aload_n 1 dX10_give_105 rfl rfl ?_
        refine tw_iload 0 dX10_give_106 rfl ?_
        refine tw_iald (v := nI (GA 2)) dX10_give_108 f440 (vp_in_nI (n := 2) (by decide) (by decide)) (by rw [show ((2 : Int32)).toNatClampNeg = 2 by decide]; exact hGe 2 (by decide)) ?_
        refine tw_isub dX10_give_109 ?_
        refine tw_nmi (fun v515 ev515 => ?_)
        have sv2 : v515 = g.1 (480 + 64 * jn + 24 + 2) - nI (GA 2) := by rw [ev515]; rw [egW1, tw_g1_ne (by omega)]; rw [egW0, tw_g1_ne (by omega)]
        rw [sv2]
        refine tw_iast dX10_give_110 f507 (vp_in_nI (n := 2) (by decide) (by decide)) ?_
        rw [show (2 : Int32).toNatClampNeg = 2 by decide]
        obtain ⟨h516, eh516⟩ : ∃ z : tw_H, z = tw_up h436 t_494 (.inl (d.2 0, 5, .inl (upd F508 2 (g.1 (480 + 64 * jn + 24 + 2) - nI (GA 2))))) := ⟨_, rfl⟩
        rw [← eh516]
        have th517 : tw_th (h516 x) = 0 := by rw [eh516, tw_up_n (tw_nk kx k497 (by decide))] <;> exact th437
        have oq518 : h516 o = h o := by rw [eh516, tw_up_n (tw_nk ko k497 (by decide))] <;> exact oq438
        have sp519 : tw_sp d τ h (tw_g1 gW1 ((480 + 64 * jn + 24) + 2) (g.1 (480 + 64 * jn + 24 + 2) - nI (GA 2))) τ h516 := by rw [eh516]; exact sp439.wb k497 (by decide) ow512 ⟨_, rfl, (tw_tk k510 (tw_tsub u9 2 (by decide) gle).1 (tw_tsub u9 2 (by decide) gle).2), tw_f6.up ow512 wv513⟩ (fun q9 hq9 => tw_g1_ne (by omega)) rfl
        have f520 : h516 b = some (.inl (d.2 0, 5, .inl F8)) := by rw [eh516, tw_up_n (fun q => absurd (z8) (by rw [q, k497]; decide))]; exact f440
        obtain ⟨gW2, egW2⟩ : ∃ z : tw_G, z = (tw_g1 gW1 ((480 + 64 * jn + 24) + 2) (g.1 (480 + 64 * jn + 24 + 2) - nI (GA 2))) := ⟨_, rfl⟩
        rw [← egW2] at sp519
        have gW23 : gW2.2 3 = g.2 3 := by rw [egW2]; exact gW13
        refine tw_iinc [(4, .int 3), (3, .ref b), (0, .ref x), (1, .int (nI jn)), (2, .int (nI l))] 0 dX10_give_111 rfl (by decide) (by decide) rfl ?_
        refine tw_goto 81 dX10_give_114 (by decide) ?_
        refine tw_iload 0 dX10_give_81 rfl ?_
        refine tw_iconst (v := 5) dX10_give_83 (by decide) ?_
        refine tw_icmp_ge 117 dX10_give_84 (by decide) (fun c521 => absurd c521 (by decide)) (fun _ => ?_)
        refine tw_aload_n 2 dX10_give_87 rfl rfl ?_
        obtain ⟨e522, f523, th_524, td_525, ds_526, fr_527, ca_528, us_529, wo_530, cm_531, lc_532, lh_533, ld_534, rfl, k535, k536, k537, k538, k539, k540, k541, k542, k543, k544, k545, k546, k547, k548, k549, k550, k551, k552, k553, k554, k555, k556⟩ := sp519.1 x 36 kx (by decide)
        refine tw_get (v := .ref lc_532) rfl in_14 9 dX10_give_88 w_1160 rfl (by decide) f523 rfl ?_
        refine tw_iload_n 3 dX10_give_91 rfl rfl ?_
        obtain ⟨e557, f558, ⟨el559, rfl, k560⟩, k561⟩ := sp519.1 lc_532 24 k541 (by decide)
        refine tw_br (tw_callV (M := mX10_give) (pc := 92) okJx4a65c_get_915e3 dX10_give_92 w_1292 rfl f558 [.int (nI jn)] [] rfl rfl ⟨by decide, by decide⟩ (Nat.le_of_ble_eq_true rfl) (c24_get d gW2 τ h516 sp519.1 lc_532 k541 jn (by omega) (by omega)) 0 0 (Nat.le_of_ble_eq_true rfl) (Nat.le_of_ble_eq_true rfl)) (fun r564 h563 q562 => ?_) (fun E h1 q => q.elim)
        obtain ⟨q562e, q562k⟩ := q562
        rw [q562e]
        have el565 : tw_el h516 (gW2.2 12) jn = r564 := by rw [← k561]; exact q562k.2.symm
        have kl566 : τ (gW2.2 12) = 24 := by rw [← k561]; exact k541
        have id567 : gW2.2 (4096 + r564) = 480 + 64 * jn := by rw [← el565]; exact tw_eli24 sp519.1 kl566 (by omega)
        obtain ⟨e568, f569, r_570, c_571, v_572, o_573, t_574, rfl, k575, k576, k577, k578, k579, k580⟩ := sp519.1 r564 21 q562k.1 (by decide)
        obtain ⟨j581, ow582, fr9, fc9, q583, q584, q585⟩ := k580
        obtain rfl : jn = j581 := by have z := ow582.b id567; omega
        subst fr9 fc9
        refine tw_castS (ci := 11) rfl dX10_give_95 w_1208 f569 ?_
        refine tw_get (v := .ref t_574) rfl in_11 4 dX10_give_98 w_1221 rfl (by decide) f569 rfl ?_
        refine tw_iload 0 dX10_give_101 rfl ?_
        refine tw_dup2 dX10_give_103 rfl rfl ?_
        obtain ⟨e586, f587, F588, rfl, k590, ⟨b591, ow592, wv593⟩⟩ := sp519.1 t_574 33 k577 (by decide)
        obtain rfl : b591 = (480 + 64 * jn + 24) := ow592.b q584
        have ev594 : F588 (3 : Int32).toNatClampNeg = (gW2.1 ((480 + 64 * jn + 24) + 3)) := by rw [show (3 : Int32).toNatClampNeg = 3 by decide]; exact wv593 3 (by omega)
        refine tw_iald (v := (gW2.1 ((480 + 64 * jn + 24) + 3))) dX10_give_104 f587 (vp_in_nI (n := 3) (by decide) (by decide)) ev594 ?_
        refine tw_aload_n 1 dX10_give_105 rfl rfl ?_
        refine tw_iload 0 dX10_give_106 rfl ?_
        refine tw_iald (v := nI (GA 3)) dX10_give_108 f520 (vp_in_nI (n := 3) (by decide) (by decide)) (by rw [show ((3 : Int32)).toNatClampNeg = 3 by decide]; exact hGe 3 (by decide)) ?_
        refine tw_isub dX10_give_109 ?_
        refine tw_nmi (fun v595 ev595 => ?_)
        have sv3 : v595 = g.1 (480 + 64 * jn + 24 + 3) - nI (GA 3) := by rw [ev595]; rw [egW2, tw_g1_ne (by omega)]; rw [egW1, tw_g1_ne (by omega)]; rw [egW0, tw_g1_ne (by omega)]
        rw [sv3]
        refine tw_iast dX10_give_110 f587 (vp_in_nI (n := 3) (by decide) (by decide)) ?_
        rw [show (3 : Int32).toNatClampNeg = 3 by decide]
        obtain ⟨h596, eh596⟩ : ∃ z : tw_H, z = tw_up h516 t_574 (.inl (d.2 0, 5, .inl (upd F588 3 (g.1 (480 + 64 * jn + 24 + 3) - nI (GA 3))))) := ⟨_, rfl⟩
        rw [← eh596]
        have th597 : tw_th (h596 x) = 0 := by rw [eh596, tw_up_n (tw_nk kx k577 (by decide))] <;> exact th517
        have oq598 : h596 o = h o := by rw [eh596, tw_up_n (tw_nk ko k577 (by decide))] <;> exact oq518
        have sp599 : tw_sp d τ h (tw_g1 gW2 ((480 + 64 * jn + 24) + 3) (g.1 (480 + 64 * jn + 24 + 3) - nI (GA 3))) τ h596 := by rw [eh596]; exact sp519.wb k577 (by decide) ow592 ⟨_, rfl, (tw_tk k590 (tw_tsub u9 3 (by decide) gle).1 (tw_tsub u9 3 (by decide) gle).2), tw_f6.up ow592 wv593⟩ (fun q9 hq9 => tw_g1_ne (by omega)) rfl
        have f600 : h596 b = some (.inl (d.2 0, 5, .inl F8)) := by rw [eh596, tw_up_n (fun q => absurd (z8) (by rw [q, k577]; decide))]; exact f520
        obtain ⟨gW3, egW3⟩ : ∃ z : tw_G, z = (tw_g1 gW2 ((480 + 64 * jn + 24) + 3) (g.1 (480 + 64 * jn + 24 + 3) - nI (GA 3))) := ⟨_, rfl⟩
        rw [← egW3] at sp599
        have gW33 : gW3.2 3 = g.2 3 := by rw [egW3]; exact gW23
        refine tw_iinc [(4, .int 4), (3, .ref b), (0, .ref x), (1, .int (nI jn)), (2, .int (nI l))] 0 dX10_give_111 rfl (by decide) (by decide) rfl ?_
        refine tw_goto 81 dX10_give_114 (by decide) ?_
        refine tw_iload 0 dX10_give_81 rfl ?_
        refine tw_iconst (v := 5) dX10_give_83 (by decide) ?_
        refine tw_icmp_ge 117 dX10_give_84 (by decide) (fun c601 => absurd c601 (by decide)) (fun _ => ?_)
        refine tw_aload_n 2 dX10_give_87 rfl rfl ?_
        obtain ⟨e602, f603, th_604, td_605, ds_606, fr_607, ca_608, us_609, wo_610, cm_611, lc_612, lh_613, ld_614, rfl, k615, k616, k617, k618, k619, k620, k621, k622, k623, k624, k625, k626, k627, k628, k629, k630, k631, k632, k633, k634, k635, k636⟩ := sp599.1 x 36 kx (by decide)
        refine tw_get (v := .ref lc_612) rfl in_14 9 dX10_give_88 w_1160 rfl (by decide) f603 rfl ?_
        refine tw_iload_n 3 dX10_give_91 rfl rfl ?_
        obtain ⟨e637, f638, ⟨el639, rfl, k640⟩, k641⟩ := sp599.1 lc_612 24 k621 (by decide)
        refine tw_br (tw_callV (M := mX10_give) (pc := 92) okJx4a65c_get_915e3 dX10_give_92 w_1292 rfl f638 [.int (nI jn)] [] rfl rfl ⟨by decide, by decide⟩ (Nat.le_of_ble_eq_true rfl) (c24_get d gW3 τ h596 sp599.1 lc_612 k621 jn (by omega) (by omega)) 0 0 (Nat.le_of_ble_eq_true rfl) (Nat.le_of_ble_eq_true rfl)) (fun r644 h643 q642 => ?_) (fun E h1 q => q.elim)
        obtain ⟨q642e, q642k⟩ := q642
        rw [q642e]
        have el645 : tw_el h596 (gW3.2 12) jn = r644 := by rw [← k641]; exact q642k.2.symm
        have kl646 : τ (gW3.2 12) = 24 := by rw [← k641]; exact k621
        have id647 : gW3.2 (4096 + r644) = 480 + 64 * jn := by rw [← el645]; exact tw_eli24 sp599.1 kl646 (by omega)
        obtain ⟨e648, f649, r_650, c_651, v_652, o_653, t_654, rfl, k655, k656, k657, k658, k659, k660⟩ := sp599.1 r644 21 q642k.1 (by decide)
        obtain ⟨j661, ow662, fr9, fc9, q663, q664, q665⟩ := k660
        obtain rfl : jn = j661 := by have z := ow662.b id647; omega
        subst fr9 fc9
        refine tw_castS (ci := 11) rfl dX10_give_95 w_1208 f649 ?_
        refine tw_get (v := .ref t_654) rfl in_11 4 dX10_give_98 w_1221 rfl (by decide) f649 rfl ?_
        refine tw_iload 0 dX10_give_101 rfl ?_
        refine tw_dup2 dX10_give_103 rfl rfl ?_
        obtain ⟨e666, f667, F668, rfl, k670, ⟨b671, ow672, wv673⟩⟩ := sp599.1 t_654 33 k657 (by decide)
        obtain rfl : b671 = (480 + 64 * jn + 24) := ow672.b q664
        have ev674 : F668 (4 : Int32).toNatClampNeg = (gW3.1 ((480 + 64 * jn + 24) + 4)) := by rw [show (4 : Int32).toNatClampNeg = 4 by decide]; exact wv673 4 (by omega)
        refine tw_iald (v := (gW3.1 ((480 + 64 * jn + 24) + 4))) dX10_give_104 f667 (vp_in_nI (n := 4) (by decide) (by decide)) ev674 ?_
        refine tw_aload_n 1 dX10_give_105 rfl rfl ?_
        refine tw_iload 0 dX10_give_106 rfl ?_
        refine tw_iald (v := nI (GA 4)) dX10_give_108 f600 (vp_in_nI (n := 4) (by decide) (by decide)) (by rw [show ((4 : Int32)).toNatClampNeg = 4 by decide]; exact hGe 4 (by decide)) ?_
        refine tw_isub dX10_give_109 ?_
        refine tw_nmi (fun v675 ev675 => ?_)
        have sv4 : v675 = g.1 (480 + 64 * jn + 24 + 4) - nI (GA 4) := by rw [ev675]; rw [egW3, tw_g1_ne (by omega)]; rw [egW2, tw_g1_ne (by omega)]; rw [egW1, tw_g1_ne (by omega)]; rw [egW0, tw_g1_ne (by omega)]
        rw [sv4]
        refine tw_iast dX10_give_110 f667 (vp_in_nI (n := 4) (by decide) (by decide)) ?_
        rw [show (4 : Int32).toNatClampNeg = 4 by decide]
        obtain ⟨h676, eh676⟩ : ∃ z : tw_H, z = tw_up h596 t_654 (.inl (d.2 0, 5, .inl (upd F668 4 (g.1 (480 + 64 * jn + 24 + 4) - nI (GA 4))))) := ⟨_, rfl⟩
        rw [← eh676]
        have th677 : tw_th (h676 x) = 0 := by rw [eh676, tw_up_n (tw_nk kx k657 (by decide))] <;> exact th597
        have oq678 : h676 o = h o := by rw [eh676, tw_up_n (tw_nk ko k657 (by decide))] <;> exact oq598
        have sp679 : tw_sp d τ h (tw_g1 gW3 ((480 + 64 * jn + 24) + 4) (g.1 (480 + 64 * jn + 24 + 4) - nI (GA 4))) τ h676 := by rw [eh676]; exact sp599.wb k657 (by decide) ow672 ⟨_, rfl, (tw_tk k670 (tw_tsub u9 4 (by decide) gle).1 (tw_tsub u9 4 (by decide) gle).2), tw_f6.up ow672 wv673⟩ (fun q9 hq9 => tw_g1_ne (by omega)) rfl
        have f680 : h676 b = some (.inl (d.2 0, 5, .inl F8)) := by rw [eh676, tw_up_n (fun q => absurd (z8) (by rw [q, k657]; decide))]; exact f600
        obtain ⟨gW4, egW4⟩ : ∃ z : tw_G, z = (tw_g1 gW3 ((480 + 64 * jn + 24) + 4) (g.1 (480 + 64 * jn + 24 + 4) - nI (GA 4))) := ⟨_, rfl⟩
        rw [← egW4] at sp679
        have gW43 : gW4.2 3 = g.2 3 := by rw [egW4]; exact gW33
        refine tw_iinc [(4, .int 5), (3, .ref b), (0, .ref x), (1, .int (nI jn)), (2, .int (nI l))] 0 dX10_give_111 rfl (by decide) (by decide) rfl ?_
        refine tw_goto 81 dX10_give_114 (by decide) ?_
        refine tw_iload 0 dX10_give_81 rfl ?_
        refine tw_iconst (v := 5) dX10_give_83 (by decide) ?_
        refine tw_icmp_ge 117 dX10_give_84 (by decide) (fun _ => ?_) (fun c681 => absurd (by decide) c681)
        refine tw_aload_n 1 dX10_give_117 rfl rfl ?_
        refine tw_bi (tw_callS okX10_all dX10_give_118 w_1486 [.ref b] [] rfl rfl ⟨by decide, by decide⟩ (Nat.le_of_ble_eq_true rfl) (c2_X10_all d h676 b F8 f680 GA hGe) 0 0 (by omega) (by omega)) (fun r684 h683 q682 => ?_) (fun E h1 q => q.elim)
        obtain ⟨q682e, q682v⟩ := q682
        rw [q682e, q682v]
        exact tw_iret dX10_give_121 rfl (Or.inl ⟨_, rfl, _, _, sp679, oq678, Or.inr (Or.inr (Or.inr ⟨ix0, ⟨q67a, q67b⟩, (by unfold tw_chM; rw [cDn, cDam, eA]; exact fun z => by cases z), (by unfold tw_chM; rw [cDn, cDam, eA]; rfl), th677, (by unfold tw_chM; rw [cDn, cDam, eA, egW4, egW3, egW2, egW1, egW0]; exact tw_gT_m)⟩))⟩)

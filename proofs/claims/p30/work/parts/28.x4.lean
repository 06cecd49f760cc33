/-! the class's methods over the typed heap. Laid by wip/p5/mkclass.py. -/
/-! CHANGE BY FEW COINS: what class and reference both find. F: how many of each kind; tw_ch f m l: the last m kinds make l. -/
abbrev tw_F : Type := Nat → Nat
def tw_sum5 (F : tw_F) : Nat := F 0 + F 1 + F 2 + F 3 + F 4
def tw_pick (A X : Option tw_F) : Option tw_F := match X with
  | none => A
  | some x => match A with
    | none => some x
    | some a => if tw_sum5 x < tw_sum5 a then some x else some a
def tw_bf (c : Nat → Option tw_F) : Nat → Option tw_F → Option tw_F
  | 0, A => A
  | n + 1, A => tw_bf c n (tw_pick A (c n))
def tw_fo (s : Nat → Option tw_F → Option tw_F) : Nat → Option tw_F → Option tw_F
  | 0, A => A
  | n + 1, A => tw_fo s n (s n A)
def tw_fu (F : tw_F) (k n : Nat) : tw_F := fun j => if j = k then n else F j
def tw_ch (f : tw_F) : Nat → Nat → Option tw_F
  | 0, l => if l = 0 then some (fun _ => 0) else none
  | m + 1, l => tw_bf (fun n => (tw_ch f m (l - n * tw_ps (4 - m))).map (fun F => tw_fu F (4 - m) n)) (min (f (4 - m)) (l / tw_ps (4 - m)) + 1) none
theorem tw_pick_n (Z : Option tw_F) : tw_pick none Z = Z := by cases Z <;> rfl
theorem tw_pick_as (A X Y : Option tw_F) : tw_pick (tw_pick A X) Y = tw_pick A (tw_pick X Y) := by
  cases Y with
  | none => rfl
  | some y =>
    cases X with
    | none => rfl
    | some x =>
      cases A with
      | none =>
        rw [tw_pick_n, tw_pick_n]
      | some a =>
        show tw_pick (if tw_sum5 x < tw_sum5 a then some x else some a) (some y) = tw_pick (some a) (if tw_sum5 y < tw_sum5 x then some y else some x)
        by_cases p : tw_sum5 x < tw_sum5 a
        · rw [if_pos p]
          by_cases q : tw_sum5 y < tw_sum5 x
          · rw [if_pos q]
            show (if tw_sum5 y < tw_sum5 x then some y else some x) = (if tw_sum5 y < tw_sum5 a then some y else some a)
            rw [if_pos q, if_pos (by omega)]
          · rw [if_neg q]
            show (if tw_sum5 y < tw_sum5 x then some y else some x) = (if tw_sum5 x < tw_sum5 a then some x else some a)
            rw [if_neg q, if_pos p]
        · rw [if_neg p]
          by_cases q : tw_sum5 y < tw_sum5 x
          · rw [if_pos q]
          · rw [if_neg q]
            show (if tw_sum5 y < tw_sum5 a then some y else some a) = (if tw_sum5 x < tw_sum5 a then some x else some a)
            rw [if_neg (by omega), if_neg p]
theorem tw_pick_or (A X : Option tw_F) : tw_pick A X = A ∨ tw_pick A X = X := by
  cases X with
  | none => exact Or.inl rfl
  | some x =>
    cases A with
    | none => exact Or.inr rfl
    | some a =>
      by_cases p : tw_sum5 x < tw_sum5 a
      · refine Or.inr ?_
        show (if tw_sum5 x < tw_sum5 a then some x else some a) = some x
        exact if_pos p
      · refine Or.inl ?_
        show (if tw_sum5 x < tw_sum5 a then some x else some a) = some a
        exact if_neg p
theorem tw_bf_p (c : Nat → Option tw_F) : ∀ n A, tw_bf c n A = tw_pick A (tw_bf c n none) := by
  intro n
  induction n with
  | zero => intro A; rfl
  | succ n ih =>
    intro A
    show tw_bf c n (tw_pick A (c n)) = tw_pick A (tw_bf c n (tw_pick none (c n)))
    rw [ih (tw_pick A (c n)), ih (tw_pick none (c n)), tw_pick_n, tw_pick_as]
theorem tw_pick_map {u : tw_F → tw_F} {k : Nat} {A X : Option tw_F} (hA : ∀ F, A = some F → tw_sum5 (u F) = tw_sum5 F + k) (hX : ∀ F, X = some F → tw_sum5 (u F) = tw_sum5 F + k) : (tw_pick A X).map u = tw_pick (A.map u) (X.map u) := by
  cases X with
  | none => rfl
  | some x =>
    cases A with
    | none => rfl
    | some a =>
      show Option.map u (if tw_sum5 x < tw_sum5 a then some x else some a) = (if tw_sum5 (u x) < tw_sum5 (u a) then some (u x) else some (u a))
      rw [hA a rfl, hX x rfl]
      by_cases p : tw_sum5 x < tw_sum5 a
      · rw [if_pos p, if_pos (by omega)]; rfl
      · rw [if_neg p, if_neg (by omega)]; rfl
theorem tw_bf_map {c : Nat → Option tw_F} {u : tw_F → tw_F} {k : Nat} (hc : ∀ i F, c i = some F → tw_sum5 (u F) = tw_sum5 F + k) : ∀ n A, (∀ F, A = some F → tw_sum5 (u F) = tw_sum5 F + k) → (tw_bf c n A).map u = tw_bf (fun i => (c i).map u) n (A.map u) := by
  intro n
  induction n with
  | zero => intro A _; rfl
  | succ n ih =>
    intro A hA
    have hp : ∀ F, tw_pick A (c n) = some F → tw_sum5 (u F) = tw_sum5 F + k := fun F hF => by
      rcases tw_pick_or A (c n) with z | z
      · exact hA F (z.symm.trans hF)
      · exact hc n F (z.symm.trans hF)
    show (tw_bf c n (tw_pick A (c n))).map u = tw_bf (fun i => (c i).map u) n (tw_pick (A.map u) ((c n).map u))
    rw [ih (tw_pick A (c n)) hp, tw_pick_map hA (hc n)]
theorem tw_bf_in {c : Nat → Option tw_F} : ∀ n A F, tw_bf c n A = some F → A = some F ∨ ∃ i, i < n ∧ c i = some F := by
  intro n
  induction n with
  | zero => intro A F h; exact Or.inl h
  | succ n ih =>
    intro A F h
    rcases ih _ F h with z | ⟨i, hi, z⟩
    · rcases tw_pick_or A (c n) with y | y
      · exact Or.inl (y.symm.trans z)
      · exact Or.inr ⟨n, Nat.lt_succ_self n, y.symm.trans z⟩
    · exact Or.inr ⟨i, Nat.lt_succ_of_lt hi, z⟩
theorem tw_bf_st {c : Nat → Option tw_F} {a : tw_F} : ∀ n, (∀ i F, i < n → c i = some F → ¬ tw_sum5 F < tw_sum5 a) → tw_bf c n (some a) = some a := by
  intro n
  induction n with
  | zero => intro _; rfl
  | succ n ih =>
    intro h
    show tw_bf c n (tw_pick (some a) (c n)) = some a
    have e : tw_pick (some a) (c n) = some a := by
      cases z : c n with
      | none => rfl
      | some F =>
        show (if tw_sum5 F < tw_sum5 a then some F else some a) = some a
        exact if_neg (h n F (Nat.lt_succ_self n) z)
    rw [e]
    exact ih (fun i F hi => h i F (Nat.lt_succ_of_lt hi))
theorem tw_bf_no {c : Nat → Option tw_F} {A : Option tw_F} : ∀ n, (∀ i, i < n → c i = none) → tw_bf c n A = A := by
  intro n
  induction n with
  | zero => intro _; rfl
  | succ n ih =>
    intro h
    show tw_bf c n (tw_pick A (c n)) = A
    rw [h n (Nat.lt_succ_self n)]
    exact ih (fun i hi => h i (Nat.lt_succ_of_lt hi))
theorem tw_fo_bf {s : Nat → Option tw_F → Option tw_F} {c : Nat → Option tw_F} (h : ∀ n A, s n A = tw_pick A (c n)) : ∀ n A, tw_fo s n A = tw_bf c n A := by
  intro n
  induction n with
  | zero => intro A; rfl
  | succ n ih =>
    intro A
    show tw_fo s n (s n A) = tw_bf c n (tw_pick A (c n))
    rw [h, ih]
theorem tw_fu_sum {F : tw_F} {k n : Nat} (hk : k < 5) (h : F k = 0) : tw_sum5 (tw_fu F k n) = tw_sum5 F + n := by
  unfold tw_sum5 tw_fu
  rcases (show k = 0 ∨ k = 1 ∨ k = 2 ∨ k = 3 ∨ k = 4 by omega) with rfl | rfl | rfl | rfl | rfl
  · show n + F 1 + F 2 + F 3 + F 4 = _
    omega
  · show F 0 + n + F 2 + F 3 + F 4 = _
    omega
  · show F 0 + F 1 + n + F 3 + F 4 = _
    omega
  · show F 0 + F 1 + F 2 + n + F 4 = _
    omega
  · show F 0 + F 1 + F 2 + F 3 + n = _
    omega
theorem tw_ch_0 {f : tw_F} : ∀ m l F, tw_ch f m l = some F → (∀ j, j < 5 - m → F j = 0) ∧ ∀ j, F j ≤ f j := by
  intro m
  induction m with
  | zero =>
    intro l F h
    have h2 : (if l = 0 then some (fun _ => 0) else none) = some F := h
    by_cases q : l = 0
    · rw [if_pos q] at h2
      injection h2 with h2
      rw [← h2]
      exact ⟨fun _ _ => rfl, fun _ => Nat.zero_le _⟩
    · rw [if_neg q] at h2
      cases h2
  | succ m ih =>
    intro l F h
    rcases tw_bf_in _ _ _ h with z | ⟨i, hi, z⟩
    · cases z
    · have z2 : (tw_ch f m (l - i * tw_ps (4 - m))).map (fun F => tw_fu F (4 - m) i) = some F := z
      cases e : tw_ch f m (l - i * tw_ps (4 - m)) with
      | none => rw [e] at z2; cases z2
      | some G =>
        rw [e] at z2
        have z3 : tw_fu G (4 - m) i = F := by injection z2
        obtain ⟨a, b⟩ := ih _ G e
        rw [← z3]
        unfold tw_fu
        refine ⟨fun j hj => ?_, fun j => ?_⟩
        · rw [if_neg (by omega)]
          exact a j (by omega)
        · by_cases q : j = 4 - m
          · rw [if_pos q, q]
            omega
          · rw [if_neg q]
            exact b j
def tw_c4 (f : tw_F) (L : Nat) : Option tw_F := if L ≤ f 4 then some (fun j => if j = 4 then L else 0) else none
theorem tw_ch1 (f : tw_F) (L : Nat) : tw_ch f 1 L = tw_c4 f L := by
  show tw_bf (fun n => (tw_ch f 0 (L - n * tw_ps 4)).map (fun F => tw_fu F 4 n)) (min (f 4) (L / tw_ps 4) + 1) none = _
  have p : tw_ps 4 = 1 := rfl
  rw [p, Nat.div_one]
  have c0 : ∀ i, i < L → (tw_ch f 0 (L - i * 1)).map (fun F => tw_fu F 4 i) = none := fun i hi => by
    have e : tw_ch f 0 (L - i * 1) = none := if_neg (by omega)
    rw [e]
    rfl
  unfold tw_c4
  by_cases q : L ≤ f 4
  · rw [if_pos q, show min (f 4) L = L by omega]
    show tw_bf (fun n => (tw_ch f 0 (L - n * 1)).map (fun F => tw_fu F 4 n)) L (tw_pick none ((tw_ch f 0 (L - L * 1)).map (fun F => tw_fu F 4 L))) = _
    have e : tw_ch f 0 (L - L * 1) = some (fun _ => 0) := if_pos (by omega)
    rw [e]
    refine (tw_bf_no L c0).trans ?_
    rfl
  · rw [if_neg q]
    exact tw_bf_no _ (fun i hi => c0 i (by omega))
def tw_D34 (f : tw_F) (L : Nat) : tw_F := fun j => if j = 3 then min (f 3) (L / 2) else if j = 4 then L - min (f 3) (L / 2) * 2 else 0
def tw_c34 (f : tw_F) (L : Nat) : Option tw_F := if L - min (f 3) (L / 2) * 2 ≤ f 4 then some (tw_D34 f L) else none
theorem tw_ch2 (f : tw_F) (L : Nat) : tw_ch f 2 L = tw_c34 f L := by
  show tw_bf (fun n => (tw_ch f 1 (L - n * tw_ps 3)).map (fun F => tw_fu F 3 n)) (min (f 3) (L / tw_ps 3) + 1) none = _
  have p : tw_ps 3 = 2 := rfl
  rw [p]
  unfold tw_c34 tw_D34
  obtain ⟨D, eD⟩ : ∃ z, z = min (f 3) (L / 2) := ⟨_, rfl⟩
  rw [← eD]
  have hD : D * 2 ≤ L := by omega
  have c1 : ∀ i, (tw_ch f 1 (L - i * 2)).map (fun F => tw_fu F 3 i) = if L - i * 2 ≤ f 4 then some (tw_fu (fun j => if j = 4 then L - i * 2 else 0) 3 i) else none := fun i => by
    rw [tw_ch1]
    unfold tw_c4
    by_cases q : L - i * 2 ≤ f 4
    · rw [if_pos q, if_pos q]
      rfl
    · rw [if_neg q, if_neg q]
      rfl
  by_cases q : L - D * 2 ≤ f 4
  · rw [if_pos q]
    show tw_bf (fun n => (tw_ch f 1 (L - n * 2)).map (fun F => tw_fu F 3 n)) D (tw_pick none ((tw_ch f 1 (L - D * 2)).map (fun F => tw_fu F 3 D))) = _
    rw [c1 D, if_pos q]
    show tw_bf (fun n => (tw_ch f 1 (L - n * 2)).map (fun F => tw_fu F 3 n)) D (some (tw_fu (fun j => if j = 4 then L - D * 2 else 0) 3 D)) = some (tw_fu (fun j => if j = 4 then L - D * 2 else 0) 3 D)
    refine tw_bf_st D (fun i F hi hF => ?_)
    have hF2 := (c1 i).symm.trans hF
    by_cases r : L - i * 2 ≤ f 4
    · rw [if_pos r] at hF2
      injection hF2 with hF2
      rw [← hF2]
      have s : ∀ d e, tw_sum5 (tw_fu (fun j => if j = 4 then e else 0) 3 d) = d + e := fun d e => by
        show 0 + 0 + 0 + d + e = d + e
        omega
      rw [s, s]
      omega
    · rw [if_neg r] at hF2
      cases hF2
  · rw [if_neg q]
    refine tw_bf_no _ (fun i hi => ?_)
    rw [c1 i, if_neg (by omega)]
/-! the class's way: one best of all, over three loops -/
def tw_u2 (a b : Nat) (F : tw_F) : tw_F := tw_fu (tw_fu F 1 b) 0 a
def tw_xC (f : tw_F) (a b L c : Nat) : Option tw_F := ((tw_c34 f (L - c * 5)).map (fun F => tw_fu F 2 c)).map (tw_u2 a b)
def tw_sC (f : tw_F) (a b L : Nat) (A : Option tw_F) : Option tw_F := tw_bf (tw_xC f a b L) (min (f 2) (L / 5) + 1) A
def tw_sB (f : tw_F) (a L : Nat) (A : Option tw_F) : Option tw_F := tw_fo (fun b A => tw_sC f a b (L - b * 10) A) (min (f 1) (L / 10) + 1) A
def tw_sA (f : tw_F) (L : Nat) (A : Option tw_F) : Option tw_F := tw_fo (fun a A => tw_sB f a (L - a * 20) A) (min (f 0) (L / 20) + 1) A
theorem tw_sC_e (f : tw_F) (a b L : Nat) (A : Option tw_F) : tw_sC f a b L A = tw_pick A ((tw_ch f 3 L).map (tw_u2 a b)) := by
  unfold tw_sC
  rw [tw_bf_p]
  have e3 : tw_ch f 3 L = tw_bf (fun n => (tw_c34 f (L - n * 5)).map (fun F => tw_fu F 2 n)) (min (f 2) (L / 5) + 1) none := by
    show tw_bf (fun n => (tw_ch f 2 (L - n * 5)).map (fun F => tw_fu F 2 n)) (min (f 2) (L / 5) + 1) none = _
    rw [show (fun n => (tw_ch f 2 (L - n * 5)).map (fun F => tw_fu F 2 n)) = fun n => (tw_c34 f (L - n * 5)).map (fun F => tw_fu F 2 n) from funext fun n => by rw [tw_ch2]]
  rw [e3, tw_bf_map (k := a + b) ?_ _ none (fun F hF => by cases hF)]
  · rfl
  · intro i F hF
    have hF2 : (tw_ch f 2 (L - i * 5)).map (fun F => tw_fu F 2 i) = some F := by rw [tw_ch2]; exact hF
    cases e : tw_ch f 2 (L - i * 5) with
    | none => rw [e] at hF2; cases hF2
    | some G =>
      rw [e] at hF2
      have z3 : tw_fu G 2 i = F := by injection hF2
      have z := (tw_ch_0 _ _ _ e).1
      have z0 : F 0 = 0 := by rw [← z3]; exact z 0 (by decide)
      have z1 : F 1 = 0 := by rw [← z3]; exact z 1 (by decide)
      unfold tw_u2
      rw [tw_fu_sum (by decide) (by show F 0 = 0; exact z0), tw_fu_sum (by decide) z1]
      omega
theorem tw_sB_e (f : tw_F) (a L : Nat) (A : Option tw_F) : tw_sB f a L A = tw_pick A ((tw_ch f 4 L).map (fun F => tw_fu F 0 a)) := by
  unfold tw_sB
  rw [tw_fo_bf (c := fun b => (tw_ch f 3 (L - b * 10)).map (tw_u2 a b)) (fun b A => tw_sC_e f a b (L - b * 10) A), tw_bf_p]
  have e4 : tw_ch f 4 L = tw_bf (fun b => (tw_ch f 3 (L - b * 10)).map (fun F => tw_fu F 1 b)) (min (f 1) (L / 10) + 1) none := rfl
  rw [e4, tw_bf_map (k := a) ?_ _ none (fun F hF => by cases hF)]
  · have e5 : (fun b => ((tw_ch f 3 (L - b * 10)).map (fun F => tw_fu F 1 b)).map (fun F => tw_fu F 0 a)) = fun b => (tw_ch f 3 (L - b * 10)).map (tw_u2 a b) := funext fun b => by
      cases tw_ch f 3 (L - b * 10) <;> rfl
    rw [e5]
    rfl
  · intro i F hF
    cases e : tw_ch f 3 (L - i * 10) with
    | none => rw [e] at hF; cases hF
    | some G =>
      rw [e] at hF
      have z3 : tw_fu G 1 i = F := by injection hF
      have z := (tw_ch_0 _ _ _ e).1
      have z0 : F 0 = 0 := by rw [← z3]; exact z 0 (by decide)
      exact tw_fu_sum (by decide) z0
theorem tw_sA_e (f : tw_F) (L : Nat) : tw_sA f L none = tw_ch f 5 L := by
  unfold tw_sA
  rw [tw_fo_bf (c := fun a => (tw_ch f 4 (L - a * 20)).map (fun F => tw_fu F 0 a)) (fun a A => tw_sB_e f a (L - a * 20) A)]
  rfl
/-! as numbers of the machine -/
def tw_cdN (F : tw_F) : Nat := (((F 0 * 10 + F 1) * 10 + F 2) * 10 + F 3) * 10 + F 4
def tw_cd (A : Option tw_F) : Int32 := match A with
  | none => -1
  | some F => nI (tw_cdN F)
def tw_fw (A : Option tw_F) : Int32 := match A with
  | none => 46
  | some F => nI (tw_sum5 F)
def tw_ok9 (A : Option tw_F) : Prop := ∀ F, A = some F → tw_sum5 F ≤ 45
theorem tw_ok9.pick {A : Option tw_F} {F : tw_F} (h : tw_ok9 A) (hF : tw_sum5 F ≤ 45) : tw_ok9 (tw_pick A (some F)) := fun G hG => by
  rcases tw_pick_or A (some F) with z | z
  · exact h G (z.symm.trans hG)
  · have e := z.symm.trans hG
    injection e with e
    rw [← e]
    exact hF
/-- the candidate is better or not -/
theorem tw_pick_lt {A : Option tw_F} {F : tw_F} (h : tw_ok9 A) (hF : tw_sum5 F ≤ 45) (c : ¬ tw_fw A ≤ nI (tw_sum5 F)) : tw_pick A (some F) = some F := by
  cases A with
  | none => rfl
  | some a =>
    show (if tw_sum5 F < tw_sum5 a then some F else some a) = some F
    refine if_pos ?_
    have h9 := h a rfl
    rcases Nat.lt_or_ge (tw_sum5 F) (tw_sum5 a) with q | q
    · exact q
    · exact absurd (nI_le q (by omega)) c
theorem tw_pick_ge {A : Option tw_F} {F : tw_F} (h : tw_ok9 A) (hF : tw_sum5 F ≤ 45) (c : tw_fw A ≤ nI (tw_sum5 F)) : tw_pick A (some F) = A := by
  cases A with
  | none =>
    have c2 : nI 46 ≤ nI (tw_sum5 F) := c
    exact absurd c2 (Int32.not_le.mpr (nI_lt (by omega) (by decide)))
  | some a =>
    show (if tw_sum5 F < tw_sum5 a then some F else some a) = some a
    refine if_neg ?_
    have h9 := h a rfl
    intro q
    exact absurd c (Int32.not_le.mpr (nI_lt q (by omega)))
/-! the numbers of a till -/
def tw_tl (g : tw_G) (b : Nat) : tw_F := fun j => if j < 5 then tw_DN (g.1 (b + j)) else 0
def tw_tn (f : Nat → Int32) : tw_F := fun j => if j < 5 then tw_DN (f j) else 0
def tw_gF (o : Option tw_F) : tw_F := match o with
  | some F => F
  | none => fun _ => 0
def tw_chC (g : tw_G) (n am : Int32) : Option tw_F := tw_ch (tw_tl g (160 + 64 * tw_DN n + 32)) 5 (tw_DN am)
def tw_chM (g : tw_G) (n am : Int32) : Option tw_F := tw_ch (tw_tl g (480 + 64 * tw_DN n + 24)) 5 (tw_DN am)
def tw_RA (am : Int32) : Prop := 1 ≤ am ∧ am ≤ 400
def tw_R9 (my : Int32) : Prop := 0 ≤ my ∧ my ≤ 9
def tw_TC (g : tw_G) : Prop := ∀ j, j < g.2 6 → ∀ k, k < 5 → 0 ≤ g.1 (160 + 64 * j + 32 + k) ∧ g.1 (160 + 64 * j + 32 + k) ≤ 9
theorem tw_9 {x : Int32} (h1 : 0 ≤ x) (h2 : x ≤ 9) : tw_DN x ≤ 9 ∧ x = nI (tw_DN x) := by
  obtain ⟨n, -, h, rfl⟩ := tw_I_rng (a := 0) (b := 9) h1 h2 (by decide) (by decide)
  rw [show tw_DN (nI n) = n from nI_clamp (by omega)]
  exact ⟨h, rfl⟩
theorem tw_tl9 {g : tw_G} {b : Nat} (h : ∀ k, k < 5 → 0 ≤ g.1 (b + k) ∧ g.1 (b + k) ≤ 9) : ∀ k, tw_tl g b k ≤ 9 := by
  intro k
  unfold tw_tl
  by_cases q : k < 5
  · rw [if_pos q]
    exact (tw_9 (h k q).1 (h k q).2).1
  · rw [if_neg q]
    decide
theorem tw_tn9 {f : Nat → Int32} (h : ∀ k, 0 ≤ f k ∧ f k ≤ 9) : ∀ k, tw_tn f k ≤ 9 := by
  intro k
  unfold tw_tn
  by_cases q : k < 5
  · rw [if_pos q]
    exact (tw_9 (h k).1 (h k).2).1
  · rw [if_neg q]
    decide
theorem tw_tntl {g : tw_G} {b : Nat} {f : Nat → Int32} (h : ∀ k, k < 5 → f k = g.1 (b + k)) : tw_tn f = tw_tl g b := by
  funext k
  unfold tw_tn tw_tl
  by_cases q : k < 5
  · rw [if_pos q, if_pos q, h k q]
  · rw [if_neg q, if_neg q]
theorem tw_tl_congr {g g' : tw_G} {a b : Nat} (h : ∀ k, k < 5 → g.1 (a + k) = g'.1 (b + k)) : tw_tl g a = tw_tl g' b := by
  funext k
  unfold tw_tl
  by_cases q : k < 5
  · rw [if_pos q, if_pos q, h k q]
  · rw [if_neg q, if_neg q]
theorem tw_s45 {f F : tw_F} (hf : ∀ k, f k ≤ 9) (h : ∀ k, F k ≤ f k) : tw_sum5 F ≤ 45 := by
  have a0 := h 0
  have a1 := h 1
  have a2 := h 2
  have a3 := h 3
  have a4 := h 4
  have b0 := hf 0
  have b1 := hf 1
  have b2 := hf 2
  have b3 := hf 3
  have b4 := hf 4
  unfold tw_sum5
  omega
theorem tw_minX {x v : Int32} {b : Nat} (h0 : 0 ≤ x) (h9 : x ≤ 9) (hb : b ≤ 400) (e : v = if nI b < x then nI b else x) : v = nI (min (tw_DN x) b) := by
  obtain ⟨a, ex⟩ := tw_9 h0 h9
  obtain ⟨n, en⟩ : ∃ z, z = tw_DN x := ⟨_, rfl⟩
  rw [← en] at a ex ⊢
  rw [ex] at e
  by_cases q : nI b < nI n
  · rw [if_pos q] at e
    have := (nI_ltI (by omega) (by omega)).mp q
    rw [e, show min n b = b by omega]
  · rw [if_neg q] at e
    have : ¬ b < n := fun z => q ((nI_ltI (by omega) (by omega)).mpr z)
    rw [e, show min n b = n by omega]
theorem tw_nimul {a b : Nat} : nI a * nI b = nI (a * b) := (Int32.ofNat_mul a b).symm
theorem tw_I_div {a b : Nat} (ha : a < 2 ^ 31) (hb : b < 2 ^ 31) : nI a / nI b = nI (a / b) := by
  have l : a / b ≤ a := Nat.div_le_self a b
  refine tw_I_of ?_ (by omega)
  rw [Int32.toInt_div, nI_toInt ha, nI_toInt hb]
  have e : Int.tdiv (a : Int) b = ((a / b : Nat) : Int) := by simp
  rw [e]
  clear e
  generalize a / b = c at l ⊢
  apply Int.bmod_eq_of_le_mul_two <;> omega
theorem tw_dm {A e : Nat} (he : e ≤ 9) (hA : A ≤ 100000) : nI (A * 10 + e) / 10 = nI A ∧ nI (A * 10 + e) - nI (A * 10 + e) / 10 * 10 = nI e := by
  have d : nI (A * 10 + e) / 10 = nI A := by
    have z := tw_I_div (a := A * 10 + e) (b := 10) (by omega) (by decide)
    rw [show (A * 10 + e) / 10 = A by omega] at z
    exact z
  refine ⟨d, ?_⟩
  rw [d]
  have z : nI A * 10 = nI (A * 10) := tw_nimul (b := 10)
  rw [z, tw_I_sub (by omega) (by omega), show A * 10 + e - A * 10 = e by omega]
theorem tw_gT_n {g : tw_G} {b : Nat} {F : tw_F} : tw_g1 (tw_g1 (tw_g1 (tw_g1 (tw_g1 g (b + 4) (g.1 (b + 4) - nI (F 4))) (b + 3) (g.1 (b + 3) - nI (F 3))) (b + 2) (g.1 (b + 2) - nI (F 2))) (b + 1) (g.1 (b + 1) - nI (F 1))) (b + 0) (g.1 (b + 0) - nI (F 0)) = tw_gT g b F := by
  refine Prod.ext (funext fun i => ?_) rfl
  show (if i = b + 0 then _ else if i = b + 1 then _ else if i = b + 2 then _ else if i = b + 3 then _ else if i = b + 4 then _ else g.1 i) = if b ≤ i ∧ i < b + 5 then g.1 i - nI (F (i - b)) else g.1 i
  by_cases q : b ≤ i ∧ i < b + 5
  · rw [if_pos q]
    obtain ⟨k, rfl⟩ : ∃ k, i = b + k := ⟨i - b, by omega⟩
    rw [show b + k - b = k by omega]
    rcases (show k = 0 ∨ k = 1 ∨ k = 2 ∨ k = 3 ∨ k = 4 by omega) with rfl | rfl | rfl | rfl | rfl
    · rw [if_pos rfl]
    · rw [if_neg (by omega), if_pos rfl]
    · rw [if_neg (by omega), if_neg (by omega), if_pos rfl]
    · rw [if_neg (by omega), if_neg (by omega), if_neg (by omega), if_pos rfl]
    · rw [if_neg (by omega), if_neg (by omega), if_neg (by omega), if_neg (by omega), if_pos rfl]
  · rw [if_neg q, if_neg (by omega), if_neg (by omega), if_neg (by omega), if_neg (by omega), if_neg (by omega)]
theorem tw_gT_m {g : tw_G} {b : Nat} {F : tw_F} : tw_g1 (tw_g1 (tw_g1 (tw_g1 (tw_g1 g (b + 0) (g.1 (b + 0) - nI (F 0))) (b + 1) (g.1 (b + 1) - nI (F 1))) (b + 2) (g.1 (b + 2) - nI (F 2))) (b + 3) (g.1 (b + 3) - nI (F 3))) (b + 4) (g.1 (b + 4) - nI (F 4)) = tw_gT g b F := by
  refine Prod.ext (funext fun i => ?_) rfl
  show (if i = b + 4 then _ else if i = b + 3 then _ else if i = b + 2 then _ else if i = b + 1 then _ else if i = b + 0 then _ else g.1 i) = if b ≤ i ∧ i < b + 5 then g.1 i - nI (F (i - b)) else g.1 i
  by_cases q : b ≤ i ∧ i < b + 5
  · rw [if_pos q]
    obtain ⟨k, rfl⟩ : ∃ k, i = b + k := ⟨i - b, by omega⟩
    rw [show b + k - b = k by omega]
    rcases (show k = 0 ∨ k = 1 ∨ k = 2 ∨ k = 3 ∨ k = 4 by omega) with rfl | rfl | rfl | rfl | rfl
    · rw [if_neg (by omega), if_neg (by omega), if_neg (by omega), if_neg (by omega), if_pos rfl]
    · rw [if_neg (by omega), if_neg (by omega), if_neg (by omega), if_pos rfl]
    · rw [if_neg (by omega), if_neg (by omega), if_pos rfl]
    · rw [if_neg (by omega), if_pos rfl]
    · rw [if_pos rfl]
  · rw [if_neg q, if_neg (by omega), if_neg (by omega), if_neg (by omega), if_neg (by omega), if_neg (by omega)]
theorem tw_cdN_9 {F : tw_F} (h : ∀ k, F k ≤ 9) : tw_cdN F ≤ 99999 := by
  have a0 := h 0
  have a1 := h 1
  have a2 := h 2
  have a3 := h 3
  have a4 := h 4
  unfold tw_cdN
  omega
theorem tw_cd_n {A : Option tw_F} (h : ∀ F, A = some F → ∀ k, F k ≤ 9) : tw_cd A = -1 ↔ A = none := by
  cases A with
  | none => exact ⟨fun _ => rfl, fun _ => rfl⟩
  | some F =>
    refine ⟨fun z => ?_, fun z => by cases z⟩
    have z2 : nI (tw_cdN F) = -1 := z
    have b := tw_cdN_9 (h F rfl)
    have z3 := congrArg Int32.toInt z2
    rw [nI_toInt (by omega), show (-1 : Int32).toInt = -1 by decide] at z3
    omega
theorem tw_ch9 {f : tw_F} {m l : Nat} (hf : ∀ k, f k ≤ 9) : ∀ F, tw_ch f m l = some F → ∀ k, F k ≤ 9 := fun F hF k => Nat.le_trans ((tw_ch_0 _ _ _ hF).2 k) (hf k)
theorem tw_gF_some {o : Option tw_F} (h : o ≠ none) : o = some (tw_gF o) := by
  cases o with
  | none => exact absurd rfl h
  | some F => rfl
theorem tw_ix5 {k : Int32} (c1 : ¬ k < 0) (c2 : ¬ 5 ≤ k) : ∃ j, j < 5 ∧ k = nI j := by
  obtain ⟨j, hj, rfl⟩ := nI_of c1
  refine ⟨j, ?_, rfl⟩
  rcases Nat.lt_or_ge j 5 with q | q
  · exact q
  · exact absurd (nI_le (a := 5) q hj) c2
/-! the reference's way: what a call of best brings -/
def tw_bR (d : tw_D) (h h1 : tw_H) (r : Option Nat) (X : Option tw_F) : Prop := (r = none ∧ X = none) ∨ ∃ (q : Nat) (F : Nat → Int32) (G : tw_F), r = some q ∧ X = some G ∧ h q = none ∧ h1 q = some (.inl (d.2 0, 5, .inl F)) ∧ ∀ j, j < 5 → F j = nI (G j)
theorem tw_bR.n {d : tw_D} {h h1 : tw_H} {X : Option tw_F} (a : tw_bR d h h1 none X) : X = none := by
  rcases a with ⟨-, e⟩ | ⟨q, F, G, e, -⟩
  · exact e
  · cases e
theorem tw_bR.s {d : tw_D} {h h1 : tw_H} {q : Nat} {X : Option tw_F} (a : tw_bR d h h1 (some q) X) : ∃ (F : Nat → Int32) (G : tw_F), X = some G ∧ h q = none ∧ h1 q = some (.inl (d.2 0, 5, .inl F)) ∧ ∀ j, j < 5 → F j = nI (G j) := by
  rcases a with ⟨e, -⟩ | ⟨q1, F, G, e, a, b, c, z⟩
  · cases e
  · cases e
    exact ⟨F, G, a, b, c, z⟩
theorem tw_fuI {F : Nat → Int32} {G : tw_F} {k n : Nat} (h : ∀ j, j < 5 → F j = nI (G j)) : ∀ j, j < 5 → upd F k (nI n) j = nI (tw_fu G k n j) := by
  intro j hj
  unfold upd tw_fu
  by_cases q : j = k
  · rw [if_pos q, if_pos q]
  · rw [if_neg q, if_neg q, h j hj]
theorem tw_chR (f : tw_F) {m k : Nat} (hk : k + m = 4) (l : Nat) : tw_ch f (m + 1) l = tw_bf (fun n => (tw_ch f m (l - n * tw_ps k)).map (fun F => tw_fu F k n)) (min (f k) (l / tw_ps k) + 1) none := by
  obtain rfl : k = 4 - m := by omega
  rfl
theorem tw_bR.mono {d : tw_D} {h h1 h2 : tw_H} {r : Option Nat} {X : Option tw_F} (a : tw_bR d h h1 r X) (w : tw_gw h1 h2) : tw_bR d h h2 r X := by
  rcases a with a | ⟨q, F, G, a1, a2, a3, a4, a5⟩
  · exact Or.inl a
  · exact Or.inr ⟨q, F, G, a1, a2, a3, w _ _ a4, a5⟩
theorem tw_fu45 {f G : tw_F} {k n : Nat} (hf : ∀ j, f j ≤ 9) (hG : ∀ j, G j ≤ f j) (hn : n ≤ f k) : tw_sum5 (tw_fu G k n) ≤ 45 := tw_s45 hf (fun j => by
  unfold tw_fu
  by_cases q : j = k
  · rw [if_pos q, q]; exact hn
  · rw [if_neg q]; exact hG j)
theorem tw_gw.th {h h1 : tw_H} (w : tw_gw h h1) {x : Nat} (hs : h x ≠ none) : h1 x = h x := by
  cases e : h x with
  | none => exact absurd e hs
  | some y => exact w x y e
theorem tw_bh {l a p : Nat} (h : a * p ≤ l) (hl : l < 2 ^ 31) : nI l - nI p * nI a = nI (l - a * p) := by
  rw [tw_nimul, Nat.mul_comm p a]
  exact tw_I_sub hl h
theorem tw_cdI {a b c d e : Nat} : nI a * 10000 + nI b * 1000 + nI c * 100 + nI d * 10 + nI e = nI ((((a * 10 + b) * 10 + c) * 10 + d) * 10 + e) := by
  have k1 : nI a * 10000 = nI (a * 10000) := tw_nimul (b := 10000)
  have k2 : nI b * 1000 = nI (b * 1000) := tw_nimul (b := 1000)
  have k3 : nI c * 100 = nI (c * 100) := tw_nimul (b := 100)
  have k4 : nI d * 10 = nI (d * 10) := tw_nimul (b := 10)
  rw [k1, k2, k3, k4, tw_niadd, tw_niadd, tw_niadd, tw_niadd]
  exact congrArg nI (by omega)
theorem tw_smI {a b c d e : Nat} : nI a + nI b + nI c + nI d + nI e = nI (a + b + c + d + e) := by
  rw [tw_niadd, tw_niadd, tw_niadd, tw_niadd]
theorem tw_mk10 {m d : Nat} : 10 * nI m + nI d = nI (m * 10 + d) := by
  have k1 : 10 * nI m = nI (10 * m) := tw_nimul (a := 10)
  rw [k1, tw_niadd, Nat.mul_comm]
theorem tw_smI0 {a b c d e : Nat} : 0 + nI a + nI b + nI c + nI d + nI e = nI (a + b + c + d + e) := by
  have z : (0 : Int32) = nI 0 := rfl
  rw [z, tw_niadd, tw_niadd, tw_niadd, tw_niadd, tw_niadd, Nat.zero_add]
theorem tw_dm0 {e : Nat} (he : e ≤ 9) : nI e / 10 = nI 0 ∧ nI e - nI e / 10 * 10 = nI e := by
  have z := tw_dm (A := 0) he (by decide)
  rw [show 0 * 10 + e = e by omega] at z
  exact z
theorem tw_tsub {g : tw_G} {B : Nat} {GA : tw_F} (u : ∀ k, k < 5 → 0 ≤ g.1 (B + k) ∧ g.1 (B + k) ≤ 9) (k : Nat) (hk : k < 5) (gle : ∀ k, GA k ≤ tw_tl g B k) : 0 ≤ g.1 (B + k) - nI (GA k) ∧ g.1 (B + k) - nI (GA k) ≤ 9 := by
  have a := tw_9 (u k hk).1 (u k hk).2
  have b := gle k
  unfold tw_tl at b
  rw [if_pos hk] at b
  exact tw_gsub (u k hk).1 (u k hk).2 (nI_pos' (by omega)) (by rw [a.2]; exact nI_le b (by omega)) rfl

set_option maxHeartbeats 4000000 in
set_option maxRecDepth 100000 in
theorem c2_X4_manyOf (d : tw_D) (g : tw_G) (τ : tw_K) (h : tw_H) (hw : tw_wt d g τ h) (x : Nat) (kx : τ x = 5) (j : Nat) (hj : j < 4) (hb : g.2 (4096 + x) = 160 + 64 * j + 32) (i : Nat) (hi : i < 5) : tw_Ct d mX4_manyOf 0 0 [.ref x, .int (nI i)] h (tw_qi (fun r h1 => h1 = h ∧ r = g.1 (160 + 64 * j + 32 + i)) tw_nx) := by
  refine tw_of (by decide +kernel) (Nat.le_of_ble_eq_true rfl) ?_
  show tw_W d mX4_manyOf _ 0 [(0, .ref x), (1, .int (nI i))] [] h 0 0
  have sp0 := tw_sp.rf hw
  refine tw_iload_n 1 dX4_manyOf_0 rfl rfl ?_
  refine tw_if_lt 22 dX4_manyOf_1 (by decide) (fun c1 => absurd c1 (nI_pos (by omega))) (fun _ => ?_)
  refine tw_iload_n 1 dX4_manyOf_4 rfl rfl ?_
  refine tw_aload_n 0 dX4_manyOf_5 rfl rfl ?_
  obtain ⟨e2, f3, m_4, rfl, k5, k6⟩ := sp0.1 x 5 kx (by decide)
  refine tw_get (v := .ref m_4) rfl in_8 0 dX4_manyOf_6 w_238 rfl (by decide) f3 rfl ?_
  obtain ⟨e7, f8, F9, rfl, ⟨b11, ow12, wv13⟩⟩ := sp0.1 m_4 7 k5 (by decide)
  obtain rfl : b11 = (160 + 64 * j + 32) := ow12.b (k6.trans hb)
  refine tw_alen (v := nI 5) 0 rfl dX4_manyOf_9 f8 rfl ?_
  refine tw_icmp_ge 22 dX4_manyOf_10 (by decide) (fun c14 => absurd c14 (Int32.not_le.mpr (nI_lt hi (by decide)))) (fun _ => ?_)
  refine tw_aload_n 0 dX4_manyOf_13 rfl rfl ?_
  refine tw_get (v := .ref m_4) rfl in_8 0 dX4_manyOf_14 w_238 rfl (by decide) f3 rfl ?_
  refine tw_iload_n 1 dX4_manyOf_17 rfl rfl ?_
  have ev15 : F9 ((nI i)).toNatClampNeg = (g.1 ((160 + 64 * j + 32) + i)) := by rw [nI_clamp (by omega)]; exact wv13 i (by omega)
  refine tw_iald (v := (g.1 ((160 + 64 * j + 32) + i))) dX4_manyOf_18 f8 (vp_in_nI (by omega) (by decide)) ev15 ?_
  refine tw_goto 23 dX4_manyOf_19 (by decide) ?_
  exact tw_iret dX4_manyOf_23 rfl (Or.inl ⟨_, rfl, rfl, rfl⟩)

set_option maxHeartbeats 4000000 in
set_option maxRecDepth 100000 in
theorem c2_X4_fewestFor (d : tw_D) (g : tw_G) (τ : tw_K) (h : tw_H) (hw : tw_wt d g τ h) (x : Nat) (kx : τ x = 5) (j : Nat) (hj : j < 4) (hb : g.2 (4096 + x) = 160 + 64 * j + 32) (l : Nat) (hl : l ≤ 400) (ht : ∀ k, k < 5 → 0 ≤ g.1 (160 + 64 * j + 32 + k) ∧ g.1 (160 + 64 * j + 32 + k) ≤ 9) : tw_Ct d mX4_fewestFor 0 0 [.ref x, .int (nI l)] h (tw_qi (fun r h1 => h1 = h ∧ r = tw_cd (tw_ch (tw_tl g (160 + 64 * j + 32)) 5 l)) tw_nx) := by
  refine tw_of (by decide +kernel) (Nat.le_of_ble_eq_true rfl) ?_
  show tw_W d mX4_fewestFor _ 0 [(0, .ref x), (1, .int (nI l))] [] h 0 0
  have sp0 := tw_sp.rf hw
  obtain ⟨f, ef⟩ : ∃ z, z = tw_tl g (160 + 64 * j + 32) := ⟨_, rfl⟩
  have hf0 : f 0 = tw_DN (g.1 (160 + 64 * j + 32 + 0)) := by rw [ef]; rfl
  have hf1 : f 1 = tw_DN (g.1 (160 + 64 * j + 32 + 1)) := by rw [ef]; rfl
  have hf2 : f 2 = tw_DN (g.1 (160 + 64 * j + 32 + 2)) := by rw [ef]; rfl
  have hf3 : f 3 = tw_DN (g.1 (160 + 64 * j + 32 + 3)) := by rw [ef]; rfl
  have hf4 : f 4 = tw_DN (g.1 (160 + 64 * j + 32 + 4)) := by rw [ef]; rfl
  have hf9 : ∀ k, f k ≤ 9 := by rw [ef]; exact tw_tl9 ht
  refine tw_iconst (v := -1) dX4_fewestFor_0 (by decide) ?_
  refine tw_istore_n [(2, .int (-1)), (0, .ref x), (1, .int (nI l))] dX4_fewestFor_1 rfl (by decide) rfl ?_
  refine tw_bipush (v := 46) dX4_fewestFor_2 (by decide) ?_
  refine tw_istore_n [(3, .int 46), (2, .int (-1)), (0, .ref x), (1, .int (nI l))] dX4_fewestFor_4 rfl (by decide) rfl ?_
  refine tw_aload_n 2 dX4_fewestFor_5 rfl rfl ?_
  refine tw_iconst (v := 0) dX4_fewestFor_6 (by decide) ?_
  obtain ⟨e1, f2, m_3, rfl, k4, k5⟩ := sp0.1 x 5 kx (by decide)
  refine tw_bi (tw_callV (M := mX4_fewestFor) (pc := 7) okX4_manyOf dX4_fewestFor_7 w_510 rfl f2 [.int 0] [] rfl rfl ⟨by decide, by decide⟩ (Nat.le_of_ble_eq_true rfl) (c2_X4_manyOf d g τ h sp0.1 x kx j hj hb 0 (by decide)) 0 0 (Nat.le_of_ble_eq_true rfl) (Nat.le_of_ble_eq_true rfl)) (fun r8 h7 q6 => ?_) (fun E h1 q => q.elim)
  obtain ⟨q6e, q6v⟩ := q6
  rw [q6e]
  refine tw_iload_n 3 dX4_fewestFor_10 rfl rfl ?_
  refine tw_bipush (v := 20) dX4_fewestFor_11 (by decide) ?_
  refine tw_idiv dX4_fewestFor_13 (by decide) ?_
  refine tw_nmi (fun v9 ev9 => ?_)
  have yq : v9 = nI (l / 20) := by rw [ev9]; exact tw_I_div (b := 20) (by omega) (by decide)
  subst yq
  refine tw_mmin dX4_fewestFor_14 w_514 w_515 w_64 w_516 ⟨by decide, Nat.le_of_ble_eq_true rfl⟩ ?_
  refine tw_nmi (fun v10 ev10 => ?_)
  have mq := tw_minX (by rw [q6v]; exact (ht 0 (by decide)).1) (by rw [q6v]; exact (ht 0 (by decide)).2) (by omega) ev10
  obtain ⟨aM, eaM⟩ : ∃ z, z = min (f 0) (l / 20) := ⟨_, rfl⟩
  have mr : v10 = nI aM := by rw [mq, eaM, q6v, hf0]
  clear mq
  subst mr
  refine tw_istore [(4, .int (nI aM)), (3, .int 46), (2, .int (-1)), (0, .ref x), (1, .int (nI l))] dX4_fewestFor_17 (by decide) rfl ?_
  have Ma : ∀ (n : Nat) (A1 : Option tw_F), n ≤ aM + 1 → tw_ok9 A1 → tw_fo (fun a A => tw_sB f a (l - a * 20) A) n A1 = tw_ch f 5 l → tw_W d mX4_fewestFor (tw_qi (fun r h1 => h1 = h ∧ r = tw_cd (tw_ch (tw_tl g (160 + 64 * j + 32)) 5 l)) tw_nx) 19 [(4, .int (nI n + (-1))), (2, .int (tw_cd A1)), (3, .int (tw_fw A1)), (0, .ref x), (1, .int (nI l))] [] h 0 0 := by
    intro n
    induction n with
    | zero =>
      intro A1 hna hAa hRa
      refine tw_iload 0 dX4_fewestFor_19 rfl ?_
      refine tw_if_lt 204 dX4_fewestFor_21 (by decide) (fun _ => ?_) (fun c11 => absurd (by decide) c11)
      refine tw_iload_n 1 dX4_fewestFor_204 rfl rfl ?_
      exact tw_iret dX4_fewestFor_205 rfl (Or.inl ⟨_, rfl, rfl, by rw [← ef]; exact congrArg tw_cd (show A1 = tw_ch f 5 l from hRa)⟩)
    | succ a9 ih1 =>
      intro A1 hna hAa hRa
      rw [tw_nIm1 a9]
      refine tw_iload 0 dX4_fewestFor_19 rfl ?_
      refine tw_if_lt 204 dX4_fewestFor_21 (by decide) (fun c12 => absurd c12 (nI_pos (by omega))) (fun _ => ?_)
      refine tw_iload_n 4 dX4_fewestFor_24 rfl rfl ?_
      refine tw_bipush (v := 20) dX4_fewestFor_25 (by decide) ?_
      refine tw_iload 0 dX4_fewestFor_27 rfl ?_
      refine tw_imul dX4_fewestFor_29 ?_
      refine tw_nmi (fun v13 ev13 => ?_)
      refine tw_isub dX4_fewestFor_30 ?_
      refine tw_nmi (fun v14 ev14 => ?_)
      have bh : v14 = nI (l - a9 * 20) := by rw [ev14, ev13]; exact tw_bh (p := 20) (by omega) (by omega)
      obtain ⟨L2, eL2⟩ : ∃ z, z = l - a9 * 20 := ⟨_, rfl⟩
      rw [← eL2] at bh
      have hL2 : L2 ≤ 400 := by omega
      subst bh
      refine tw_istore [(5, .int (nI L2)), (4, .int (nI a9)), (2, .int (tw_cd A1)), (3, .int (tw_fw A1)), (0, .ref x), (1, .int (nI l))] dX4_fewestFor_31 (by decide) rfl ?_
      refine tw_aload_n 4 dX4_fewestFor_33 rfl rfl ?_
      refine tw_iconst (v := 1) dX4_fewestFor_34 (by decide) ?_
      obtain ⟨e15, f16, m_17, rfl, k18, k19⟩ := sp0.1 x 5 kx (by decide)
      refine tw_bi (tw_callV (M := mX4_fewestFor) (pc := 35) okX4_manyOf dX4_fewestFor_35 w_510 rfl f16 [.int 1] [] rfl rfl ⟨by decide, by decide⟩ (Nat.le_of_ble_eq_true rfl) (c2_X4_manyOf d g τ h sp0.1 x kx j hj hb 1 (by decide)) 0 0 (Nat.le_of_ble_eq_true rfl) (Nat.le_of_ble_eq_true rfl)) (fun r22 h21 q20 => ?_) (fun E h1 q => q.elim)
      obtain ⟨q20e, q20v⟩ := q20
      rw [q20e]
      refine tw_iload 0 dX4_fewestFor_38 rfl ?_
      refine tw_bipush (v := 10) dX4_fewestFor_40 (by decide) ?_
      refine tw_idiv dX4_fewestFor_42 (by decide) ?_
      refine tw_nmi (fun v23 ev23 => ?_)
      have yq : v23 = nI (L2 / 10) := by rw [ev23]; exact tw_I_div (b := 10) (by omega) (by decide)
      subst yq
      refine tw_mmin dX4_fewestFor_43 w_514 w_515 w_64 w_516 ⟨by decide, Nat.le_of_ble_eq_true rfl⟩ ?_
      refine tw_nmi (fun v24 ev24 => ?_)
      have mq := tw_minX (by rw [q20v]; exact (ht 1 (by decide)).1) (by rw [q20v]; exact (ht 1 (by decide)).2) (by omega) ev24
      obtain ⟨bM, ebM⟩ : ∃ z, z = min (f 1) (L2 / 10) := ⟨_, rfl⟩
      have mr : v24 = nI bM := by rw [mq, ebM, q20v, hf1]
      clear mq
      subst mr
      refine tw_istore [(6, .int (nI bM)), (5, .int (nI L2)), (4, .int (nI a9)), (2, .int (tw_cd A1)), (3, .int (tw_fw A1)), (0, .ref x), (1, .int (nI l))] dX4_fewestFor_46 (by decide) rfl ?_
      have Mb : ∀ (n : Nat) (A2 : Option tw_F), n ≤ bM + 1 → tw_ok9 A2 → tw_fo (fun a A => tw_sB f a (l - a * 20) A) a9 (tw_fo (fun b A => tw_sC f a9 b (L2 - b * 10) A) n A2) = tw_ch f 5 l → tw_W d mX4_fewestFor (tw_qi (fun r h1 => h1 = h ∧ r = tw_cd (tw_ch (tw_tl g (160 + 64 * j + 32)) 5 l)) tw_nx) 48 [(6, .int (nI n + (-1))), (2, .int (tw_cd A2)), (3, .int (tw_fw A2)), (0, .ref x), (1, .int (nI l)), (4, .int (nI a9)), (5, .int (nI L2))] [] h 0 0 := by
        intro n
        induction n with
        | zero =>
          intro A2 hnb hAb hRb
          refine tw_iload 0 dX4_fewestFor_48 rfl ?_
          refine tw_if_lt 198 dX4_fewestFor_50 (by decide) (fun _ => ?_) (fun c25 => absurd (by decide) c25)
          obtain ⟨v26, ev26⟩ : ∃ y : Int32, y = (nI a9) + (-1) := ⟨_, rfl⟩
          refine tw_iinc [(4, .int v26), (6, .int (nI 0 + (-1))), (2, .int (tw_cd A2)), (3, .int (tw_fw A2)), (0, .ref x), (1, .int (nI l)), (5, .int (nI L2))] 5 dX4_fewestFor_198 rfl (by rw [ev26]; rfl) (by decide) rfl ?_
          refine tw_goto 19 dX4_fewestFor_201 (by decide) ?_
          rw [ev26]
          refine tw_lv [0, 2, 3, 4, 5] rfl ?_
          exact ih1 A2 (by omega) hAb (hRb)
        | succ b9 ih2 =>
          intro A2 hnb hAb hRb
          rw [tw_nIm1 b9]
          refine tw_iload 0 dX4_fewestFor_48 rfl ?_
          refine tw_if_lt 198 dX4_fewestFor_50 (by decide) (fun c27 => absurd c27 (nI_pos (by omega))) (fun _ => ?_)
          refine tw_iload 6 dX4_fewestFor_53 rfl ?_
          refine tw_bipush (v := 10) dX4_fewestFor_55 (by decide) ?_
          refine tw_iload 0 dX4_fewestFor_57 rfl ?_
          refine tw_imul dX4_fewestFor_59 ?_
          refine tw_nmi (fun v28 ev28 => ?_)
          refine tw_isub dX4_fewestFor_60 ?_
          refine tw_nmi (fun v29 ev29 => ?_)
          have bh : v29 = nI (L2 - b9 * 10) := by rw [ev29, ev28]; exact tw_bh (p := 10) (by omega) (by omega)
          obtain ⟨L3, eL3⟩ : ∃ z, z = L2 - b9 * 10 := ⟨_, rfl⟩
          rw [← eL3] at bh
          have hL3 : L3 ≤ 400 := by omega
          subst bh
          refine tw_istore [(7, .int (nI L3)), (6, .int (nI b9)), (2, .int (tw_cd A2)), (3, .int (tw_fw A2)), (0, .ref x), (1, .int (nI l)), (4, .int (nI a9)), (5, .int (nI L2))] dX4_fewestFor_61 (by decide) rfl ?_
          refine tw_aload_n 4 dX4_fewestFor_63 rfl rfl ?_
          refine tw_iconst (v := 2) dX4_fewestFor_64 (by decide) ?_
          obtain ⟨e30, f31, m_32, rfl, k33, k34⟩ := sp0.1 x 5 kx (by decide)
          refine tw_bi (tw_callV (M := mX4_fewestFor) (pc := 65) okX4_manyOf dX4_fewestFor_65 w_510 rfl f31 [.int 2] [] rfl rfl ⟨by decide, by decide⟩ (Nat.le_of_ble_eq_true rfl) (c2_X4_manyOf d g τ h sp0.1 x kx j hj hb 2 (by decide)) 0 0 (Nat.le_of_ble_eq_true rfl) (Nat.le_of_ble_eq_true rfl)) (fun r37 h36 q35 => ?_) (fun E h1 q => q.elim)
          obtain ⟨q35e, q35v⟩ := q35
          rw [q35e]
          refine tw_iload 0 dX4_fewestFor_68 rfl ?_
          refine tw_iconst (v := 5) dX4_fewestFor_70 (by decide) ?_
          refine tw_idiv dX4_fewestFor_71 (by decide) ?_
          refine tw_nmi (fun v38 ev38 => ?_)
          have yq : v38 = nI (L3 / 5) := by rw [ev38]; exact tw_I_div (b := 5) (by omega) (by decide)
          subst yq
          refine tw_mmin dX4_fewestFor_72 w_514 w_515 w_64 w_516 ⟨by decide, Nat.le_of_ble_eq_true rfl⟩ ?_
          refine tw_nmi (fun v39 ev39 => ?_)
          have mq := tw_minX (by rw [q35v]; exact (ht 2 (by decide)).1) (by rw [q35v]; exact (ht 2 (by decide)).2) (by omega) ev39
          obtain ⟨cM, ecM⟩ : ∃ z, z = min (f 2) (L3 / 5) := ⟨_, rfl⟩
          have mr : v39 = nI cM := by rw [mq, ecM, q35v, hf2]
          clear mq
          subst mr
          refine tw_istore [(8, .int (nI cM)), (7, .int (nI L3)), (6, .int (nI b9)), (2, .int (tw_cd A2)), (3, .int (tw_fw A2)), (0, .ref x), (1, .int (nI l)), (4, .int (nI a9)), (5, .int (nI L2))] dX4_fewestFor_75 (by decide) rfl ?_
          have Mc : ∀ (n : Nat) (A3 : Option tw_F), n ≤ cM + 1 → tw_ok9 A3 → tw_fo (fun a A => tw_sB f a (l - a * 20) A) a9 (tw_fo (fun b A => tw_sC f a9 b (L2 - b * 10) A) b9 (tw_bf (tw_xC f a9 b9 L3) n A3)) = tw_ch f 5 l → tw_W d mX4_fewestFor (tw_qi (fun r h1 => h1 = h ∧ r = tw_cd (tw_ch (tw_tl g (160 + 64 * j + 32)) 5 l)) tw_nx) 77 [(8, .int (nI n + (-1))), (2, .int (tw_cd A3)), (3, .int (tw_fw A3)), (0, .ref x), (1, .int (nI l)), (4, .int (nI a9)), (5, .int (nI L2)), (6, .int (nI b9)), (7, .int (nI L3))] [] h 0 0 := by
            intro n
            induction n with
            | zero =>
              intro A3 hnc hAc hRc
              refine tw_iload 0 dX4_fewestFor_77 rfl ?_
              refine tw_if_lt 192 dX4_fewestFor_79 (by decide) (fun _ => ?_) (fun c40 => absurd (by decide) c40)
              obtain ⟨v41, ev41⟩ : ∃ y : Int32, y = (nI b9) + (-1) := ⟨_, rfl⟩
              refine tw_iinc [(6, .int v41), (8, .int (nI 0 + (-1))), (2, .int (tw_cd A3)), (3, .int (tw_fw A3)), (0, .ref x), (1, .int (nI l)), (4, .int (nI a9)), (5, .int (nI L2)), (7, .int (nI L3))] 7 dX4_fewestFor_192 rfl (by rw [ev41]; rfl) (by decide) rfl ?_
              refine tw_goto 48 dX4_fewestFor_195 (by decide) ?_
              rw [ev41]
              refine tw_lv [0, 2, 3, 4, 5, 6, 7] rfl ?_
              exact ih2 A3 (by omega) hAc (hRc)
            | succ c9 ih3 =>
              intro A3 hnc hAc hRc
              rw [tw_nIm1 c9]
              refine tw_iload 0 dX4_fewestFor_77 rfl ?_
              refine tw_if_lt 192 dX4_fewestFor_79 (by decide) (fun c42 => absurd c42 (nI_pos (by omega))) (fun _ => ?_)
              refine tw_iload 8 dX4_fewestFor_82 rfl ?_
              refine tw_iconst (v := 5) dX4_fewestFor_84 (by decide) ?_
              refine tw_iload 0 dX4_fewestFor_85 rfl ?_
              refine tw_imul dX4_fewestFor_87 ?_
              refine tw_nmi (fun v43 ev43 => ?_)
              refine tw_isub dX4_fewestFor_88 ?_
              refine tw_nmi (fun v44 ev44 => ?_)
              have bh : v44 = nI (L3 - c9 * 5) := by rw [ev44, ev43]; exact tw_bh (p := 5) (by omega) (by omega)
              obtain ⟨L4, eL4⟩ : ∃ z, z = L3 - c9 * 5 := ⟨_, rfl⟩
              rw [← eL4] at bh
              have hL4 : L4 ≤ 400 := by omega
              subst bh
              refine tw_istore [(9, .int (nI L4)), (8, .int (nI c9)), (2, .int (tw_cd A3)), (3, .int (tw_fw A3)), (0, .ref x), (1, .int (nI l)), (4, .int (nI a9)), (5, .int (nI L2)), (6, .int (nI b9)), (7, .int (nI L3))] dX4_fewestFor_89 (by decide) rfl ?_
              refine tw_aload_n 4 dX4_fewestFor_91 rfl rfl ?_
              refine tw_iconst (v := 3) dX4_fewestFor_92 (by decide) ?_
              obtain ⟨e45, f46, m_47, rfl, k48, k49⟩ := sp0.1 x 5 kx (by decide)
              refine tw_bi (tw_callV (M := mX4_fewestFor) (pc := 93) okX4_manyOf dX4_fewestFor_93 w_510 rfl f46 [.int 3] [] rfl rfl ⟨by decide, by decide⟩ (Nat.le_of_ble_eq_true rfl) (c2_X4_manyOf d g τ h sp0.1 x kx j hj hb 3 (by decide)) 0 0 (Nat.le_of_ble_eq_true rfl) (Nat.le_of_ble_eq_true rfl)) (fun r52 h51 q50 => ?_) (fun E h1 q => q.elim)
              obtain ⟨q50e, q50v⟩ := q50
              rw [q50e]
              refine tw_iload 0 dX4_fewestFor_96 rfl ?_
              refine tw_iconst (v := 2) dX4_fewestFor_98 (by decide) ?_
              refine tw_idiv dX4_fewestFor_99 (by decide) ?_
              refine tw_nmi (fun v53 ev53 => ?_)
              have yq : v53 = nI (L4 / 2) := by rw [ev53]; exact tw_I_div (b := 2) (by omega) (by decide)
              subst yq
              refine tw_mmin dX4_fewestFor_100 w_514 w_515 w_64 w_516 ⟨by decide, Nat.le_of_ble_eq_true rfl⟩ ?_
              refine tw_nmi (fun v54 ev54 => ?_)
              have mq := tw_minX (by rw [q50v]; exact (ht 3 (by decide)).1) (by rw [q50v]; exact (ht 3 (by decide)).2) (by omega) ev54
              obtain ⟨dM, edM⟩ : ∃ z, z = min (f 3) (L4 / 2) := ⟨_, rfl⟩
              have mr : v54 = nI dM := by rw [mq, edM, q50v, hf3]
              clear mq
              subst mr
              refine tw_istore [(10, .int (nI dM)), (9, .int (nI L4)), (8, .int (nI c9)), (2, .int (tw_cd A3)), (3, .int (tw_fw A3)), (0, .ref x), (1, .int (nI l)), (4, .int (nI a9)), (5, .int (nI L2)), (6, .int (nI b9)), (7, .int (nI L3))] dX4_fewestFor_103 (by decide) rfl ?_
              refine tw_iload 1 dX4_fewestFor_105 rfl ?_
              refine tw_iconst (v := 2) dX4_fewestFor_107 (by decide) ?_
              refine tw_iload 0 dX4_fewestFor_108 rfl ?_
              refine tw_imul dX4_fewestFor_110 ?_
              refine tw_nmi (fun v55 ev55 => ?_)
              refine tw_isub dX4_fewestFor_111 ?_
              refine tw_nmi (fun v56 ev56 => ?_)
              have bh : v56 = nI (L4 - dM * 2) := by rw [ev56, ev55]; exact tw_bh (p := 2) (by omega) (by omega)
              subst bh
              refine tw_istore [(11, .int (nI (L4 - dM * 2))), (10, .int (nI dM)), (9, .int (nI L4)), (8, .int (nI c9)), (2, .int (tw_cd A3)), (3, .int (tw_fw A3)), (0, .ref x), (1, .int (nI l)), (4, .int (nI a9)), (5, .int (nI L2)), (6, .int (nI b9)), (7, .int (nI L3))] dX4_fewestFor_112 (by decide) rfl ?_
              refine tw_iload 0 dX4_fewestFor_114 rfl ?_
              refine tw_aload_n 6 dX4_fewestFor_116 rfl rfl ?_
              refine tw_iconst (v := 4) dX4_fewestFor_117 (by decide) ?_
              refine tw_bi (tw_callV (M := mX4_fewestFor) (pc := 118) okX4_manyOf dX4_fewestFor_118 w_510 rfl f46 [.int 4] [.int (nI (L4 - dM * 2))] rfl rfl ⟨by decide, by decide⟩ (Nat.le_of_ble_eq_true rfl) (c2_X4_manyOf d g τ h sp0.1 x kx j hj hb 4 (by decide)) 0 0 (Nat.le_of_ble_eq_true rfl) (Nat.le_of_ble_eq_true rfl)) (fun r59 h58 q57 => ?_) (fun E h1 q => q.elim)
              obtain ⟨q57e, q57v⟩ := q57
              rw [q57e]
              refine tw_icmp_gt 186 dX4_fewestFor_121 (by decide) (fun c60 => ?_) (fun c60 => ?_)
              · have r4 : r59 = nI (f 4) := by rw [hf4, q57v]; exact (tw_9 (ht 4 (by decide)).1 (ht 4 (by decide)).2).2
                have b4 := hf9 4
                have e4 : ¬ L4 - dM * 2 ≤ f 4 := fun z => absurd c60 (Int32.not_lt.mpr (by rw [r4]; exact nI_le z (by omega)))
                have xe : tw_xC f a9 b9 L3 c9 = none := by unfold tw_xC tw_c34; rw [← eL4, if_neg (by rw [← edM]; exact e4)]; rfl
                obtain ⟨v61, ev61⟩ : ∃ y : Int32, y = (nI c9) + (-1) := ⟨_, rfl⟩
                refine tw_iinc [(8, .int v61), (11, .int (nI (L4 - dM * 2))), (10, .int (nI dM)), (9, .int (nI L4)), (2, .int (tw_cd A3)), (3, .int (tw_fw A3)), (0, .ref x), (1, .int (nI l)), (4, .int (nI a9)), (5, .int (nI L2)), (6, .int (nI b9)), (7, .int (nI L3))] 3 dX4_fewestFor_186 rfl (by rw [ev61]; rfl) (by decide) rfl ?_
                refine tw_goto 77 dX4_fewestFor_189 (by decide) ?_
                rw [ev61]
                refine tw_lv [0, 4, 5, 6, 7, 8, 9, 10, 11] rfl ?_
                exact ih3 A3 (by omega) hAc (by have z : tw_fo (fun a A => tw_sB f a (l - a * 20) A) a9 (tw_fo (fun b A => tw_sC f a9 b (L2 - b * 10) A) b9 (tw_bf (tw_xC f a9 b9 L3) c9 (tw_pick A3 (tw_xC f a9 b9 L3 c9)))) = tw_ch f 5 l := hRc; rw [xe] at z; exact z)
              · have r4 : r59 = nI (f 4) := by rw [hf4, q57v]; exact (tw_9 (ht 4 (by decide)).1 (ht 4 (by decide)).2).2
                have b4 := hf9 4
                have e4 : L4 - dM * 2 ≤ f 4 := by rcases Nat.lt_or_ge (f 4) (L4 - dM * 2) with z | z; exact absurd (by rw [r4]; exact nI_lt z (by omega)) c60; exact z
                have xe : tw_xC f a9 b9 L3 c9 = some (tw_u2 a9 b9 (tw_fu (tw_D34 f L4) 2 c9)) := by unfold tw_xC tw_c34; rw [← eL4, if_pos (by rw [← edM]; exact e4)]; rfl
                have s9 : tw_sum5 (tw_u2 a9 b9 (tw_fu (tw_D34 f L4) 2 c9)) = a9 + b9 + c9 + dM + (L4 - dM * 2) := by rw [edM]; rfl
                have b0 := hf9 0
                have b1 := hf9 1
                have b2 := hf9 2
                have b3 := hf9 3
                have s45 : tw_sum5 (tw_u2 a9 b9 (tw_fu (tw_D34 f L4) 2 c9)) ≤ 45 := by rw [s9]; omega
                have hR3 : tw_fo (fun a A => tw_sB f a (l - a * 20) A) a9 (tw_fo (fun b A => tw_sC f a9 b (L2 - b * 10) A) b9 (tw_bf (tw_xC f a9 b9 L3) c9 (tw_pick A3 (some (tw_u2 a9 b9 (tw_fu (tw_D34 f L4) 2 c9)))))) = tw_ch f 5 l := by have z : tw_fo (fun a A => tw_sB f a (l - a * 20) A) a9 (tw_fo (fun b A => tw_sC f a9 b (L2 - b * 10) A) b9 (tw_bf (tw_xC f a9 b9 L3) c9 (tw_pick A3 (tw_xC f a9 b9 L3 c9)))) = tw_ch f 5 l := hRc; rw [xe] at z; exact z
                refine tw_iload 8 dX4_fewestFor_124 rfl ?_
                refine tw_iload 10 dX4_fewestFor_126 rfl ?_
                refine tw_iadd dX4_fewestFor_128 ?_
                refine tw_nmi (fun v62 ev62 => ?_)
                refine tw_iload 3 dX4_fewestFor_129 rfl ?_
                refine tw_iadd dX4_fewestFor_131 ?_
                refine tw_nmi (fun v63 ev63 => ?_)
                refine tw_iload 1 dX4_fewestFor_132 rfl ?_
                refine tw_iadd dX4_fewestFor_134 ?_
                refine tw_nmi (fun v64 ev64 => ?_)
                refine tw_iload 0 dX4_fewestFor_135 rfl ?_
                refine tw_iadd dX4_fewestFor_137 ?_
                refine tw_nmi (fun v65 ev65 => ?_)
                refine tw_iload_n 5 dX4_fewestFor_138 rfl rfl ?_
                refine tw_icmp_ge 186 dX4_fewestFor_139 (by decide) (fun c66 => ?_) (fun c66 => ?_)
                · have vs : v65 = nI (tw_sum5 (tw_u2 a9 b9 (tw_fu (tw_D34 f L4) 2 c9))) := by rw [s9, ev65, ev64, ev63, ev62]; exact tw_smI
                  obtain ⟨v67, ev67⟩ : ∃ y : Int32, y = (nI c9) + (-1) := ⟨_, rfl⟩
                  refine tw_iinc [(8, .int v67), (11, .int (nI (L4 - dM * 2))), (10, .int (nI dM)), (9, .int (nI L4)), (2, .int (tw_cd A3)), (3, .int (tw_fw A3)), (0, .ref x), (1, .int (nI l)), (4, .int (nI a9)), (5, .int (nI L2)), (6, .int (nI b9)), (7, .int (nI L3))] 3 dX4_fewestFor_186 rfl (by rw [ev67]; rfl) (by decide) rfl ?_
                  refine tw_goto 77 dX4_fewestFor_189 (by decide) ?_
                  rw [ev67]
                  refine tw_lv [0, 4, 5, 6, 7, 8, 9, 10, 11] rfl ?_
                  exact ih3 A3 (by omega) hAc (by have z := hR3; rw [tw_pick_ge hAc s45 (by rw [← vs]; exact c66)] at z; exact z)
                · have vs : v65 = nI (tw_sum5 (tw_u2 a9 b9 (tw_fu (tw_D34 f L4) 2 c9))) := by rw [s9, ev65, ev64, ev63, ev62]; exact tw_smI
                  have pk := tw_pick_lt hAc s45 (by rw [← vs]; exact c66)
                  refine tw_iload 8 dX4_fewestFor_142 rfl ?_
                  refine tw_iload 10 dX4_fewestFor_144 rfl ?_
                  refine tw_iadd dX4_fewestFor_146 ?_
                  refine tw_nmi (fun v68 ev68 => ?_)
                  refine tw_iload 3 dX4_fewestFor_147 rfl ?_
                  refine tw_iadd dX4_fewestFor_149 ?_
                  refine tw_nmi (fun v69 ev69 => ?_)
                  refine tw_iload 1 dX4_fewestFor_150 rfl ?_
                  refine tw_iadd dX4_fewestFor_152 ?_
                  refine tw_nmi (fun v70 ev70 => ?_)
                  refine tw_iload 0 dX4_fewestFor_153 rfl ?_
                  refine tw_iadd dX4_fewestFor_155 ?_
                  refine tw_nmi (fun v71 ev71 => ?_)
                  have w3 : v71 = tw_fw (some (tw_u2 a9 b9 (tw_fu (tw_D34 f L4) 2 c9))) := by show v71 = nI (tw_sum5 (tw_u2 a9 b9 (tw_fu (tw_D34 f L4) 2 c9))); rw [s9, ev71, ev70, ev69, ev68]; exact tw_smI
                  rw [w3]
                  refine tw_istore_n [(3, .int (tw_fw (some (tw_u2 a9 b9 (tw_fu (tw_D34 f L4) 2 c9))))), (11, .int (nI (L4 - dM * 2))), (10, .int (nI dM)), (9, .int (nI L4)), (8, .int (nI c9)), (2, .int (tw_cd A3)), (0, .ref x), (1, .int (nI l)), (4, .int (nI a9)), (5, .int (nI L2)), (6, .int (nI b9)), (7, .int (nI L3))] dX4_fewestFor_156 rfl (by decide) rfl ?_
                  refine tw_iload 8 dX4_fewestFor_157 rfl ?_
                  refine tw_sipush (v := 10000) dX4_fewestFor_159 (by decide) ?_
                  refine tw_imul dX4_fewestFor_162 ?_
                  refine tw_nmi (fun v72 ev72 => ?_)
                  refine tw_iload 10 dX4_fewestFor_163 rfl ?_
                  refine tw_sipush (v := 1000) dX4_fewestFor_165 (by decide) ?_
                  refine tw_imul dX4_fewestFor_168 ?_
                  refine tw_nmi (fun v73 ev73 => ?_)
                  refine tw_iadd dX4_fewestFor_169 ?_
                  refine tw_nmi (fun v74 ev74 => ?_)
                  refine tw_iload 4 dX4_fewestFor_170 rfl ?_
                  refine tw_bipush (v := 100) dX4_fewestFor_172 (by decide) ?_
                  refine tw_imul dX4_fewestFor_174 ?_
                  refine tw_nmi (fun v75 ev75 => ?_)
                  refine tw_iadd dX4_fewestFor_175 ?_
                  refine tw_nmi (fun v76 ev76 => ?_)
                  refine tw_iload 2 dX4_fewestFor_176 rfl ?_
                  refine tw_bipush (v := 10) dX4_fewestFor_178 (by decide) ?_
                  refine tw_imul dX4_fewestFor_180 ?_
                  refine tw_nmi (fun v77 ev77 => ?_)
                  refine tw_iadd dX4_fewestFor_181 ?_
                  refine tw_nmi (fun v78 ev78 => ?_)
                  refine tw_iload 1 dX4_fewestFor_182 rfl ?_
                  refine tw_iadd dX4_fewestFor_184 ?_
                  refine tw_nmi (fun v79 ev79 => ?_)
                  have w2 : v79 = tw_cd (some (tw_u2 a9 b9 (tw_fu (tw_D34 f L4) 2 c9))) := by rw [ev79, ev78, ev76, ev74, ev72, ev73, ev75, ev77]; refine tw_cdI.trans ?_; show nI _ = nI (tw_cdN (tw_u2 a9 b9 (tw_fu (tw_D34 f L4) 2 c9))); rw [edM]; rfl
                  rw [w2]
                  refine tw_istore_n [(2, .int (tw_cd (some (tw_u2 a9 b9 (tw_fu (tw_D34 f L4) 2 c9))))), (3, .int (tw_fw (some (tw_u2 a9 b9 (tw_fu (tw_D34 f L4) 2 c9))))), (11, .int (nI (L4 - dM * 2))), (10, .int (nI dM)), (9, .int (nI L4)), (8, .int (nI c9)), (0, .ref x), (1, .int (nI l)), (4, .int (nI a9)), (5, .int (nI L2)), (6, .int (nI b9)), (7, .int (nI L3))] dX4_fewestFor_185 rfl (by decide) rfl ?_
                  obtain ⟨v80, ev80⟩ : ∃ y : Int32, y = (nI c9) + (-1) := ⟨_, rfl⟩
                  refine tw_iinc [(8, .int v80), (2, .int (tw_cd (some (tw_u2 a9 b9 (tw_fu (tw_D34 f L4) 2 c9))))), (3, .int (tw_fw (some (tw_u2 a9 b9 (tw_fu (tw_D34 f L4) 2 c9))))), (11, .int (nI (L4 - dM * 2))), (10, .int (nI dM)), (9, .int (nI L4)), (0, .ref x), (1, .int (nI l)), (4, .int (nI a9)), (5, .int (nI L2)), (6, .int (nI b9)), (7, .int (nI L3))] 5 dX4_fewestFor_186 rfl (by rw [ev80]; rfl) (by decide) rfl ?_
                  refine tw_goto 77 dX4_fewestFor_189 (by decide) ?_
                  rw [ev80]
                  refine tw_lv [0, 1, 2, 6, 7, 8, 9, 10, 11] rfl ?_
                  exact ih3 (some (tw_u2 a9 b9 (tw_fu (tw_D34 f L4) 2 c9))) (by omega) (fun G z => by cases z; exact s45) (by have z := hR3; rw [pk] at z; exact z)
          rw [← tw_nIm1 cM]
          refine tw_lv [0, 3, 4, 5, 6, 7, 8, 2, 1] rfl ?_
          exact Mc (cM + 1) A2 (Nat.le_refl _) hAb (by rw [ecM, eL3]; exact hRb)
      rw [← tw_nIm1 bM]
      refine tw_lv [0, 3, 4, 5, 6, 2, 1] rfl ?_
      exact Mb (bM + 1) A1 (Nat.le_refl _) hAa (by rw [ebM, eL2]; exact hRa)
  rw [← tw_nIm1 aM]
  refine tw_lv [0, 2, 1, 3, 4] rfl ?_
  exact Ma (aM + 1) none (Nat.le_refl _) (fun F z => by cases z) (by rw [eaM]; exact tw_sA_e f l)

theorem tw_n5 {k : Int32} (h : ¬ (0 ≤ k ∧ k ≤ 4)) : ¬ tw_ix 5 k := by
  rintro ⟨j, hj, rfl⟩
  exact h ⟨nI_le (a := 0) (Nat.zero_le j) (by omega), nI_le (b := 4) (by omega) (by decide)⟩
theorem tw_k5 {k : Int32} (h1 : 0 ≤ k) (h2 : k ≤ 4) : ∃ j, j < 5 ∧ k = nI j := by
  obtain ⟨n, -, h, e⟩ := tw_I_rng (a := 0) (b := 4) h1 h2 (by decide) (by decide)
  exact ⟨n, by omega, e⟩
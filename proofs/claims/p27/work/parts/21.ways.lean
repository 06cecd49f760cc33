/-! change by few coins: how many ways there are at most, and what stays -/
def tw_ps (j : Nat) : Nat := if j = 0 then 20 else if j = 1 then 10 else if j = 2 then 5 else if j = 3 then 2 else 1
def tw_sm (f : Nat → Nat) : Nat → Nat
  | 0 => 0
  | n + 1 => tw_sm f n + f n
def tw_wy : Nat → Nat → Nat
  | 0, l => if l = 0 then 1 else 0
  | m + 1, l => tw_sm (fun i => tw_wy m (l - i * tw_ps (4 - m))) (min 9 (l / tw_ps (4 - m)) + 1)
theorem tw_sm_le {f : Nat → Nat} {a b : Nat} (h : a ≤ b) : tw_sm f a ≤ tw_sm f b := by
  induction h with
  | refl => exact Nat.le_refl _
  | step _ ih => exact Nat.le_trans ih (Nat.le_add_right _ _)
/-- nothing that was there is changed -/
def tw_gw (h h1 : tw_H) : Prop := ∀ b e, h b = some e → h1 b = some e
theorem tw_gw.rf {h : tw_H} : tw_gw h h := fun _ _ q => q
theorem tw_gw.tr {h h1 h2 : tw_H} (a : tw_gw h h1) (b : tw_gw h1 h2) : tw_gw h h2 := fun c e q => b c e (a c e q)
theorem tw_gw.up {h h1 : tw_H} (a : tw_gw h h1) {q : Nat} {e : va_E} (hq : h q = none) : tw_gw h (tw_up h1 q e) := fun b f z => by
  rw [tw_up_n (fun y => by rw [y, hq] at z; cases z)]
  exact a b f z
theorem tw_gw.nn {h h1 : tw_H} (a : tw_gw h h1) {q : Nat} (hq : h1 q = none) : h q = none := by
  cases z : h q with
  | none => rfl
  | some e => rw [a q e z] at hq; cases hq
theorem tw_gw.sp {d : tw_D} {g : tw_G} {τ : tw_K} {h h1 : tw_H} (a : tw_gw h h1) (hw : tw_wt d g τ h) : tw_sp d τ h g τ h1 :=
  ⟨fun b k hk h0 => by obtain ⟨e, h2, h3⟩ := hw b k hk h0; exact ⟨e, a b e h2, h3⟩, tw_le.rf, fun b e hb hb0 => ⟨a b e hb, hb0⟩⟩
theorem tw_pndE {k : Nat} (hk : k < 5) : tw_pnd k = nI (tw_ps k) := by
  rcases (show k = 0 ∨ k = 1 ∨ k = 2 ∨ k = 3 ∨ k = 4 by omega) with rfl | rfl | rfl | rfl | rfl <;> rfl
theorem tw_psp {k : Nat} : 1 ≤ tw_ps k ∧ tw_ps k ≤ 20 := by
  unfold tw_ps
  repeat' split
  all_goals omega
theorem tw_pndz {k : Nat} (hk : k < 5) : ¬ tw_pnd k = 0 := by
  rcases (show k = 0 ∨ k = 1 ∨ k = 2 ∨ k = 3 ∨ k = 4 by omega) with rfl | rfl | rfl | rfl | rfl <;> decide
theorem tw_divT : ∀ l, l < 401 → ∀ p, p < 21 → 0 < p → nI l / nI p = nI (l / p) := by decide +kernel
theorem tw_divP {l k : Nat} {v : Int32} (hl : l ≤ 400) (hk : k < 5) (e : v = nI l / tw_pnd k) : v = nI (l / tw_ps k) := by
  rw [e, tw_pndE hk]
  exact tw_divT l (by omega) _ (by have := tw_psp (k := k); omega) (by have := tw_psp (k := k); omega)
theorem tw_subM {l n k : Nat} {u v : Int32} (hl : l ≤ 400) (hk : k < 5) (hn : n * tw_ps k ≤ l) (e1 : u = nI n * tw_pnd k) (e2 : v = nI l - u) : v = nI (l - n * tw_ps k) := by
  have hp := tw_psp (k := k)
  have hn2 : n ≤ 400 := by
    have := Nat.le_mul_of_pos_right n (show 0 < tw_ps k by omega)
    omega
  apply Int32.toInt_inj.mp
  rw [e2, e1, tw_pndE hk, Int32.toInt_sub, Int32.toInt_mul, nI_toInt (by omega), nI_toInt (by omega), nI_toInt (by omega), nI_toInt (by omega)]
  have a : ((n : Int) * (tw_ps k : Int)).bmod (2 ^ 32) = ((n * tw_ps k : Nat) : Int) := by
    rw [← Int.natCast_mul]
    apply Int.bmod_eq_of_le_mul_two <;> omega
  rw [a]
  have b : ((l : Int) - ((n * tw_ps k : Nat) : Int)).bmod (2 ^ 32) = (l : Int) - ((n * tw_ps k : Nat) : Int) := by
    apply Int.bmod_eq_of_le_mul_two <;> omega
  rw [b]
  omega
theorem tw_minT {x v : Int32} {b : Nat} (h0 : 0 ≤ x) (h9 : x ≤ 9) (hb : b ≤ 400) (e : v = if nI b < x then nI b else x) : ∃ c, v = nI c ∧ c ≤ min 9 b ∧ nI c ≤ x := by
  obtain ⟨a, ha, rfl⟩ := nI_of (Int32.not_lt.mpr h0)
  have h := Int32.le_iff_toInt_le.mp h9
  rw [nI_toInt ha, show (9 : Int32).toInt = 9 by decide] at h
  by_cases q : nI b < nI a
  · rw [if_pos q] at e
    have := (nI_ltI (by omega) (by omega)).mp q
    exact ⟨b, e, by omega, Int32.le_of_lt q⟩
  · rw [if_neg q] at e
    have : ¬ b < a := fun z => q ((nI_ltI (by omega) (by omega)).mpr z)
    exact ⟨a, e, by omega, Int32.le_refl _⟩
theorem tw_upB {f F : Nat → Int32} {k n c : Nat} (hF : ∀ j, 0 ≤ F j ∧ F j ≤ f j) (hn : n ≤ c) (hc : nI c ≤ f k) (hc9 : c ≤ 9) : ∀ j, 0 ≤ upd F k (nI n) j ∧ upd F k (nI n) j ≤ f j := by
  intro j
  unfold upd
  by_cases q : j = k
  · rw [if_pos q, q]
    exact ⟨Int32.not_lt.mp (nI_pos (by omega)), Int32.le_trans (nI_le hn (by omega)) hc⟩
  · rw [if_neg q]
    exact hF j
theorem tw_nIm1 (n : Nat) : nI (n + 1) + (-1) = nI n := pk_m1 ..

def tw_S : Nat → Nat
  | 0 => 0
  | m + 1 => tw_S m + tw_ps (4 - m)
theorem tw_sm0 {f : Nat → Nat} {n : Nat} (h : ∀ i, i < n → f i = 0) : tw_sm f n = 0 := by
  induction n with
  | zero => rfl
  | succ n ih =>
    show tw_sm f n + f n = 0
    rw [ih (fun i hi => h i (by omega)), h n (by omega)]
theorem tw_wz : ∀ m l, 9 * tw_S m < l → tw_wy m l = 0 := by
  intro m
  induction m with
  | zero =>
    intro l hl
    exact if_neg (by omega)
  | succ m ih =>
    intro l hl
    refine tw_sm0 (fun i hi => ih _ ?_)
    have h1 : i ≤ 9 := by omega
    have h2 := Nat.mul_le_mul_right (tw_ps (4 - m)) h1
    have h3 : tw_S (m + 1) = tw_S m + tw_ps (4 - m) := rfl
    rw [h3] at hl
    omega
def tw_t3 : List Nat := [1, 1, 2, 2, 3, 4, 5, 6, 7, 8, 9, 10, 11, 12, 13, 14, 15, 16, 17, 18, 18, 19, 19, 20, 20, 20, 20, 20, 20, 20, 20, 20, 20, 20, 20, 20, 20, 20, 20, 20, 20, 20, 20, 20, 20, 20, 20, 20, 20, 20, 19, 19, 18, 18, 17, 16, 15, 14, 13, 12, 11, 10, 9, 8, 7, 6, 5, 4, 3, 2, 2, 1, 1]
def tw_t4 : List Nat := [1, 1, 2, 2, 3, 4, 5, 6, 7, 8, 10, 11, 13, 14, 16, 18, 20, 22, 24, 26, 28, 30, 32, 34, 36, 38, 40, 42, 44, 46, 48, 50, 52, 54, 56, 58, 60, 62, 64, 66, 68, 70, 72, 74, 76, 78, 80, 82, 84, 86, 87, 89, 90, 92, 93, 94, 95, 96, 97, 98, 98, 99, 99, 100, 100, 100, 100, 100, 100, 100, 100, 100, 100, 100, 100, 100, 100, 100, 100, 100, 100, 100, 100, 100, 100, 100, 100, 100, 100, 100, 100, 100, 100, 100, 100, 100, 100, 100, 100, 100, 99, 99, 98, 98, 97, 96, 95, 94, 93, 92, 90, 89, 87, 86, 84, 82, 80, 78, 76, 74, 72, 70, 68, 66, 64, 62, 60, 58, 56, 54, 52, 50, 48, 46, 44, 42, 40, 38, 36, 34, 32, 30, 28, 26, 24, 22, 20, 18, 16, 14, 13, 11, 10, 8, 7, 6, 5, 4, 3, 2, 2, 1, 1]
theorem tw_w3a : ∀ l, l < 73 → tw_wy 3 l = tw_t3.getD l 0 := by decide +kernel
theorem tw_w3 (l : Nat) : tw_wy 3 l = tw_t3.getD l 0 := by
  rcases Nat.lt_or_ge l 73 with q | q
  · exact tw_w3a l q
  · rw [tw_wz 3 l (by show 72 < l; omega), List.getD_eq_getElem?_getD, List.getElem?_eq_none (by show 73 ≤ l; exact q)]
    rfl
theorem tw_w4a : ∀ l, l < 163 → tw_sm (fun i => tw_t3.getD (l - i * 10) 0) (min 9 (l / 10) + 1) = tw_t4.getD l 0 := by decide +kernel
theorem tw_w4 (l : Nat) : tw_wy 4 l = tw_t4.getD l 0 := by
  rcases Nat.lt_or_ge l 163 with q | q
  · rw [← tw_w4a l q]
    show tw_sm (fun i => tw_wy 3 (l - i * 10)) _ = _
    rw [show (fun i => tw_wy 3 (l - i * 10)) = fun i => tw_t3.getD (l - i * 10) 0 from funext fun i => tw_w3 _]
    rfl
  · rw [tw_wz 4 l (by show 162 < l; omega), List.getD_eq_getElem?_getD, List.getElem?_eq_none (by show 163 ≤ l; exact q)]
    rfl
theorem tw_w5a : ∀ l, l < 401 → tw_sm (fun i => tw_t4.getD (l - i * 20) 0) (min 9 (l / 20) + 1) ≤ 500 := by decide +kernel
theorem tw_w5 {l : Nat} (h : l ≤ 400) : tw_wy 5 l ≤ 500 := by
  refine Nat.le_trans (Nat.le_of_eq ?_) (tw_w5a l (by omega))
  show tw_sm (fun i => tw_wy 4 (l - i * 20)) _ = _
  rw [show (fun i => tw_wy 4 (l - i * 20)) = fun i => tw_t4.getD (l - i * 20) 0 from funext fun i => tw_w4 _]
  rfl
theorem tw_w37 : tw_wy 5 37 = 84 := by
  show tw_sm (fun i => tw_wy 4 (37 - i * 20)) _ = _
  rw [show (fun i => tw_wy 4 (37 - i * 20)) = fun i => tw_t4.getD (37 - i * 20) 0 from funext fun i => tw_w4 _]
  decide +kernel
theorem tw_el_gw {d : tw_D} {g : tw_G} {τ : tw_K} {h h1 : tw_H} (hw : tw_wt d g τ h) (a : tw_gw h h1) {x j : Nat} (kx : τ x = 24) (hj : j < g.2 3) : tw_el h1 x j = tw_el h x j := by
  obtain ⟨e1, h2, ⟨b, rfl, p⟩, -⟩ := hw x 24 kx (by decide)
  have ka : τ b = 27 := p.resolve_left (fun q => absurd hj (by rw [q.2.1]; exact Nat.not_lt_zero _))
  obtain ⟨e2, h3, ⟨f, rfl, -, h5⟩, -⟩ := hw b 27 ka (by decide)
  obtain ⟨y, hy, -⟩ := h5 j hj
  rw [tw_el_e h2 h3 hy, tw_el_e (a _ _ h2) (a _ _ h3) hy]
theorem tw_l400 {x : Int32} (h1 : 1 ≤ x) (h2 : x ≤ 400) : ∃ l : Nat, l ≤ 400 ∧ x = nI l := by
  obtain ⟨j, hj, rfl⟩ := nI_of (Int32.not_lt.mpr (Int32.le_trans (by decide) h1))
  have a := Int32.le_iff_toInt_le.mp h2
  rw [nI_toInt hj, show (400 : Int32).toInt = 400 by decide] at a
  exact ⟨j, by omega, rfl⟩
theorem tw_gsub {a b v : Int32} (h1 : 0 ≤ a) (h2 : a ≤ 9) (h3 : 0 ≤ b) (h4 : b ≤ a) (e : v = a - b) : 0 ≤ v ∧ v ≤ 9 := by
  obtain ⟨x, hx, rfl⟩ := nI_of (Int32.not_lt.mpr h1)
  obtain ⟨y, hy, rfl⟩ := nI_of (Int32.not_lt.mpr h3)
  have p := Int32.le_iff_toInt_le.mp h2
  have q := Int32.le_iff_toInt_le.mp h4
  rw [nI_toInt hx, show (9 : Int32).toInt = 9 by decide] at p
  rw [nI_toInt hx, nI_toInt hy] at q
  have w : v.toInt = (x : Int) - y := by
    rw [e, Int32.toInt_sub, nI_toInt hx, nI_toInt hy]
    apply Int.bmod_eq_of_le_mul_two <;> omega
  refine ⟨Int32.le_iff_toInt_le.mpr ?_, Int32.le_iff_toInt_le.mpr ?_⟩
  · rw [w, show (0 : Int32).toInt = 0 by decide]; omega
  · rw [w, show (9 : Int32).toInt = 9 by decide]; omega

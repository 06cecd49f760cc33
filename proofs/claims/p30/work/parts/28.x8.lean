/-! the class's methods over the typed heap. Laid by wip/p5/mkclass.py. -/
/-! what is asked, the reference -/
theorem tw_sum_s {f : Nat → Nat} (a : Nat) : ∀ m, tw_sum f (a + m) = tw_sum f a + tw_sum (fun j => f (a + j)) m
  | 0 => rfl
  | m + 1 => by
    show tw_sum f (a + m) + f (a + m) = tw_sum f a + (tw_sum (fun j => f (a + j)) m + f (a + m))
    rw [tw_sum_s a m, Nat.add_assoc]
theorem tw_sum_m {f : Nat → Nat} {m : Nat} : ∀ n, m ≤ n → tw_sum f m ≤ tw_sum f n
  | 0, h => by rw [show m = 0 by omega]; exact Nat.le_refl _
  | n + 1, h => by
    show tw_sum f m ≤ tw_sum f n + f n
    by_cases q : m = n + 1
    · rw [q]
      exact Nat.le_refl _
    · exact Nat.le_trans (tw_sum_m n (by omega)) (Nat.le_add_right _ _)
def tw_wM (g : tw_G) (k : Nat) : Nat → Nat
  | 0 => tw_sum (fun j => tw_DN (g.1 (480 + 64 * j + 16 + k))) (g.2 3)
  | 1 => tw_sum (fun j => tw_DN (g.1 (960 + 32 * j + 8 + k))) (g.2 4)
  | w + 2 => tw_DN (g.1 (1344 + 8 * w + k))
theorem tw_AM.w0 {B : Nat} {g : tw_G} (h : tw_AM B g) {k m : Nat} (hk : k < 2) (hm : m ≤ 4) : tw_sum (fun j => tw_DN (g.1 (480 + 64 * j + 16 + k))) m ≤ B := by
  have e : tw_sum (fun j => tw_DN (g.1 (480 + 64 * j + 16 + k))) m = tw_sum (fun i => tw_am g i k) m := tw_sum_c m (fun j hj => by unfold tw_am; rw [tw_ac_v (by omega), show 496 + 64 * j + k = 480 + 64 * j + 16 + k by omega])
  have l := tw_sum_m (f := fun i => tw_am g i k) (m := m) 13 (by omega)
  have z := h.2 k hk
  omega
theorem tw_AM.w1 {B : Nat} {g : tw_G} (h : tw_AM B g) {k m : Nat} (hk : k < 2) (hm : m ≤ 6) : tw_sum (fun j => tw_DN (g.1 (960 + 32 * j + 8 + k))) m ≤ B := by
  have e : tw_sum (fun j => tw_DN (g.1 (960 + 32 * j + 8 + k))) m = tw_sum (fun j => tw_am g (4 + j) k) m := tw_sum_c m (fun j hj => by unfold tw_am; rw [tw_ac_h (by omega) (by omega), show 840 + 32 * (4 + j) + k = 960 + 32 * j + 8 + k by omega])
  have l := tw_sum_m (f := fun i => tw_am g i k) (m := 4 + m) 13 (by omega)
  have s := tw_sum_s (f := fun i => tw_am g i k) 4 m
  have z := h.2 k hk
  omega
theorem tw_AM.wle {B : Nat} {g : tw_G} (h : tw_AM B g) {k w : Nat} (hk : k < 2) (hw : w ≤ 5) (h3 : g.2 3 ≤ 4) (h4 : g.2 4 ≤ 6) : tw_wM g k w ≤ B := by
  rcases (show w = 0 ∨ w = 1 ∨ ∃ s, s < 4 ∧ w = s + 2 by rcases (show w = 0 ∨ w = 1 ∨ 2 ≤ w by omega) with z | z | z; exact Or.inl z; exact Or.inr (Or.inl z); exact Or.inr (Or.inr ⟨w - 2, by omega, by omega⟩)) with rfl | rfl | ⟨s, hs, rfl⟩
  · exact h.w0 hk h3
  · exact h.w1 hk h4
  · exact (h.s hs hk).2
def tw_hM (g : tw_G) (a : Nat) : Nat → Int32
  | 0 => g.1 (960 + 32 * a + 1)
  | 1 => g.1 (960 + 32 * a + 2)
  | 2 => g.1 (960 + 32 * a + 0)
  | 3 => g.1 (960 + 32 * a + 8 + 0)
  | 4 => g.1 (960 + 32 * a + 8 + 1)
  | 5 => tw_wo (g.1 (960 + 32 * a + 8 + 0)) (g.1 (960 + 32 * a + 8 + 1)) (g.1 1)
  | 6 => tw_isum (fun j => if g.1 (1232 + 8 * j + 2) = 0 ∧ g.1 (1232 + 8 * j + 3) = nI a then 1 else 0) (g.2 5)
  | _ + 7 => tw_isum (fun j => if g.1 (1232 + 8 * j + 2) = 0 ∧ g.1 (1232 + 8 * j + 4) = nI a then 1 else 0) (g.2 5)
def tw_MW (g : tw_G) : Prop := g.1 1 = nI (tw_DN (g.1 1)) ∧ tw_DN (g.1 1) ≤ 200
theorem tw_msb {g : tw_G} {j k : Nat} (he : tw_MH g) (hm : tw_EM g) (hj : j < g.2 5) (hT : g.2 22 ≤ 3000) (h3 : tw_mP g (tw_eF g j) < g.2 3) (_ : g.1 (960 + 32 * tw_eF g j + 1) ≠ -1) : tw_ms g j k ≤ 40000 := tw_ms_le he hj hT (hm _ h3).1.1
def tw_oM (g : tw_G) (a : Nat) : Nat → Int32
  | 0 => g.1 (480 + 64 * a)
  | 1 => g.1 (480 + 64 * a + 1)
  | 2 => g.1 (480 + 64 * a + 16 + 0)
  | 3 => g.1 (480 + 64 * a + 16 + 1)
  | 4 => tw_oS (g.1 (480 + 64 * a + 8 + 0)) (g.1 (480 + 64 * a + 8 + 1))
  | 5 => tw_isum (fun j => if g.1 (960 + 32 * j + 1) = nI a then 1 else 0) (g.2 4)
  | 6 => tw_wo (g.1 (480 + 64 * a + 16 + 0)) (g.1 (480 + 64 * a + 16 + 1)) (g.1 1)
  | 7 => tw_pn (fun k => g.1 (480 + 64 * a + 24 + k))
  | _ + 8 => tw_isum (fun j => if g.1 (480 + 64 * j) = g.1 (480 + 64 * a) then 1 else 0) (g.2 3)
theorem tw_pn_s (f : Nat → Int32) : tw_isum (fun j => tw_pnd j * f j) 5 = tw_pn f := by
  show 0 + 20 * f 0 + 10 * f 1 + 5 * f 2 + 2 * f 3 + 1 * f 4 = 20 * f 0 + 10 * f 1 + 5 * f 2 + 2 * f 3 + f 4
  rw [Int32.zero_add, Int32.one_mul]
def tw_SQ (g : tw_G) : Prop := (∀ k, k < 2 → nI (tw_wM g k 0) + nI (tw_wM g k 1) + nI (tw_wM g k 2) + nI (tw_wM g k 3) + nI (tw_wM g k 4) = nI (tw_wM g k 5)) ∧ (∀ j, j < g.2 4 → g.1 (960 + 32 * j + 1) = -1 → nI (g.2 22) < g.1 (960 + 32 * j + 0)) ∧ (∀ j, j < g.2 3 → ∀ k, k < 5 → 0 ≤ g.1 (480 + 64 * j + 24 + k)) ∧ ∀ a b, a < 4 → b < 4 → g.1 (416 + 8 * a + b) = g.1 (416 + 8 * b + a) ∧ g.1 (448 + 8 * a + b) = g.1 (448 + 8 * b + a)
theorem tw_L_0 (n : Nat) (h : n ≤ 59000000) : ¬ lg_cmp (tw_L n) 0 < 0 := fun z => absurd z (by have y := (tw_cmp_ge (a := n) (b := 0) (by omega) (by decide)).mpr (Nat.zero_le _); exact Int32.not_lt.mpr y)
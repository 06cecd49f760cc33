/-! the class's methods over the typed heap. Laid by wip/p5/mkclass.py. -/
/-! the reference's conditions and answers where amounts matter -/
theorem tw_cmp_ge {a b : Nat} (ha : a < 2 ^ 63) (hb : b < 2 ^ 63) : 0 ≤ lg_cmp (tw_L a) (tw_L b) ↔ b ≤ a := by
  have e1 : tw_L a > tw_L b ↔ b < a := by
    show tw_L b < tw_L a ↔ _
    rw [Int64.lt_iff_toInt_lt, tw_L_toInt ha, tw_L_toInt hb]
    omega
  unfold lg_cmp
  by_cases q : b < a
  · rw [if_pos (e1.mpr q)]
    exact ⟨fun _ => Nat.le_of_lt q, fun _ => by decide⟩
  · rw [if_neg (fun z => q (e1.mp z))]
    by_cases q2 : a = b
    · rw [if_pos (by rw [q2])]
      exact ⟨fun _ => by omega, fun _ => by decide⟩
    · rw [if_neg (fun z => q2 (by have y := congrArg Int64.toInt z; rw [tw_L_toInt ha, tw_L_toInt hb] at y; omega))]
      exact ⟨fun z => absurd z (by decide), fun z => by omega⟩
theorem tw_l_add {V : Int32} {A n : Nat} {y : Int64} (e : V = nI A) (ey : y = tw_L n) (h : A + n < 2 ^ 31) : V.toInt64 + y = (V + nI n).toInt64 := by
  rw [e, ey, tw_niadd, tw_L_i (by omega), tw_L_i h, tw_L_add (by omega)]
theorem tw_l_sub {V : Int32} {A n : Nat} {y : Int64} (e : V = nI A) (ey : y = tw_L n) (h : n ≤ A) (hA : A < 2 ^ 31) : V.toInt64 - y = (V + -nI n).toInt64 := by
  rw [e, ey, tw_I_ng hA h, tw_L_i hA, tw_L_i (by omega), tw_L_sub (by omega) h]
theorem tw_AM.v {B : Nat} {g : tw_G} (h : tw_AM B g) {j k : Nat} (hj : j < 4) (hk : k < 2) : g.1 (480 + 64 * j + 16 + k) = nI (tw_DN (g.1 (480 + 64 * j + 16 + k))) ∧ tw_DN (g.1 (480 + 64 * j + 16 + k)) ≤ B := by
  have e : tw_ac j k = 480 + 64 * j + 16 + k := by rw [tw_ac_v hj]; omega
  have a := h.1 j k (by omega) hk
  have b := h.le (i := j) (by omega) hk
  unfold tw_am at a b
  rw [e] at a b
  exact ⟨a, b⟩
theorem tw_AM.p {B : Nat} {g : tw_G} (h : tw_AM B g) {j k : Nat} (hj : j < 6) (hk : k < 2) : g.1 (960 + 32 * j + 8 + k) = nI (tw_DN (g.1 (960 + 32 * j + 8 + k))) ∧ tw_DN (g.1 (960 + 32 * j + 8 + k)) ≤ B := by
  have e : tw_ac (4 + j) k = 960 + 32 * j + 8 + k := by rw [tw_ac_h (by omega) (by omega)]; omega
  have a := h.1 (4 + j) k (by omega) hk
  have b := h.le (i := 4 + j) (by omega) hk
  unfold tw_am at a b
  rw [e] at a b
  exact ⟨a, b⟩
theorem tw_AM.s {B : Nat} {g : tw_G} (h : tw_AM B g) {s k : Nat} (hs : s < 4) (hk : k < 2) : g.1 (1344 + 8 * s + k) = nI (tw_DN (g.1 (1344 + 8 * s + k))) ∧ tw_DN (g.1 (1344 + 8 * s + k)) ≤ B := by
  have e : tw_ac (10 + s) k = 1344 + 8 * s + k := by rw [tw_ac_s (by omega)]; omega
  have a := h.1 (10 + s) k (by omega) hk
  have b := h.le (i := 10 + s) (by omega) hk
  unfold tw_am at a b
  rw [e] at a b
  exact ⟨a, b⟩
def tw_mP (g : tw_G) (a : Nat) : Nat := tw_DN (g.1 (960 + 32 * a + 1))
def tw_mg (g : tw_G) (a m n : Nat) : Nat := tw_gv m (tw_DN (g.1 (480 + 64 * tw_mP g a))) (tw_DN (g.1 (480 + 64 * tw_mP g a + 1))) n
def tw_MC (g : tw_G) (a m n : Nat) : Prop := g.1 (960 + 32 * a + 1) ≠ -1 ∧ n ≤ tw_DN (g.1 (960 + 32 * a + 8 + m)) ∧ g.1 (480 + 64 * tw_mP g a + 8 + m) ≠ 0 ∧ tw_mg g a m n ≤ tw_DN (g.1 (480 + 64 * tw_mP g a + 16 + (1 - m)))
def tw_MS (g : tw_G) (a : Nat) (b : Int32) : Prop := g.1 (960 + 32 * a + 1) ≠ -1 ∧ g.1 (960 + 32 * a + 1) ≠ b
def tw_mf (g : tw_G) (a b k : Nat) : Nat := tw_up3 (tw_DN (g.1 (960 + 32 * a + 8 + k))) (tw_DN (g.1 (448 + 8 * tw_mP g a + b)))
def tw_mD (g : tw_G) (a b : Nat) : Int32 := nI (g.2 22) + g.1 (416 + 8 * tw_mP g a + b)
def tw_eF (g : tw_G) (a : Nat) : Nat := tw_DN (g.1 (1232 + 8 * a + 3))
def tw_eT (g : tw_G) (a : Nat) : Nat := tw_DN (g.1 (1232 + 8 * a + 4))
def tw_md (g : tw_G) (a : Nat) : Nat := tw_due (tw_DN (g.1 (1232 + 8 * a + 0))) (tw_DN (g.1 (1232 + 8 * a + 1))) (g.2 22)
def tw_ms (g : tw_G) (a m : Nat) : Nat := if m = 0 then tw_gf (tw_md g a) (tw_DN (g.1 (480 + 64 * tw_mP g (tw_eF g a)))) else tw_md g a
def tw_MT (g : tw_G) (a m : Nat) : Prop := g.1 (1232 + 8 * a + 2) = 0 ∧ g.1 (960 + 32 * tw_eF g a + 1) ≠ -1 ∧ g.1 (960 + 32 * tw_eT g a + 1) ≠ -1 ∧ tw_ms g a m ≤ tw_DN (g.1 (960 + 32 * tw_eF g a + 8 + m))
theorem tw_mP_e {g : tw_G} {a i : Nat} (e : g.1 (960 + 32 * a + 1) = nI i) (hi : i < 4) : tw_mP g a = i := by
  unfold tw_mP
  rw [e]
  exact nI_clamp (by omega)
theorem tw_b4 {d : tw_D} {g : tw_G} {τ : tw_K} {h : tw_H} {x : Nat} (hw : tw_wt d g τ h) (kx : τ x = 36) : g.2 4 ≤ 6 := by
  obtain ⟨e, he, th, td, ds, fr, ca, us, wo, cm, lc, lh, ld, h9, k1, k2, k3, k4, k5, k6, k7, k8, k9, b3, b4, -⟩ := hw x 36 kx (by decide)
  exact b4
theorem tw_b5 {d : tw_D} {g : tw_G} {τ : tw_K} {h : tw_H} {x : Nat} (hw : tw_wt d g τ h) (kx : τ x = 36) : g.2 5 ≤ 10 := by
  obtain ⟨e, he, th, td, ds, fr, ca, us, wo, cm, lc, lh, ld, h9, k1, k2, k3, k4, k5, k6, k7, k8, k9, b3, b4, b5, -⟩ := hw x 36 kx (by decide)
  exact b5
theorem tw_dmx {t d : Int32} {T D : Nat} (et : t = nI T) (ed : d = nI D) (hT : T ≤ 3000) (hD : D ≤ 4000) : (if 0 < t - d then t - d else 0) = nI (T - D) := by
  have b : (t - d).toInt = (T : Int) - D := by
    rw [et, ed, Int32.toInt_sub, nI_toInt (by omega), nI_toInt (by omega)]
    apply Int.bmod_eq_of_le_mul_two <;> omega
  by_cases q : D < T
  · rw [if_pos (by rw [Int32.lt_iff_toInt_lt, b, show (0 : Int32).toInt = 0 by decide]; omega)]
    exact tw_I_of (by rw [b]; omega) (by omega)
  · rw [if_neg (fun z => by rw [Int32.lt_iff_toInt_lt, b, show (0 : Int32).toInt = 0 by decide] at z; omega), show T - D = 0 by omega]
    rfl
theorem tw_due3 {V D T : Nat} {v d t : Int32} (ev : v = nI V) (ed : d = nI D) (et : t = nI T) (hV : V ≤ 9999) (hT : T ≤ 3000) (hD : D ≤ 4000) : v + v / 100 * ((if 0 < t - d then t - d else 0) / 10) = nI (tw_due V D T) := by
  have a : V / 100 ≤ 99 := by omega
  have b : (T - D) / 10 ≤ 300 := by omega
  have m : V / 100 * ((T - D) / 10) ≤ 99 * 300 := Nat.mul_le_mul a b
  rw [tw_dmx et ed hT hD, ev, show (100 : Int32) = nI 100 from rfl, show (10 : Int32) = nI 10 from rfl, tw_I_div (b := 100) (by omega) (by decide), tw_I_div (b := 10) (by omega) (by decide), tw_I_mul (by omega) (by omega) (by omega)]
  exact tw_niadd
/-- what the reference's debts are within -/
def tw_MH (g : tw_G) : Prop := ∀ j, j < g.2 5 → (∃ v, v ≤ 9999 ∧ g.1 (1232 + 8 * j + 0) = nI v) ∧ (∃ t, t ≤ 4000 ∧ g.1 (1232 + 8 * j + 1) = nI t) ∧ tw_eF g j ≠ tw_eT g j
theorem tw_eN_e {g : tw_G} {a i c : Nat} (e : nI i = g.1 (1232 + 8 * a + c)) (hi : i < 6) : tw_DN (g.1 (1232 + 8 * a + c)) = i := by
  rw [← e]
  exact nI_clamp (by omega)
theorem tw_md_le {g : tw_G} {j : Nat} (he : tw_MH g) (hj : j < g.2 5) (hT : g.2 22 ≤ 3000) : tw_md g j ≤ 40000 := by
  obtain ⟨⟨V9, hV9, eV9⟩, -⟩ := he j hj
  unfold tw_md
  rw [show tw_DN (g.1 (1232 + 8 * j + 0)) = V9 from by rw [eV9]; exact nI_clamp (by omega)]
  exact tw_dueI hV9 hT
theorem tw_ms_le {g : tw_G} {j k : Nat} (he : tw_MH g) (hj : j < g.2 5) (hT : g.2 22 ≤ 3000) (hr : 100 ≤ tw_DN (g.1 (480 + 64 * tw_mP g (tw_eF g j)))) : tw_ms g j k ≤ 40000 := by
  have z := tw_md_le he hj hT
  unfold tw_ms
  split
  · exact tw_gf_le hr z
  · exact z
theorem tw_DN_lt (x : Int32) : tw_DN x < 2 ^ 31 := x.toNatClampNeg_lt
theorem tw_ms_lt {g : tw_G} {j k : Nat} (he : tw_MH g) (hj : j < g.2 5) (hT : g.2 22 ≤ 3000) : tw_ms g j k < 2 ^ 63 := by
  have z := tw_md_le he hj hT
  unfold tw_ms
  split
  · unfold tw_gf
    have r := tw_DN_lt (g.1 (480 + 64 * tw_mP g (tw_eF g j)))
    refine Nat.lt_of_le_of_lt (Nat.div_le_self _ _) ?_
    omega
  · omega
theorem tw_ad_0 {g : tw_G} {i : Nat} : tw_ad g i (nI 0) = g := by
  refine Prod.ext (funext fun k => ?_) rfl
  show (if k = i then g.1 i + nI 0 else g.1 k) = g.1 k
  by_cases q : k = i
  · rw [if_pos q, q]
    exact Int32.add_zero _
  · rw [if_neg q]
theorem tw_ad_n0 {g : tw_G} {i : Nat} : tw_ad g i (-nI 0) = g := by
  rw [show -nI 0 = nI 0 from Int32.neg_zero]
  exact tw_ad_0
theorem tw_fw_A {B : Nat} {g : tw_G} (h : tw_AM B g) (hB : B ≤ 60000000) : ∀ n, n ≤ 4 → tw_AM B (tw_fd tw_weM g n)
  | 0, _ => h
  | n + 1, hn => tw_we_A (tw_fw_A h hB n (by omega)) hB (by omega)
theorem tw_dyM_A {B : Nat} {g : tw_G} (h : tw_AM B g) (hB : B ≤ 60000000) (h3 : g.2 3 ≤ 4) (h4 : g.2 4 ≤ 6) : tw_AM B (tw_dyM g) := by
  have a0 : tw_AM B (tw_g2 g 22 (g.2 22 + 1)) := h.cg (fun i k _ _ => rfl)
  unfold tw_dyM
  split
  · exact tw_fw_A (tw_ar_A a0 h4) hB _ h3
  · exact tw_ar_A a0 h4
theorem tw_dsM_A {B : Nat} {g : tw_G} (h : tw_AM B g) (hB : B ≤ 60000000) (h3 : g.2 3 ≤ 4) (h4 : g.2 4 ≤ 6) : ∀ n, tw_AM B (tw_dsM g n)
  | 0 => h
  | n + 1 => tw_dyM_A (tw_dsM_A h hB h3 h4 n) hB (by rw [tw_dsM_2]; exact h3) (by rw [tw_dsM_2]; exact h4)

theorem tw_adm {g : tw_G} {i j : Nat} {v w : Int32} (h : i ≠ j) : tw_ad (tw_ad g j w) i v = tw_ad (tw_ad g i v) j w := by
  refine Prod.ext (funext fun k => ?_) rfl
  show (if k = i then (if i = j then g.1 j + w else g.1 i) + v else if k = j then g.1 j + w else g.1 k) = if k = j then (if j = i then g.1 i + v else g.1 j) + w else if k = i then g.1 i + v else g.1 k
  rw [if_neg h, if_neg (Ne.symm h)]
  by_cases a : k = i
  · rw [if_pos a, if_neg (fun z => h (a.symm.trans z)), if_pos a]
  · rw [if_neg a, if_neg a]
theorem tw_g1_3 {g : tw_G} {a b c : Nat} {u v w : Int32} (ab : a ≠ b) (ac : a ≠ c) (bc : b ≠ c) : tw_g1 (tw_g1 (tw_g1 g a u) b v) c w = tw_g1 (tw_g1 (tw_g1 g c w) b v) a u := by
  refine Prod.ext (funext fun k => ?_) rfl
  show (if k = c then w else if k = b then v else if k = a then u else g.1 k) = if k = a then u else if k = b then v else if k = c then w else g.1 k
  by_cases p : k = a
  · have h1 : ¬ k = c := fun z => ac (p.symm.trans z)
    have h2 : ¬ k = b := fun z => ab (p.symm.trans z)
    simp only [if_neg h1, if_neg h2, if_pos p]
  · by_cases q : k = b
    · have h1 : ¬ k = c := fun z => bc (q.symm.trans z)
      simp only [if_neg h1, if_pos q, if_neg p]
    · by_cases r : k = c
      · simp only [if_pos r, if_neg q, if_neg p]
      · simp only [if_neg r, if_neg q, if_neg p]
/-! the class's methods over the typed heap. Laid by wip/p5/mkclass.py. -/
/-! p30: below, cell -/
theorem tw_and31 (v : Int32) : ∃ W, W < 2 ^ 31 ∧ v &&& 2147483647 = nI W := ⟨(v &&& 2147483647).toBitVec.toNat, by
  rw [show (v &&& 2147483647).toBitVec = v.toBitVec &&& (2147483647 : Int32).toBitVec from rfl, BitVec.toNat_and]
  exact Nat.lt_of_le_of_lt Nat.and_le_right (by decide), by
  apply Int32.toBitVec_inj.mp
  simp [nI, Int32.ofNat]⟩
theorem tw_below {v : Int32} {N : Nat} (h : 0 < N) (h2 : N < 2 ^ 31) : ∃ k, k < N ∧ (v &&& 2147483647) - (v &&& 2147483647) / nI N * nI N = nI k := by
  obtain ⟨W, hW, e⟩ := tw_and31 v
  exact ⟨W % N, Nat.mod_lt _ h, by rw [e]; exact tw_I_mod hW h2 h⟩
theorem tw_nz0 {N : Nat} (h : 0 < N) (h2 : N < 2 ^ 31) : nI N ≠ 0 := fun z => by
  have y := tw_nIj (b := 0) z h2 (by decide)
  omega
set_option maxHeartbeats 4000000 in
set_option maxRecDepth 100000 in
theorem c4_L_below (d : tw_D) (g : tw_G) (τ : tw_K) (h : tw_H) (hw : tw_wt d g τ h)  (v : Int32) (N : Nat) (hN : 0 < N) (hN2 : N < 2 ^ 31) : tw_Ct d mL_below 0 0 [.int v, .int (nI N)] h (tw_qi (fun r h1 => h1 = h ∧ ∃ k, k < N ∧ r = nI k) tw_nx) := by
  refine tw_of (by decide +kernel) (Nat.le_of_ble_eq_true rfl) ?_
  show tw_W d mL_below _ 0 [(0, .int v), (1, .int (nI N))] [] h 0 0
  have sp0 := tw_sp.rf hw
  refine tw_iload_n 0 dL_below_0 rfl rfl ?_
  refine tw_ldc (v := 2147483647) dL_below_1 w_681 ?_
  refine tw_iand dL_below_3 ?_
  refine tw_nmi (fun v1 ev1 => ?_)
  refine tw_iload_n 1 dL_below_4 rfl rfl ?_
  refine tw_irem dL_below_5 (tw_nz0 hN hN2) ?_
  refine tw_nmi (fun v2 ev2 => ?_)
  exact tw_iret dL_below_6 rfl (Or.inl ⟨_, rfl, rfl, by rw [ev2, ev1]; exact tw_below hN hN2⟩)

set_option maxHeartbeats 4000000 in
set_option maxRecDepth 100000 in
theorem c4_L_cell (d : tw_D) (g : tw_G) (τ : tw_K) (h : tw_H) (hw : tw_wt d g τ h)  (k : Nat) (hk : k < 100) (hL : d.2 97 ≤ 2560) : tw_Ct d mL_cell 0 0 [.ref (d.2 98), .int (nI k)] h (tw_qi (fun r h1 => h1 = h) tw_nx) := by
  refine tw_of (by decide +kernel) (Nat.le_of_ble_eq_true rfl) ?_
  show tw_W d mL_cell _ 0 [(0, .ref (d.2 98)), (1, .int (nI k))] [] h 0 0
  have sp0 := tw_sp.rf hw
  refine tw_iload_n 1 dL_cell_0 rfl rfl ?_
  refine tw_aload_n 0 dL_cell_1 rfl rfl ?_
  refine tw_tlen (N := d.2 97) (fun _ _ z => z.xs.2.2.2.2.2) dL_cell_2 ?_
  refine tw_icmp_ge 12 dL_cell_3 (by decide) (fun c1 => ?_) (fun c1 => ?_)
  · refine tw_ldc (v := 790386105) dL_cell_12 w_685 ?_
    refine tw_iload_n 1 dL_cell_14 rfl rfl ?_
    refine tw_iconst (v := 3) dL_cell_15 (by decide) ?_
    refine tw_iadd dL_cell_16 ?_
    refine tw_nmi (fun v2 ev2 => ?_)
    refine tw_imul dL_cell_17 ?_
    refine tw_nmi (fun v3 ev3 => ?_)
    exact tw_iret dL_cell_18 rfl (Or.inl ⟨_, rfl, rfl⟩)
  · refine tw_aload_n 0 dL_cell_6 rfl rfl ?_
    refine tw_iload_n 1 dL_cell_7 rfl rfl ?_
    obtain ⟨y4, ey4⟩ : ∃ y : Int32, Int32.ofNat (d.2 (1000 + (nI k).toNatClampNeg)) = y := ⟨_, rfl⟩
    refine tw_ti (v := .int y4) (fun _ _ z => z.xs.2.2.2.2.2) dL_cell_8 (vp_in_nI (by have z := c1; rcases Nat.lt_or_ge k (d.2 97) with l | l; exact l; exact absurd ((tw_nIle (by omega) (by omega)).mpr l) z) (by omega)) (congrArg Value.int ey4) ?_
    refine tw_goto 18 dL_cell_9 (by decide) ?_
    exact tw_iret dL_cell_18 rfl (Or.inl ⟨_, rfl, rfl⟩)

/-! the reference's numbers are free, where none of its things is there -/
theorem tw_d1_12 {k i : Nat} (hk : k < 13) (h : i ∈ tw_d1 k) : i = 0 := by
  rcases (show k = 0 ∨ k = 1 ∨ k = 2 ∨ k = 3 ∨ k = 4 ∨ k = 5 ∨ k = 6 ∨ k = 7 ∨ k = 8 ∨ k = 9 ∨ k = 10 ∨ k = 11 ∨ k = 12 by omega) with rfl | rfl | rfl | rfl | rfl | rfl | rfl | rfl | rfl | rfl | rfl | rfl | rfl <;> simp_all [tw_d1]
theorem tw_d2_12 {k i : Nat} (hk : k < 13) (h : i ∈ tw_d2 k) : i < 3 ∨ 6 ≤ i ∧ i < 9 ∨ i = 10 ∨ 18 ≤ i ∧ i < 22 := by
  rcases (show k = 0 ∨ k = 1 ∨ k = 2 ∨ k = 3 ∨ k = 4 ∨ k = 5 ∨ k = 6 ∨ k = 7 ∨ k = 8 ∨ k = 9 ∨ k = 10 ∨ k = 11 ∨ k = 12 by omega) with rfl | rfl | rfl | rfl | rfl | rfl | rfl | rfl | rfl | rfl | rfl | rfl | rfl <;> simp [tw_d2] at h <;> omega
/-- the reference's frontiers at nothing: every block lies in the class's ranges -/
def tw_un (g : tw_G) : tw_G := (g.1, fun i => if i = 9 ∨ i = 131 ∨ i = 133 ∨ i = 135 then 0 else g.2 i)
theorem tw_un_n (g : tw_G) {i : Nat} (h : i ≠ 9 ∧ i ≠ 131 ∧ i ≠ 133 ∧ i ≠ 135) : (tw_un g).2 i = g.2 i := if_neg (by omega)
def tw_cb (i : Nat) : Prop := 160 ≤ i ∧ i < 416 ∨ 768 ≤ i ∧ i < 960 ∨ 1152 ≤ i ∧ i < 1232 ∨ 1312 ≤ i ∧ i < 1344
theorem tw_wt.virt {d : tw_D} {g g' : tw_G} {τ : tw_K} {h : tw_H} (hw : tw_wt d (tw_un g) τ h) (hc : ∀ a, τ a < 13) (e0 : g'.1 0 = g.1 0) (e1 : ∀ i, tw_cb i → g'.1 i = g.1 i) (e2 : ∀ i, (i < 3 ∨ 6 ≤ i ∧ i < 9 ∨ i = 10 ∨ 18 ≤ i ∧ i < 22 ∨ i = 24 ∨ i = 130 ∨ i = 132 ∨ i = 134) → g'.2 i = g.2 i) (e3 : ∀ i, tw_cb i → g'.2 i = g.2 i) (e4 : ∀ q, τ q ≠ 0 → g'.2 (4096 + q) = g.2 (4096 + q)) : tw_wt d (tw_un g') τ h := by
  have u : ∀ (G : tw_G) (i : Nat), (i = 9 ∨ i = 131 ∨ i = 133 ∨ i = 135) → (tw_un G).2 i = 0 := fun G i hi => if_pos hi
  have O : ∀ x b, τ x ≠ 0 → tw_ow (tw_un g) x b → tw_ow (tw_un g') x b ∧ ∀ i, i < 8 → g'.1 (b + i) = g.1 (b + i) := fun x b hx o => by
    obtain ⟨o1, o2, o3, o4, o5⟩ := o
    have r : b + 8 ≤ 416 ∨ 768 ≤ b ∧ b + 8 ≤ 960 ∨ 1152 ≤ b ∧ b + 8 ≤ 1232 ∨ 1312 ≤ b ∧ b + 8 ≤ 1344 := by
      have z := o3
      unfold tw_al at z
      rw [u g 9 (by decide), u g 131 (by decide), u g 133 (by decide), u g 135 (by decide)] at z
      omega
    rw [tw_un_n g (by omega)] at o4 o5
    refine ⟨⟨o1, o2, o3.le (fun i hi => ?_), by rw [tw_un_n g' (by omega), e3 b (by unfold tw_cb; omega)]; exact o4, by rw [tw_un_n g' (by omega), e4 x hx]; exact o5⟩, fun i hi => e1 _ (by unfold tw_cb; omega)⟩
    by_cases q : i = 9 ∨ i = 131 ∨ i = 133 ∨ i = 135
    · rw [u g i q]
      exact Nat.zero_le _
    · rw [tw_un_n g (by omega), tw_un_n g' (by omega), e2 i (by omega)]
      exact Nat.le_refl _
  intro a k hk h0
  obtain ⟨e, he, s⟩ := hw a k hk h0
  have h13 : k < 13 := by rw [← hk]; exact hc a
  refine ⟨e, he, tw_sh_g (fun i hi => ?_) (fun i hi => ?_) (fun b o => O a b (by rw [hk]; exact h0) o) (fun q hq => ?_) (by rw [hk]; exact h0) s⟩
  · rw [tw_d1_12 h13 hi]
    exact e0
  · have z := tw_d2_12 h13 hi
    rw [tw_un_n g (by omega), tw_un_n g' (by omega)]
    exact e2 i (by omega)
  · rw [tw_un_n g (by omega), tw_un_n g' (by omega)]
    exact e4 q hq
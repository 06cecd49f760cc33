/-! the class's methods over the typed heap. Laid by wip/p5/mkclass.py. -/
/-! p30: below, cell -/
theorem tw_and31 (v : Int32) : ∃ W, W < 2 ^ 31 ∧ v &&& 2147483647 = nI W := ⟨(v &&& 2147483647).toBitVec.toNat, by
  rw [show (v &&& 2147483647).toBitVec = v.toBitVec &&& (2147483647 : Int32).toBitVec from rfl, BitVec.toNat_and]
  exact Nat.lt_of_le_of_lt Nat.and_le_right (by decide), by
  apply Int32.toBitVec_inj.mp
  simp [nI, Int32.ofNat]⟩
theorem tw_below {v : Int32} {N : Nat} (h : 0 < N) (h2 : N < 2 ^ 31) : ∃ k, k < N ∧ (v &&& 2147483647) - (v &&& 2147483647) / nI N * nI N = nI k := by
  obtain ⟨W, hW, e⟩ := tw_and31 v
  exact ⟨W % N, Nat.mod_lt _ h, by rw [e]; exact tw_I_mod hW h2 h⟩
theorem tw_nz0 {N : Nat} (h : 0 < N) (h2 : N < 2 ^ 31) : nI N ≠ 0 := fun z => by
  have y := tw_nIj (b := 0) z h2 (by decide)
  omega
set_option maxHeartbeats 4000000 in
set_option maxRecDepth 100000 in
theorem c4_L_below (d : tw_D) (g : tw_G) (τ : tw_K) (h : tw_H) (hw : tw_wt d g τ h)  (v : Int32) (N : Nat) (hN : 0 < N) (hN2 : N < 2 ^ 31) : tw_Ct d mL_below 0 0 [.int v, .int (nI N)] h (tw_qi (fun r h1 => h1 = h ∧ ∃ k, k < N ∧ r = nI k) tw_nx) := by
  refine tw_of (by decide +kernel) (Nat.le_of_ble_eq_true rfl) ?_
  show tw_W d mL_below _ 0 [(0, .int v), (1, .int (nI N))] [] h 0 0
  have sp0 := tw_sp.rf hw
  refine tw_iload_n 0 dL_below_0 rfl rfl ?_
  refine tw_ldc (v := 2147483647) dL_below_1 w_681 ?_
  refine tw_iand dL_below_3 ?_
  refine tw_nmi (fun v1 ev1 => ?_)
  refine tw_iload_n 1 dL_below_4 rfl rfl ?_
  refine tw_irem dL_below_5 (tw_nz0 hN hN2) ?_
  refine tw_nmi (fun v2 ev2 => ?_)
  exact tw_iret dL_below_6 rfl (Or.inl ⟨_, rfl, rfl, by rw [ev2, ev1]; exact tw_below hN hN2⟩)

set_option maxHeartbeats 4000000 in
set_option maxRecDepth 100000 in
theorem c4_L_cell (d : tw_D) (g : tw_G) (τ : tw_K) (h : tw_H) (hw : tw_wt d g τ h)  (k : Nat) (hk : k < 100) (hL : d.2 97 ≤ 2560) : tw_Ct d mL_cell 0 0 [.ref (d.2 98), .int (nI k)] h (tw_qi (fun r h1 => h1 = h) tw_nx) := by
  refine tw_of (by decide +kernel) (Nat.le_of_ble_eq_true rfl) ?_
  show tw_W d mL_cell _ 0 [(0, .ref (d.2 98)), (1, .int (nI k))] [] h 0 0
  have sp0 := tw_sp.rf hw
  refine tw_iload_n 1 dL_cell_0 rfl rfl ?_
  refine tw_aload_n 0 dL_cell_1 rfl rfl ?_
  refine tw_tlen (N := d.2 97) (fun _ _ z => z.xs.2.2.2.2.2) dL_cell_2 ?_
  refine tw_icmp_ge 12 dL_cell_3 (by decide) (fun c1 => ?_) (fun c1 => ?_)
  · refine tw_ldc (v := 790386105) dL_cell_12 w_685 ?_
    refine tw_iload_n 1 dL_cell_14 rfl rfl ?_
    refine tw_iconst (v := 3) dL_cell_15 (by decide) ?_
    refine tw_iadd dL_cell_16 ?_
    refine tw_nmi (fun v2 ev2 => ?_)
    refine tw_imul dL_cell_17 ?_
    refine tw_nmi (fun v3 ev3 => ?_)
    exact tw_iret dL_cell_18 rfl (Or.inl ⟨_, rfl, rfl⟩)
  · refine tw_aload_n 0 dL_cell_6 rfl rfl ?_
    refine tw_iload_n 1 dL_cell_7 rfl rfl ?_
    obtain ⟨y4, ey4⟩ : ∃ y : Int32, Int32.ofNat (d.2 (1000 + (nI k).toNatClampNeg)) = y := ⟨_, rfl⟩
    refine tw_ti (v := .int y4) (fun _ _ z => z.xs.2.2.2.2.2) dL_cell_8 (vp_in_nI (by have z := c1; rcases Nat.lt_or_ge k (d.2 97) with l | l; exact l; exact absurd ((tw_nIle (by omega) (by omega)).mpr l) z) (by omega)) (congrArg Value.int ey4) ?_
    refine tw_goto 18 dL_cell_9 (by decide) ?_
    exact tw_iret dL_cell_18 rfl (Or.inl ⟨_, rfl, rfl⟩)

/-! the class's methods over the typed heap. Laid by wip/p5/mkclass.py. -/
set_option maxHeartbeats 4000000 in
set_option maxRecDepth 100000 in
theorem c_X5_needRange (d : tw_D) (g : tw_G) (τ : tw_K) (h : tw_H) (hw : tw_wt d g τ h) (v : Int32) (lo : Int32) (hi : Int32) : tw_Ct d mX5_needRange 1 6 [.int v, .int lo, .int hi] h (tw_qv (fun h1 => h1 = h ∧ lo ≤ v ∧ v ≤ hi) (fun E h1 => (E = tw_IAE) ∧ h1 = h)) := by
  refine tw_of (by decide +kernel) (Nat.le_of_ble_eq_true rfl) ?_
  show tw_W d mX5_needRange _ 0 [(0, .int v), (1, .int lo), (2, .int hi)] [] h 1 6
  have sp0 := tw_sp.rf hw
  refine tw_iload_n 0 dX5_needRange_0 rfl rfl ?_
  refine tw_iload_n 1 dX5_needRange_1 rfl rfl ?_
  refine tw_icmp_lt 10 dX5_needRange_2 (by decide) (fun c1 => ?_) (fun c1 => ?_)
  · exact tw_throwSW (i := 0) (by decide +kernel) w_402 w_87 rfl at_IAE dX5_needRange_10 dX5_needRange_13 dX5_needRange_14 dX5_needRange_17 dX5_needRange_20 ⟨by decide, Nat.le_of_ble_eq_true rfl⟩ (Nat.le_of_ble_eq_true rfl) (Nat.le_of_ble_eq_true rfl) (Or.inr ⟨_, rfl, (rfl), rfl⟩)
  · refine tw_iload_n 0 dX5_needRange_5 rfl rfl ?_
    refine tw_iload_n 2 dX5_needRange_6 rfl rfl ?_
    refine tw_icmp_le 21 dX5_needRange_7 (by decide) (fun c2 => ?_) (fun c2 => ?_)
    · exact tw_vret dX5_needRange_21 rfl (Or.inl ⟨rfl, ⟨rfl, (Int32.not_lt.mp c1), c2⟩⟩)
    · exact tw_throwSW (i := 0) (by decide +kernel) w_402 w_87 rfl at_IAE dX5_needRange_10 dX5_needRange_13 dX5_needRange_14 dX5_needRange_17 dX5_needRange_20 ⟨by decide, Nat.le_of_ble_eq_true rfl⟩ (Nat.le_of_ble_eq_true rfl) (Nat.le_of_ble_eq_true rfl) (Or.inr ⟨_, rfl, (rfl), rfl⟩)

set_option maxHeartbeats 4000000 in
set_option maxRecDepth 100000 in
theorem c_X5_needMetal (d : tw_D) (g : tw_G) (τ : tw_K) (h : tw_H) (hw : tw_wt d g τ h) (m : Int32) : tw_Ct d mX5_needMetal 1 6 [.int m] h (tw_qv (fun h1 => h1 = h ∧ (m = 0 ∨ m = 1)) (fun E h1 => (E = tw_IAE) ∧ h1 = h)) := by
  refine tw_of (by decide +kernel) (Nat.le_of_ble_eq_true rfl) ?_
  show tw_W d mX5_needMetal _ 0 [(0, .int m)] [] h 1 6
  have sp0 := tw_sp.rf hw
  refine tw_iload_n 0 dX5_needMetal_0 rfl rfl ?_
  refine tw_if_eq 20 dX5_needMetal_1 (by decide) (fun c1 => ?_) (fun c1 => ?_)
  · exact tw_vret dX5_needMetal_20 rfl (Or.inl ⟨rfl, ⟨rfl, Or.inl c1⟩⟩)
  · refine tw_iload_n 0 dX5_needMetal_4 rfl rfl ?_
    refine tw_iconst (v := 1) dX5_needMetal_5 (by decide) ?_
    refine tw_icmp_eq 20 dX5_needMetal_6 (by decide) (fun c2 => ?_) (fun c2 => ?_)
    · exact tw_vret dX5_needMetal_20 rfl (Or.inl ⟨rfl, ⟨rfl, Or.inr c2⟩⟩)
    · exact tw_throwSW (i := 3) (by decide +kernel) w_402 w_87 rfl at_IAE dX5_needMetal_9 dX5_needMetal_12 dX5_needMetal_13 dX5_needMetal_16 dX5_needMetal_19 ⟨by decide, Nat.le_of_ble_eq_true rfl⟩ (Nat.le_of_ble_eq_true rfl) (Nat.le_of_ble_eq_true rfl) (Or.inr ⟨_, rfl, (rfl), rfl⟩)

set_option maxHeartbeats 4000000 in
set_option maxRecDepth 100000 in
theorem c_X5_needDifferent (d : tw_D) (g : tw_G) (τ : tw_K) (h : tw_H) (hw : tw_wt d g τ h) (a : Int32) (b : Int32) : tw_Ct d mX5_needDifferent 1 6 [.int a, .int b] h (tw_qv (fun h1 => h1 = h) (fun E h1 => (E = tw_IAE) ∧ h1 = h)) := by
  refine tw_of (by decide +kernel) (Nat.le_of_ble_eq_true rfl) ?_
  show tw_W d mX5_needDifferent _ 0 [(0, .int a), (1, .int b)] [] h 1 6
  have sp0 := tw_sp.rf hw
  refine tw_iload_n 0 dX5_needDifferent_0 rfl rfl ?_
  refine tw_iload_n 1 dX5_needDifferent_1 rfl rfl ?_
  refine tw_icmp_ne 16 dX5_needDifferent_2 (by decide) (fun c1 => ?_) (fun c1 => ?_)
  · exact tw_vret dX5_needDifferent_16 rfl (Or.inl ⟨rfl, rfl⟩)
  · exact tw_throwSW (i := 4) (by decide +kernel) w_402 w_87 rfl at_IAE dX5_needDifferent_5 dX5_needDifferent_8 dX5_needDifferent_9 dX5_needDifferent_12 dX5_needDifferent_15 ⟨by decide, Nat.le_of_ble_eq_true rfl⟩ (Nat.le_of_ble_eq_true rfl) (Nat.le_of_ble_eq_true rfl) (Or.inr ⟨_, rfl, (rfl), rfl⟩)

set_option maxHeartbeats 4000000 in
set_option maxRecDepth 100000 in
theorem c_X5_needLaw (d : tw_D) (g : tw_G) (τ : tw_K) (h : tw_H) (hw : tw_wt d g τ h) (r : Int32) (ct : Int32) : tw_Ct d mX5_needLaw 2 12 [.int r, .int ct] h (tw_qv (fun h1 => h1 = h ∧ 100 ≤ r ∧ r ≤ 200) (fun E h1 => (E = tw_IAE) ∧ h1 = h)) := by
  refine tw_of (by decide +kernel) (Nat.le_of_ble_eq_true rfl) ?_
  show tw_W d mX5_needLaw _ 0 [(0, .int r), (1, .int ct)] [] h 2 12
  have sp0 := tw_sp.rf hw
  refine tw_iload_n 0 dX5_needLaw_0 rfl rfl ?_
  refine tw_bipush (v := 100) dX5_needLaw_1 (by decide) ?_
  refine tw_sipush (v := 200) dX5_needLaw_3 (by decide) ?_
  refine tw_bv (tw_callS (M := mX5_needLaw) (pc := 6) okX5_needRange dX5_needLaw_6 w_399 [.int r, .int 100, .int 200] [] rfl rfl ⟨by decide, by decide⟩ (Nat.le_of_ble_eq_true rfl) (c_X5_needRange d g τ h sp0.1 r 100 200) 1 6 (Nat.le_of_ble_eq_true rfl) (Nat.le_of_ble_eq_true rfl)) (fun h2 q1 => ?_) (fun E h1 q => Or.inr ⟨E, rfl, (q.1), q.2⟩)
  obtain ⟨q1e, p4⟩ := q1
  rw [q1e]
  refine tw_iload_n 1 dX5_needLaw_9 rfl rfl ?_
  refine tw_iconst (v := 0) dX5_needLaw_10 (by decide) ?_
  refine tw_bipush (v := 50) dX5_needLaw_11 (by decide) ?_
  refine tw_bv (tw_callS (M := mX5_needLaw) (pc := 13) okX5_needRange dX5_needLaw_13 w_399 [.int ct, .int 0, .int 50] [] rfl rfl ⟨by decide, by decide⟩ (Nat.le_of_ble_eq_true rfl) (c_X5_needRange d g τ h sp0.1 ct 0 50) 0 0 (Nat.le_of_ble_eq_true rfl) (Nat.le_of_ble_eq_true rfl)) (fun h6 q5 => ?_) (fun E h1 q => Or.inr ⟨E, rfl, (q.1), q.2⟩)
  obtain ⟨q5e, p8⟩ := q5
  rw [q5e]
  exact tw_vret dX5_needLaw_16 rfl (Or.inl ⟨rfl, ⟨rfl, p4⟩⟩)

set_option maxHeartbeats 4000000 in
set_option maxRecDepth 100000 in
theorem c_X5_otherMetal (d : tw_D) (g : tw_G) (τ : tw_K) (h : tw_H) (hw : tw_wt d g τ h) (m : Int32) : tw_Ct d mX5_otherMetal 0 0 [.int m] h (tw_qi (fun r h1 => h1 = h ∧ (r = 0 ∨ r = 1)) tw_nx) := by
  refine tw_of (by decide +kernel) (Nat.le_of_ble_eq_true rfl) ?_
  show tw_W d mX5_otherMetal _ 0 [(0, .int m)] [] h 0 0
  have sp0 := tw_sp.rf hw
  refine tw_iload_n 0 dX5_otherMetal_0 rfl rfl ?_
  refine tw_if_ne 8 dX5_otherMetal_1 (by decide) (fun c1 => ?_) (fun c1 => ?_)
  · refine tw_iconst (v := 0) dX5_otherMetal_8 (by decide) ?_
    exact tw_iret dX5_otherMetal_9 rfl (Or.inl ⟨_, rfl, ⟨rfl, (by decide)⟩⟩)
  · refine tw_iconst (v := 1) dX5_otherMetal_4 (by decide) ?_
    refine tw_goto 9 dX5_otherMetal_5 (by decide) ?_
    exact tw_iret dX5_otherMetal_9 rfl (Or.inl ⟨_, rfl, ⟨rfl, (by decide)⟩⟩)

set_option maxHeartbeats 4000000 in
set_option maxRecDepth 100000 in
theorem c_X5_isWearDay (d : tw_D) (g : tw_G) (τ : tw_K) (h : tw_H) (hw : tw_wt d g τ h) (dy : Int32) : tw_Ct d mX5_isWearDay 0 0 [.int dy] h (tw_qi (fun r h1 => h1 = h ∧ tw_01 r) tw_nx) := by
  refine tw_of (by decide +kernel) (Nat.le_of_ble_eq_true rfl) ?_
  show tw_W d mX5_isWearDay _ 0 [(0, .int dy)] [] h 0 0
  have sp0 := tw_sp.rf hw
  refine tw_iload_n 0 dX5_isWearDay_0 rfl rfl ?_
  refine tw_bipush (v := 30) dX5_isWearDay_1 (by decide) ?_
  refine tw_irem dX5_isWearDay_3 (by decide) ?_
  refine tw_nmi (fun v1 ev1 => ?_)
  refine tw_if_ne 11 dX5_isWearDay_4 (by decide) (fun c2 => ?_) (fun c2 => ?_)
  · refine tw_iconst (v := 0) dX5_isWearDay_11 (by decide) ?_
    exact tw_zret dX5_isWearDay_12 rfl rfl (Or.inl ⟨_, rfl, ⟨rfl, (by unfold tw_01; decide)⟩⟩)
  · refine tw_iconst (v := 1) dX5_isWearDay_7 (by decide) ?_
    refine tw_goto 12 dX5_isWearDay_8 (by decide) ?_
    exact tw_zret dX5_isWearDay_12 rfl rfl (Or.inl ⟨_, rfl, ⟨rfl, (by unfold tw_01; decide)⟩⟩)

set_option maxHeartbeats 4000000 in
set_option maxRecDepth 100000 in
theorem c_X5_worthOf (d : tw_D) (g : tw_G) (τ : tw_K) (h : tw_H) (hw : tw_wt d g τ h) (a : Int32) (b : Int32) (r : Int32) : tw_Ct d mX5_worthOf 0 0 [.int a, .int b, .int r] h (tw_qi (fun r h1 => h1 = h) tw_nx) := by
  refine tw_of (by decide +kernel) (Nat.le_of_ble_eq_true rfl) ?_
  show tw_W d mX5_worthOf _ 0 [(0, .int a), (1, .int b), (2, .int r)] [] h 0 0
  have sp0 := tw_sp.rf hw
  refine tw_iload_n 1 dX5_worthOf_0 rfl rfl ?_
  refine tw_i2l dX5_worthOf_1 ?_
  refine tw_nml (fun v1 ev1 => ?_)
  refine tw_iload_n 0 dX5_worthOf_2 rfl rfl ?_
  refine tw_i2l dX5_worthOf_3 ?_
  refine tw_nml (fun v2 ev2 => ?_)
  refine tw_iload_n 2 dX5_worthOf_4 rfl rfl ?_
  refine tw_i2l dX5_worthOf_5 ?_
  refine tw_nml (fun v3 ev3 => ?_)
  refine tw_lmul dX5_worthOf_6 ?_
  refine tw_nml (fun v4 ev4 => ?_)
  refine tw_ldc2 (v := 10) dX5_worthOf_7 w_272 ?_
  refine tw_ldiv dX5_worthOf_10 (by decide) ?_
  refine tw_nml (fun v5 ev5 => ?_)
  refine tw_ladd dX5_worthOf_11 ?_
  refine tw_nml (fun v6 ev6 => ?_)
  refine tw_l2i dX5_worthOf_12 ?_
  refine tw_nmi (fun v7 ev7 => ?_)
  exact tw_iret dX5_worthOf_13 rfl (Or.inl ⟨_, rfl, rfl⟩)

set_option maxHeartbeats 4000000 in
set_option maxRecDepth 100000 in
theorem c_X5_thousandthsRoundedUp (d : tw_D) (g : tw_G) (τ : tw_K) (h : tw_H) (hw : tw_wt d g τ h) (a : Int32) (b : Int32) : tw_Ct d mX5_thousandthsRoundedUp 0 0 [.int a, .int b] h (tw_qi (fun r h1 => h1 = h) tw_nx) := by
  refine tw_of (by decide +kernel) (Nat.le_of_ble_eq_true rfl) ?_
  show tw_W d mX5_thousandthsRoundedUp _ 0 [(0, .int a), (1, .int b)] [] h 0 0
  have sp0 := tw_sp.rf hw
  refine tw_iload_n 0 dX5_thousandthsRoundedUp_0 rfl rfl ?_
  refine tw_i2l dX5_thousandthsRoundedUp_1 ?_
  refine tw_nml (fun v1 ev1 => ?_)
  refine tw_iload_n 1 dX5_thousandthsRoundedUp_2 rfl rfl ?_
  refine tw_i2l dX5_thousandthsRoundedUp_3 ?_
  refine tw_nml (fun v2 ev2 => ?_)
  refine tw_lmul dX5_thousandthsRoundedUp_4 ?_
  refine tw_nml (fun v3 ev3 => ?_)
  refine tw_ldc2 (v := 999) dX5_thousandthsRoundedUp_5 w_315 ?_
  refine tw_ladd dX5_thousandthsRoundedUp_8 ?_
  refine tw_nml (fun v4 ev4 => ?_)
  refine tw_ldc2 (v := 1000) dX5_thousandthsRoundedUp_9 w_316 ?_
  refine tw_ldiv dX5_thousandthsRoundedUp_12 (by decide) ?_
  refine tw_nml (fun v5 ev5 => ?_)
  refine tw_l2i dX5_thousandthsRoundedUp_13 ?_
  refine tw_nmi (fun v6 ev6 => ?_)
  exact tw_iret dX5_thousandthsRoundedUp_14 rfl (Or.inl ⟨_, rfl, rfl⟩)

set_option maxHeartbeats 4000000 in
set_option maxRecDepth 100000 in
theorem c_X3_of (d : tw_D) (g : tw_G) (τ : tw_K) (h : tw_H) (hw : tw_wt d g τ h) (x : Nat) (kx : τ x = 1) (m : Int32) : tw_Ct d mX3_of 0 0 [.ref x, .int m] h (tw_qi (fun r h1 => h1 = h) tw_nx) := by
  refine tw_of (by decide +kernel) (Nat.le_of_ble_eq_true rfl) ?_
  show tw_W d mX3_of _ 0 [(0, .ref x), (1, .int m)] [] h 0 0
  have sp0 := tw_sp.rf hw
  refine tw_iload_n 1 dX3_of_0 rfl rfl ?_
  refine tw_if_ne 11 dX3_of_1 (by decide) (fun c1 => ?_) (fun c1 => ?_)
  · refine tw_aload_n 0 dX3_of_11 rfl rfl ?_
    obtain ⟨e2, f3, a_4, b_5, rfl, k6⟩ := sp0.1 x 1 kx (by decide)
    refine tw_get (v := .int b_5) rfl in_7 1 dX3_of_12 w_133 rfl (by decide) f3 rfl ?_
    exact tw_iret dX3_of_15 rfl (Or.inl ⟨_, rfl, rfl⟩)
  · refine tw_aload_n 0 dX3_of_4 rfl rfl ?_
    obtain ⟨e7, f8, a_9, b_10, rfl, k11⟩ := sp0.1 x 1 kx (by decide)
    refine tw_get (v := .int a_9) rfl in_7 0 dX3_of_5 w_131 rfl (by decide) f8 rfl ?_
    refine tw_goto 15 dX3_of_8 (by decide) ?_
    exact tw_iret dX3_of_15 rfl (Or.inl ⟨_, rfl, rfl⟩)

set_option maxHeartbeats 4000000 in
set_option maxRecDepth 100000 in
theorem c_X3_worth (d : tw_D) (g : tw_G) (τ : tw_K) (h : tw_H) (hw : tw_wt d g τ h) (x : Nat) (kx : τ x = 1) (r : Int32) : tw_Ct d mX3_worth 0 0 [.ref x, .int r] h (tw_qi (fun r h1 => h1 = h) tw_nx) := by
  refine tw_of (by decide +kernel) (Nat.le_of_ble_eq_true rfl) ?_
  show tw_W d mX3_worth _ 0 [(0, .ref x), (1, .int r)] [] h 0 0
  have sp0 := tw_sp.rf hw
  refine tw_aload_n 0 dX3_worth_0 rfl rfl ?_
  obtain ⟨e1, f2, a_3, b_4, rfl, k5⟩ := sp0.1 x 1 kx (by decide)
  refine tw_get (v := .int a_3) rfl in_7 0 dX3_worth_1 w_131 rfl (by decide) f2 rfl ?_
  refine tw_aload_n 0 dX3_worth_4 rfl rfl ?_
  refine tw_get (v := .int b_4) rfl in_7 1 dX3_worth_5 w_133 rfl (by decide) f2 rfl ?_
  refine tw_iload_n 1 dX3_worth_8 rfl rfl ?_
  refine tw_bi (tw_callSN (M := mX3_worth) (pc := 9) okX5_worthOf dX3_worth_9 w_269 [.int a_3, .int b_4, .int r] [] rfl rfl ⟨by decide, by decide⟩ (Nat.le_of_ble_eq_true rfl) (c_X5_worthOf d g τ h sp0.1 a_3 b_4 r) 0 0 (Nat.le_of_ble_eq_true rfl) (Nat.le_of_ble_eq_true rfl)) (fun r8 h7 q6 => ?_) (fun E h1 q => q.elim)
  rw [q6]
  exact tw_iret dX3_worth_12 rfl (Or.inl ⟨_, rfl, rfl⟩)

set_option maxHeartbeats 4000000 in
set_option maxRecDepth 100000 in
theorem c_X3_isBelowZero (d : tw_D) (g : tw_G) (τ : tw_K) (h : tw_H) (hw : tw_wt d g τ h) (x : Nat) (kx : τ x = 1) : tw_Ct d mX3_isBelowZero 0 0 [.ref x] h (tw_qi (fun r h1 => h1 = h ∧ tw_01 r) tw_nx) := by
  refine tw_of (by decide +kernel) (Nat.le_of_ble_eq_true rfl) ?_
  show tw_W d mX3_isBelowZero _ 0 [(0, .ref x)] [] h 0 0
  have sp0 := tw_sp.rf hw
  refine tw_aload_n 0 dX3_isBelowZero_0 rfl rfl ?_
  obtain ⟨e1, f2, a_3, b_4, rfl, k5⟩ := sp0.1 x 1 kx (by decide)
  refine tw_get (v := .int a_3) rfl in_7 0 dX3_isBelowZero_1 w_131 rfl (by decide) f2 rfl ?_
  refine tw_if_lt 14 dX3_isBelowZero_4 (by decide) (fun c6 => ?_) (fun c6 => ?_)
  · refine tw_iconst (v := 1) dX3_isBelowZero_14 (by decide) ?_
    refine tw_goto 19 dX3_isBelowZero_15 (by decide) ?_
    exact tw_zret dX3_isBelowZero_19 rfl rfl (Or.inl ⟨_, rfl, ⟨rfl, (by unfold tw_01; decide)⟩⟩)
  · refine tw_aload_n 0 dX3_isBelowZero_7 rfl rfl ?_
    refine tw_get (v := .int b_4) rfl in_7 1 dX3_isBelowZero_8 w_133 rfl (by decide) f2 rfl ?_
    refine tw_if_ge 18 dX3_isBelowZero_11 (by decide) (fun c7 => ?_) (fun c7 => ?_)
    · refine tw_iconst (v := 0) dX3_isBelowZero_18 (by decide) ?_
      exact tw_zret dX3_isBelowZero_19 rfl rfl (Or.inl ⟨_, rfl, ⟨rfl, (by unfold tw_01; decide)⟩⟩)
    · refine tw_iconst (v := 1) dX3_isBelowZero_14 (by decide) ?_
      refine tw_goto 19 dX3_isBelowZero_15 (by decide) ?_
      exact tw_zret dX3_isBelowZero_19 rfl rfl (Or.inl ⟨_, rfl, ⟨rfl, (by unfold tw_01; decide)⟩⟩)

set_option maxHeartbeats 4000000 in
set_option maxRecDepth 100000 in
theorem c_X4_manyOf (d : tw_D) (g : tw_G) (τ : tw_K) (h : tw_H) (hw : tw_wt d g τ h) (x : Nat) (kx : τ x = 5) (k : Int32) : tw_Ct d mX4_manyOf 0 0 [.ref x, .int k] h (tw_qi (fun r h1 => h1 = h) tw_nx) := by
  refine tw_of (by decide +kernel) (Nat.le_of_ble_eq_true rfl) ?_
  show tw_W d mX4_manyOf _ 0 [(0, .ref x), (1, .int k)] [] h 0 0
  have sp0 := tw_sp.rf hw
  refine tw_iload_n 1 dX4_manyOf_0 rfl rfl ?_
  refine tw_if_lt 22 dX4_manyOf_1 (by decide) (fun c1 => ?_) (fun c1 => ?_)
  · refine tw_iconst (v := 0) dX4_manyOf_22 (by decide) ?_
    exact tw_iret dX4_manyOf_23 rfl (Or.inl ⟨_, rfl, rfl⟩)
  · refine tw_iload_n 1 dX4_manyOf_4 rfl rfl ?_
    refine tw_aload_n 0 dX4_manyOf_5 rfl rfl ?_
    obtain ⟨e2, f3, m_4, rfl, k5, k6⟩ := sp0.1 x 5 kx (by decide)
    refine tw_get (v := .ref m_4) rfl in_8 0 dX4_manyOf_6 w_496 rfl (by decide) f3 rfl ?_
    obtain ⟨e7, f8, F9, rfl, pf10⟩ := sp0.1 m_4 7 k5 (by decide)
    refine tw_alen (v := nI 5) 0 rfl dX4_manyOf_9 f8 rfl ?_
    refine tw_icmp_ge 22 dX4_manyOf_10 (by decide) (fun c11 => ?_) (fun c11 => ?_)
    · refine tw_iconst (v := 0) dX4_manyOf_22 (by decide) ?_
      exact tw_iret dX4_manyOf_23 rfl (Or.inl ⟨_, rfl, rfl⟩)
    · refine tw_aload_n 0 dX4_manyOf_13 rfl rfl ?_
      refine tw_get (v := .ref m_4) rfl in_8 0 dX4_manyOf_14 w_496 rfl (by decide) f3 rfl ?_
      refine tw_iload_n 1 dX4_manyOf_17 rfl rfl ?_
      obtain ⟨v12, ev12⟩ : ∃ y : Int32, F9 (k).toNatClampNeg = y := ⟨_, rfl⟩
      refine tw_iald (v := v12) dX4_manyOf_18 f8 (tw_ib2 c1 c11 (by decide)) ev12 ?_
      refine tw_goto 23 dX4_manyOf_19 (by decide) ?_
      exact tw_iret dX4_manyOf_23 rfl (Or.inl ⟨_, rfl, rfl⟩)

set_option maxHeartbeats 4000000 in
set_option maxRecDepth 100000 in
theorem c_X4_pounds (d : tw_D) (g : tw_G) (τ : tw_K) (h : tw_H) (hw : tw_wt d g τ h) (x : Nat) (kx : τ x = 5) : tw_Ct d mX4_pounds 0 0 [.ref x] h (tw_qi (fun r h1 => h1 = h) tw_nx) := by
  refine tw_of (by decide +kernel) (Nat.le_of_ble_eq_true rfl) ?_
  show tw_W d mX4_pounds _ 0 [(0, .ref x)] [] h 0 0
  have sp0 := tw_sp.rf hw
  refine tw_bipush (v := 20) dX4_pounds_0 (by decide) ?_
  refine tw_aload_n 0 dX4_pounds_2 rfl rfl ?_
  refine tw_iconst (v := 0) dX4_pounds_3 (by decide) ?_
  obtain ⟨e1, f2, m_3, rfl, k4, k5⟩ := sp0.1 x 5 kx (by decide)
  refine tw_bi (tw_callV (M := mX4_pounds) (pc := 4) okX4_manyOf dX4_pounds_4 w_277 rfl f2 [.int 0] [.int 20] rfl rfl ⟨by decide, by decide⟩ (Nat.le_of_ble_eq_true rfl) (c_X4_manyOf d g τ h sp0.1 x kx 0) 0 0 (Nat.le_of_ble_eq_true rfl) (Nat.le_of_ble_eq_true rfl)) (fun r8 h7 q6 => ?_) (fun E h1 q => q.elim)
  rw [q6]
  refine tw_imul dX4_pounds_7 ?_
  refine tw_nmi (fun v9 ev9 => ?_)
  refine tw_bipush (v := 10) dX4_pounds_8 (by decide) ?_
  refine tw_aload_n 0 dX4_pounds_10 rfl rfl ?_
  refine tw_iconst (v := 1) dX4_pounds_11 (by decide) ?_
  refine tw_bi (tw_callV (M := mX4_pounds) (pc := 12) okX4_manyOf dX4_pounds_12 w_277 rfl f2 [.int 1] [.int 10, .int v9] rfl rfl ⟨by decide, by decide⟩ (Nat.le_of_ble_eq_true rfl) (c_X4_manyOf d g τ h sp0.1 x kx 1) 0 0 (Nat.le_of_ble_eq_true rfl) (Nat.le_of_ble_eq_true rfl)) (fun r12 h11 q10 => ?_) (fun E h1 q => q.elim)
  rw [q10]
  refine tw_imul dX4_pounds_15 ?_
  refine tw_nmi (fun v13 ev13 => ?_)
  refine tw_iadd dX4_pounds_16 ?_
  refine tw_nmi (fun v14 ev14 => ?_)
  refine tw_iconst (v := 5) dX4_pounds_17 (by decide) ?_
  refine tw_aload_n 0 dX4_pounds_18 rfl rfl ?_
  refine tw_iconst (v := 2) dX4_pounds_19 (by decide) ?_
  refine tw_bi (tw_callV (M := mX4_pounds) (pc := 20) okX4_manyOf dX4_pounds_20 w_277 rfl f2 [.int 2] [.int 5, .int v14] rfl rfl ⟨by decide, by decide⟩ (Nat.le_of_ble_eq_true rfl) (c_X4_manyOf d g τ h sp0.1 x kx 2) 0 0 (Nat.le_of_ble_eq_true rfl) (Nat.le_of_ble_eq_true rfl)) (fun r17 h16 q15 => ?_) (fun E h1 q => q.elim)
  rw [q15]
  refine tw_imul dX4_pounds_23 ?_
  refine tw_nmi (fun v18 ev18 => ?_)
  refine tw_iadd dX4_pounds_24 ?_
  refine tw_nmi (fun v19 ev19 => ?_)
  refine tw_iconst (v := 2) dX4_pounds_25 (by decide) ?_
  refine tw_aload_n 0 dX4_pounds_26 rfl rfl ?_
  refine tw_iconst (v := 3) dX4_pounds_27 (by decide) ?_
  refine tw_bi (tw_callV (M := mX4_pounds) (pc := 28) okX4_manyOf dX4_pounds_28 w_277 rfl f2 [.int 3] [.int 2, .int v19] rfl rfl ⟨by decide, by decide⟩ (Nat.le_of_ble_eq_true rfl) (c_X4_manyOf d g τ h sp0.1 x kx 3) 0 0 (Nat.le_of_ble_eq_true rfl) (Nat.le_of_ble_eq_true rfl)) (fun r22 h21 q20 => ?_) (fun E h1 q => q.elim)
  rw [q20]
  refine tw_imul dX4_pounds_31 ?_
  refine tw_nmi (fun v23 ev23 => ?_)
  refine tw_iadd dX4_pounds_32 ?_
  refine tw_nmi (fun v24 ev24 => ?_)
  refine tw_aload_n 0 dX4_pounds_33 rfl rfl ?_
  refine tw_iconst (v := 4) dX4_pounds_34 (by decide) ?_
  refine tw_bi (tw_callV (M := mX4_pounds) (pc := 35) okX4_manyOf dX4_pounds_35 w_277 rfl f2 [.int 4] [.int v24] rfl rfl ⟨by decide, by decide⟩ (Nat.le_of_ble_eq_true rfl) (c_X4_manyOf d g τ h sp0.1 x kx 4) 0 0 (Nat.le_of_ble_eq_true rfl) (Nat.le_of_ble_eq_true rfl)) (fun r27 h26 q25 => ?_) (fun E h1 q => q.elim)
  rw [q25]
  refine tw_iadd dX4_pounds_38 ?_
  refine tw_nmi (fun v28 ev28 => ?_)
  exact tw_iret dX4_pounds_39 rfl (Or.inl ⟨_, rfl, rfl⟩)

set_option maxHeartbeats 4000000 in
set_option maxRecDepth 100000 in
theorem c_X4_isBelowZero (d : tw_D) (g : tw_G) (τ : tw_K) (h : tw_H) (hw : tw_wt d g τ h) (x : Nat) (kx : τ x = 5) : tw_Ct d mX4_isBelowZero 0 0 [.ref x] h (tw_qi (fun r h1 => h1 = h ∧ tw_01 r) tw_nx) := by
  refine tw_of (by decide +kernel) (Nat.le_of_ble_eq_true rfl) ?_
  show tw_W d mX4_isBelowZero _ 0 [(0, .ref x)] [] h 0 0
  have sp0 := tw_sp.rf hw
  refine tw_aload_n 0 dX4_isBelowZero_0 rfl rfl ?_
  obtain ⟨e1, f2, m_3, rfl, k4, k5⟩ := sp0.1 x 5 kx (by decide)
  refine tw_get (v := .ref m_3) rfl in_8 0 dX4_isBelowZero_1 w_496 rfl (by decide) f2 rfl ?_
  refine tw_astore_n [(1, .ref m_3), (0, .ref x)] dX4_isBelowZero_4 rfl (by decide) rfl ?_
  refine tw_aload_n 0 dX4_isBelowZero_5 rfl rfl ?_
  obtain ⟨e6, f7, F8, rfl, pf9⟩ := sp0.1 m_3 7 k4 (by decide)
  refine tw_alen (v := nI 5) 0 rfl dX4_isBelowZero_6 f7 rfl ?_
  refine tw_istore_n [(2, .int (nI 5)), (1, .ref m_3), (0, .ref x)] dX4_isBelowZero_7 rfl (by decide) rfl ?_
  refine tw_iconst (v := 0) dX4_isBelowZero_8 (by decide) ?_
  refine tw_istore_n [(3, .int 0), (2, .int (nI 5)), (1, .ref m_3), (0, .ref x)] dX4_isBelowZero_9 rfl (by decide) rfl ?_
  have L13 : ∀ (r11 k10 : Nat), 5 + 1 ≤ k10 + r11 → k10 ≤ 5 → tw_W d mX4_isBelowZero (tw_qi (fun r h1 => h1 = h ∧ tw_01 r) tw_nx) 10 [(0, .ref x), (1, .ref m_3), (2, .int (nI 5)), (3, .int (nI k10))] [] h 0 0 := by
    intro r11
    induction r11 with
    | zero => intro k10  hk17 hk18; exact absurd hk17 (by omega)
    | succ r11 ih12 =>
      intro k10  hk17 hk18
      refine tw_iload_n 3 dX4_isBelowZero_10 rfl rfl ?_
      refine tw_iload_n 2 dX4_isBelowZero_11 rfl rfl ?_
      refine tw_icmp_ge 33 dX4_isBelowZero_12 (by decide) (fun c19 => ?_) (fun c19 => ?_)
      · refine tw_iconst (v := 0) dX4_isBelowZero_33 (by decide) ?_
        exact tw_zret dX4_isBelowZero_34 rfl rfl (Or.inl ⟨_, rfl, ⟨rfl, (by unfold tw_01; decide)⟩⟩)
      · have kl20 := tw_klt (N := 5) c19 hk18 (by decide)
        refine tw_aload_n 1 dX4_isBelowZero_15 rfl rfl ?_
        refine tw_iload_n 3 dX4_isBelowZero_16 rfl rfl ?_
        obtain ⟨v21, ev21⟩ : ∃ y : Int32, F8 ((nI k10)).toNatClampNeg = y := ⟨_, rfl⟩
        refine tw_iald (v := v21) dX4_isBelowZero_17 f7 (vp_in_nI (by omega) (by decide)) ev21 ?_
        refine tw_istore [(4, .int v21), (0, .ref x), (1, .ref m_3), (2, .int (nI 5)), (3, .int (nI k10))] dX4_isBelowZero_18 (by decide) rfl ?_
        refine tw_iload 0 dX4_isBelowZero_20 rfl ?_
        refine tw_if_ge 27 dX4_isBelowZero_22 (by decide) (fun c22 => ?_) (fun c22 => ?_)
        · obtain ⟨v23, ev23⟩ : ∃ y : Int32, y = (nI k10) + 1 := ⟨_, rfl⟩
          refine tw_iinc [(3, .int v23), (4, .int v21), (0, .ref x), (1, .ref m_3), (2, .int (nI 5))] 4 dX4_isBelowZero_27 rfl (by rw [ev23]; rfl) (by decide) rfl ?_
          refine tw_goto 10 dX4_isBelowZero_30 (by decide) ?_
          have qv23 := tw_nI3 ev23
          rw [qv23]
          refine tw_lv [2, 3, 4, 0] rfl ?_
          exact ih12 (k10 + 1)  (by omega) (by omega)
        · refine tw_iconst (v := 1) dX4_isBelowZero_25 (by decide) ?_
          exact tw_zret dX4_isBelowZero_26 rfl rfl (Or.inl ⟨_, rfl, ⟨rfl, (by unfold tw_01; decide)⟩⟩)
  refine tw_lv [3, 2, 1, 0] rfl ?_
  exact L13 (5 + 1) 0  (by omega) (by omega)

set_option maxHeartbeats 4000000 in
set_option maxRecDepth 100000 in
theorem c2_X3_init (d : tw_D) (g : tw_G) (τ : tw_K) (h : tw_H) (hw : tw_wt d g τ h) (x : Nat) (hz : τ x = 0) (hx : h x = some (.inr (7, [.int 0, .int 0]))) (a : Int32) (b : Int32) : tw_Ct d mX3_init 0 0 [.ref x, .int a, .int b] h (tw_qv (fun h1 => h1 = tw_up h x (.inr (7, [.int a, .int b]))) tw_nx) := by
  refine tw_of (by decide +kernel) (Nat.le_of_ble_eq_true rfl) ?_
  show tw_W d mX3_init _ 0 [(0, .ref x), (1, .int a), (2, .int b)] [] h 0 0
  have sp0 := tw_sp.rm hw x
  refine tw_aload_n 0 dX3_init_0 rfl rfl ?_
  refine tw_objInit dX3_init_1 w_130 w_117 w_118 ⟨by decide, Nat.le_of_ble_eq_true rfl⟩ ?_
  refine tw_aload_n 0 dX3_init_4 rfl rfl ?_
  refine tw_iload_n 1 dX3_init_5 rfl rfl ?_
  refine tw_put rfl in_7 tyX3 tyX3_ok nmX3 0 dX3_init_6 w_131 rfl (by decide) hx rfl rfl rfl rfl (Nat.le_of_ble_eq_true rfl) [.int a, .int 0] rfl ?_
  obtain ⟨h1, eh1⟩ : ∃ z : tw_H, z = tw_up h x (.inr (7, [.int a, .int 0])) := ⟨_, rfl⟩
  rw [← eh1]
  have sp2 : tw_sp d τ (tw_rm h x) g τ h1 := by rw [eh1]; exact sp0.wl tw_rm_s hz
  have f3 : h1 x = some (.inr (7, [.int a, .int 0])) := by rw [eh1]; exact tw_up_s
  refine tw_aload_n 0 dX3_init_9 rfl rfl ?_
  refine tw_iload_n 2 dX3_init_10 rfl rfl ?_
  refine tw_put rfl in_7 tyX3 tyX3_ok nmX3 1 dX3_init_11 w_133 rfl (by decide) f3 rfl rfl rfl rfl (Nat.le_of_ble_eq_true rfl) [.int a, .int b] rfl ?_
  obtain ⟨h4, eh4⟩ : ∃ z : tw_H, z = tw_up h1 x (.inr (7, [.int a, .int b])) := ⟨_, rfl⟩
  rw [← eh4]
  have sp5 : tw_sp d τ (tw_rm h x) g τ h4 := by rw [eh4]; exact sp2.wl tw_rm_s hz
  have f6 : h4 x = some (.inr (7, [.int a, .int b])) := by rw [eh4]; exact tw_up_s
  exact tw_vret dX3_init_14 rfl (Or.inl ⟨rfl, by rw [eh4, eh1]; simp only [tw_up_up]⟩)

set_option maxHeartbeats 4000000 in
set_option maxRecDepth 100000 in
theorem c2_X2_init (d : tw_D) (g : tw_G) (τ : tw_K) (h : tw_H) (hw : tw_wt d g τ h) (x : Nat) (hz : τ x = 0) (hx : h x = some (.inr (6, [.int 0, .null, .null, .null, .int 0]))) (n : Int32) (c : Nat) (p : Nat) : tw_Ct d mX2_init 0 0 [.ref x, .int n, .ref c, .ref p] h (tw_qv (fun h1 => h1 = tw_up h x (.inr (6, [.int n, .ref p, .ref c, .null, .int (-1)]))) tw_nx) := by
  refine tw_of (by decide +kernel) (Nat.le_of_ble_eq_true rfl) ?_
  show tw_W d mX2_init _ 0 [(0, .ref x), (1, .int n), (2, .ref c), (3, .ref p)] [] h 0 0
  have sp0 := tw_sp.rm hw x
  refine tw_aload_n 0 dX2_init_0 rfl rfl ?_
  refine tw_objInit dX2_init_1 w_635 w_117 w_118 ⟨by decide, Nat.le_of_ble_eq_true rfl⟩ ?_
  refine tw_aload_n 0 dX2_init_4 rfl rfl ?_
  refine tw_iload_n 1 dX2_init_5 rfl rfl ?_
  refine tw_putF rfl in_6 tyX2 tyX2_ok nmX2 0 dX2_init_6 w_636 rfl (by decide) hx rfl rfl rfl rfl rfl rfl (Nat.le_of_ble_eq_true rfl) [.int n, .null, .null, .null, .int 0] rfl ?_
  obtain ⟨h1, eh1⟩ : ∃ z : tw_H, z = tw_up h x (.inr (6, [.int n, .null, .null, .null, .int 0])) := ⟨_, rfl⟩
  rw [← eh1]
  have sp2 : tw_sp d τ (tw_rm h x) g τ h1 := by rw [eh1]; exact sp0.wl tw_rm_s hz
  have f3 : h1 x = some (.inr (6, [.int n, .null, .null, .null, .int 0])) := by rw [eh1]; exact tw_up_s
  refine tw_aload_n 0 dX2_init_9 rfl rfl ?_
  refine tw_aload_n 2 dX2_init_10 rfl rfl ?_
  refine tw_put rfl in_6 tyX2 tyX2_ok nmX2 2 dX2_init_11 w_640 rfl (by decide) f3 rfl rfl rfl rfl (Nat.le_of_ble_eq_true rfl) [.int n, .null, .ref c, .null, .int 0] rfl ?_
  obtain ⟨h4, eh4⟩ : ∃ z : tw_H, z = tw_up h1 x (.inr (6, [.int n, .null, .ref c, .null, .int 0])) := ⟨_, rfl⟩
  rw [← eh4]
  have sp5 : tw_sp d τ (tw_rm h x) g τ h4 := by rw [eh4]; exact sp2.wl tw_rm_s hz
  have f6 : h4 x = some (.inr (6, [.int n, .null, .ref c, .null, .int 0])) := by rw [eh4]; exact tw_up_s
  refine tw_aload_n 0 dX2_init_14 rfl rfl ?_
  refine tw_aload_n 3 dX2_init_15 rfl rfl ?_
  refine tw_putF rfl in_6 tyX2 tyX2_ok nmX2 1 dX2_init_16 w_638 rfl (by decide) f6 rfl rfl rfl rfl rfl rfl (Nat.le_of_ble_eq_true rfl) [.int n, .ref p, .ref c, .null, .int 0] rfl ?_
  obtain ⟨h7, eh7⟩ : ∃ z : tw_H, z = tw_up h4 x (.inr (6, [.int n, .ref p, .ref c, .null, .int 0])) := ⟨_, rfl⟩
  rw [← eh7]
  have sp8 : tw_sp d τ (tw_rm h x) g τ h7 := by rw [eh7]; exact sp5.wl tw_rm_s hz
  have f9 : h7 x = some (.inr (6, [.int n, .ref p, .ref c, .null, .int 0])) := by rw [eh7]; exact tw_up_s
  refine tw_aload_n 0 dX2_init_19 rfl rfl ?_
  refine tw_null dX2_init_20 ?_
  refine tw_put rfl in_6 tyX2 tyX2_ok nmX2 3 dX2_init_21 w_642 rfl (by decide) f9 rfl rfl rfl rfl (Nat.le_of_ble_eq_true rfl) [.int n, .ref p, .ref c, .null, .int 0] rfl ?_
  obtain ⟨h10, eh10⟩ : ∃ z : tw_H, z = tw_up h7 x (.inr (6, [.int n, .ref p, .ref c, .null, .int 0])) := ⟨_, rfl⟩
  rw [← eh10]
  have sp11 : tw_sp d τ (tw_rm h x) g τ h10 := by rw [eh10]; exact sp8.wl tw_rm_s hz
  have f12 : h10 x = some (.inr (6, [.int n, .ref p, .ref c, .null, .int 0])) := by rw [eh10]; exact tw_up_s
  refine tw_aload_n 0 dX2_init_24 rfl rfl ?_
  refine tw_iconst (v := -1) dX2_init_25 (by decide) ?_
  refine tw_put rfl in_6 tyX2 tyX2_ok nmX2 4 dX2_init_26 w_644 rfl (by decide) f12 rfl rfl rfl rfl (Nat.le_of_ble_eq_true rfl) [.int n, .ref p, .ref c, .null, .int (-1)] rfl ?_
  obtain ⟨h13, eh13⟩ : ∃ z : tw_H, z = tw_up h10 x (.inr (6, [.int n, .ref p, .ref c, .null, .int (-1)])) := ⟨_, rfl⟩
  rw [← eh13]
  have sp14 : tw_sp d τ (tw_rm h x) g τ h13 := by rw [eh13]; exact sp11.wl tw_rm_s hz
  have f15 : h13 x = some (.inr (6, [.int n, .ref p, .ref c, .null, .int (-1)])) := by rw [eh13]; exact tw_up_s
  exact tw_vret dX2_init_29 rfl (Or.inl ⟨rfl, by rw [eh13, eh10, eh7, eh4, eh1]; simp only [tw_up_up]⟩)

set_option maxHeartbeats 4000000 in
set_option maxRecDepth 100000 in
theorem c2_X1_init (d : tw_D) (g : tw_G) (τ : tw_K) (h : tw_H) (hw : tw_wt d g τ h) (x : Nat) (hz : τ x = 0) (hx : h x = some (.inr (5, [.null, .null, .int 0, .int 0, .int 0]))) (a : Nat) (b : Nat) (v : Int32) (dy : Int32) : tw_Ct d mX1_init 0 0 [.ref x, .ref a, .ref b, .int v, .int dy] h (tw_qv (fun h1 => h1 = tw_up h x (.inr (5, [.ref a, .ref b, .int v, .int dy, .int 0]))) tw_nx) := by
  refine tw_of (by decide +kernel) (Nat.le_of_ble_eq_true rfl) ?_
  show tw_W d mX1_init _ 0 [(0, .ref x), (1, .ref a), (2, .ref b), (3, .int v), (4, .int dy)] [] h 0 0
  have sp0 := tw_sp.rm hw x
  refine tw_aload_n 0 dX1_init_0 rfl rfl ?_
  refine tw_objInit dX1_init_1 w_718 w_117 w_118 ⟨by decide, Nat.le_of_ble_eq_true rfl⟩ ?_
  refine tw_aload_n 0 dX1_init_4 rfl rfl ?_
  refine tw_aload_n 1 dX1_init_5 rfl rfl ?_
  refine tw_putF rfl in_5 tyX1 tyX1_ok nmX1 0 dX1_init_6 w_719 rfl (by decide) hx rfl rfl rfl rfl rfl rfl (Nat.le_of_ble_eq_true rfl) [.ref a, .null, .int 0, .int 0, .int 0] rfl ?_
  obtain ⟨h1, eh1⟩ : ∃ z : tw_H, z = tw_up h x (.inr (5, [.ref a, .null, .int 0, .int 0, .int 0])) := ⟨_, rfl⟩
  rw [← eh1]
  have sp2 : tw_sp d τ (tw_rm h x) g τ h1 := by rw [eh1]; exact sp0.wl tw_rm_s hz
  have f3 : h1 x = some (.inr (5, [.ref a, .null, .int 0, .int 0, .int 0])) := by rw [eh1]; exact tw_up_s
  refine tw_aload_n 0 dX1_init_9 rfl rfl ?_
  refine tw_aload_n 2 dX1_init_10 rfl rfl ?_
  refine tw_putF rfl in_5 tyX1 tyX1_ok nmX1 1 dX1_init_11 w_721 rfl (by decide) f3 rfl rfl rfl rfl rfl rfl (Nat.le_of_ble_eq_true rfl) [.ref a, .ref b, .int 0, .int 0, .int 0] rfl ?_
  obtain ⟨h4, eh4⟩ : ∃ z : tw_H, z = tw_up h1 x (.inr (5, [.ref a, .ref b, .int 0, .int 0, .int 0])) := ⟨_, rfl⟩
  rw [← eh4]
  have sp5 : tw_sp d τ (tw_rm h x) g τ h4 := by rw [eh4]; exact sp2.wl tw_rm_s hz
  have f6 : h4 x = some (.inr (5, [.ref a, .ref b, .int 0, .int 0, .int 0])) := by rw [eh4]; exact tw_up_s
  refine tw_aload_n 0 dX1_init_14 rfl rfl ?_
  refine tw_iload_n 3 dX1_init_15 rfl rfl ?_
  refine tw_putF rfl in_5 tyX1 tyX1_ok nmX1 2 dX1_init_16 w_723 rfl (by decide) f6 rfl rfl rfl rfl rfl rfl (Nat.le_of_ble_eq_true rfl) [.ref a, .ref b, .int v, .int 0, .int 0] rfl ?_
  obtain ⟨h7, eh7⟩ : ∃ z : tw_H, z = tw_up h4 x (.inr (5, [.ref a, .ref b, .int v, .int 0, .int 0])) := ⟨_, rfl⟩
  rw [← eh7]
  have sp8 : tw_sp d τ (tw_rm h x) g τ h7 := by rw [eh7]; exact sp5.wl tw_rm_s hz
  have f9 : h7 x = some (.inr (5, [.ref a, .ref b, .int v, .int 0, .int 0])) := by rw [eh7]; exact tw_up_s
  refine tw_aload_n 0 dX1_init_19 rfl rfl ?_
  refine tw_iload 4 dX1_init_20 rfl ?_
  refine tw_putF rfl in_5 tyX1 tyX1_ok nmX1 3 dX1_init_22 w_725 rfl (by decide) f9 rfl rfl rfl rfl rfl rfl (Nat.le_of_ble_eq_true rfl) [.ref a, .ref b, .int v, .int dy, .int 0] rfl ?_
  obtain ⟨h10, eh10⟩ : ∃ z : tw_H, z = tw_up h7 x (.inr (5, [.ref a, .ref b, .int v, .int dy, .int 0])) := ⟨_, rfl⟩
  rw [← eh10]
  have sp11 : tw_sp d τ (tw_rm h x) g τ h10 := by rw [eh10]; exact sp8.wl tw_rm_s hz
  have f12 : h10 x = some (.inr (5, [.ref a, .ref b, .int v, .int dy, .int 0])) := by rw [eh10]; exact tw_up_s
  refine tw_aload_n 0 dX1_init_25 rfl rfl ?_
  refine tw_iconst (v := 0) dX1_init_26 (by decide) ?_
  refine tw_put rfl in_5 tyX1 tyX1_ok nmX1 4 dX1_init_27 w_727 rfl (by decide) f12 rfl rfl rfl rfl (Nat.le_of_ble_eq_true rfl) [.ref a, .ref b, .int v, .int dy, .int 0] rfl ?_
  obtain ⟨h13, eh13⟩ : ∃ z : tw_H, z = tw_up h10 x (.inr (5, [.ref a, .ref b, .int v, .int dy, .int 0])) := ⟨_, rfl⟩
  rw [← eh13]
  have sp14 : tw_sp d τ (tw_rm h x) g τ h13 := by rw [eh13]; exact sp11.wl tw_rm_s hz
  have f15 : h13 x = some (.inr (5, [.ref a, .ref b, .int v, .int dy, .int 0])) := by rw [eh13]; exact tw_up_s
  exact tw_vret dX1_init_30 rfl (Or.inl ⟨rfl, by rw [eh13, eh10, eh7, eh4, eh1]; simp only [tw_up_up]⟩)

set_option maxHeartbeats 4000000 in
set_option maxRecDepth 100000 in
theorem c2_X4_init (d : tw_D) (g : tw_G) (τ : tw_K) (h : tw_H) (hw : tw_wt d g τ h) (x : Nat) (hz : τ x = 0) (hx : h x = some (.inr (8, [.null]))) : tw_Ct d mX4_init 1 5 [.ref x] h (tw_qv (fun h1 => ∃ (m : Nat), tw_sp d τ (tw_rm h x) g τ h1 ∧ h1 x = some (.inr (8, [.ref m])) ∧ h1 m = some (.inl (d.2 0, 5, .inl (fun _ => 0))) ∧ x ≠ m ∧ tw_rm h x m = none ∧ h m = none ∧ τ m = 0 ∧ ∀ b, b ≠ x → h b ≠ none → h1 b = h b) tw_nx) := by
  refine tw_of (by decide +kernel) (Nat.le_of_ble_eq_true rfl) ?_
  show tw_W d mX4_init _ 0 [(0, .ref x)] [] h 1 5
  have sp0 := tw_sp.rm hw x
  refine tw_aload_n 0 dX4_init_0 rfl rfl ?_
  refine tw_objInit dX4_init_1 w_495 w_117 w_118 ⟨by decide, Nat.le_of_ble_eq_true rfl⟩ ?_
  refine tw_aload_n 0 dX4_init_4 rfl rfl ?_
  refine tw_iconst (v := 5) dX4_init_5 (by decide) ?_
  refine tw_newa (a0 := (5, .inl (fun _ => 0))) 0 rfl dX4_init_6 rfl w_500 (fun _ => rfl) (by decide) (by decide) (by decide) 0 0 (Nat.le_of_ble_eq_true rfl) (Nat.le_of_ble_eq_true rfl) (fun q1 hq2 hA3 => ?_)
  have n4 := sp0.nn hq2
  have z5 := sp0.1.none hq2
  have ne6 := tw_neF hx hq2
  obtain ⟨h7, eh7⟩ : ∃ z : tw_H, z = tw_up h q1 (.inl (d.2 0, 5, .inl (fun _ => 0))) := ⟨_, rfl⟩
  rw [← eh7]
  have sp8 : tw_sp d τ (tw_rm h x) g τ h7 := by rw [eh7]; exact sp0.mk hq2
  have f9 : h7 x = some (.inr (8, [.null])) := by rw [eh7, tw_up_n ne6]; exact hx
  have f10 : h7 q1 = some (.inl (d.2 0, 5, .inl (fun _ => 0))) := by rw [eh7]; exact tw_up_s
  refine tw_putF rfl in_8 tyX4 tyX4_ok nmX4 0 dX4_init_8 w_496 rfl (by decide) f9 rfl rfl rfl rfl rfl rfl (Nat.le_of_ble_eq_true rfl) [.ref q1] rfl ?_
  obtain ⟨h11, eh11⟩ : ∃ z : tw_H, z = tw_up h7 x (.inr (8, [.ref q1])) := ⟨_, rfl⟩
  rw [← eh11]
  have sp12 : tw_sp d τ (tw_rm h x) g τ h11 := by rw [eh11]; exact sp8.wl tw_rm_s hz
  have f13 : h11 q1 = some (.inl (d.2 0, 5, .inl (fun _ => 0))) := by rw [eh11, tw_up_n (Ne.symm ne6)]; exact f10
  have f14 : h11 x = some (.inr (8, [.ref q1])) := by rw [eh11]; exact tw_up_s
  exact tw_vret dX4_init_11 rfl (Or.inl ⟨rfl, q1, sp12, f14, f13, ne6, n4, hq2, z5, fun b n1 n2 => by rw [eh11, tw_up_n n1, eh7, tw_up_n (fun y => n2 (by rw [y]; exact hq2))]⟩)

set_option maxHeartbeats 4000000 in
set_option maxRecDepth 100000 in
theorem c_X0_isOpenFor (d : tw_D) (g : tw_G) (τ : tw_K) (h : tw_H) (hw : tw_wt d g τ h) (x : Nat) (kx : τ x = 2) (m : Int32) : tw_Ct d mX0_isOpenFor 0 0 [.ref x, .int m] h (tw_qi (fun r h1 => h1 = h ∧ tw_01 r) tw_nx) := by
  refine tw_of (by decide +kernel) (Nat.le_of_ble_eq_true rfl) ?_
  show tw_W d mX0_isOpenFor _ 0 [(0, .ref x), (1, .int m)] [] h 0 0
  have sp0 := tw_sp.rf hw
  refine tw_iload_n 1 dX0_isOpenFor_0 rfl rfl ?_
  refine tw_if_ne 11 dX0_isOpenFor_1 (by decide) (fun c1 => ?_) (fun c1 => ?_)
  · refine tw_aload_n 0 dX0_isOpenFor_11 rfl rfl ?_
    obtain ⟨e2, f3, n_4, r_5, c_6, go_7, so_8, v_9, rd_10, rf_11, t_12, rfl, k13, k14, k15, k16, k17, k18, k19, k20, k21⟩ := sp0.1 x 2 kx (by decide)
    refine tw_get (v := .int so_8) rfl in_4 5 dX0_isOpenFor_12 w_510 rfl (by decide) f3 rfl ?_
    exact tw_zret dX0_isOpenFor_15 rfl (tw_nar01 k18) (Or.inl ⟨_, rfl, ⟨rfl, k18⟩⟩)
  · refine tw_aload_n 0 dX0_isOpenFor_4 rfl rfl ?_
    obtain ⟨e22, f23, n_24, r_25, c_26, go_27, so_28, v_29, rd_30, rf_31, t_32, rfl, k33, k34, k35, k36, k37, k38, k39, k40, k41⟩ := sp0.1 x 2 kx (by decide)
    refine tw_get (v := .int go_27) rfl in_4 4 dX0_isOpenFor_5 w_509 rfl (by decide) f23 rfl ?_
    refine tw_goto 15 dX0_isOpenFor_8 (by decide) ?_
    exact tw_zret dX0_isOpenFor_15 rfl (tw_nar01 k37) (Or.inl ⟨_, rfl, ⟨rfl, k37⟩⟩)

set_option maxHeartbeats 4000000 in
set_option maxRecDepth 100000 in
theorem c_X0_openSet (d : tw_D) (g : tw_G) (τ : tw_K) (h : tw_H) (hw : tw_wt d g τ h) (x : Nat) (kx : τ x = 2) : tw_Ct d mX0_openSet 0 0 [.ref x] h (tw_qi (fun r h1 => h1 = h) tw_nx) := by
  refine tw_of (by decide +kernel) (Nat.le_of_ble_eq_true rfl) ?_
  show tw_W d mX0_openSet _ 0 [(0, .ref x)] [] h 0 0
  have sp0 := tw_sp.rf hw
  refine tw_aload_n 0 dX0_openSet_0 rfl rfl ?_
  obtain ⟨e1, f2, n_3, r_4, c_5, go_6, so_7, v_8, rd_9, rf_10, t_11, rfl, k12, k13, k14, k15, k16, k17, k18, k19, k20⟩ := sp0.1 x 2 kx (by decide)
  refine tw_get (v := .int go_6) rfl in_4 4 dX0_openSet_1 w_509 rfl (by decide) f2 rfl ?_
  refine tw_if_eq 11 dX0_openSet_4 (by decide) (fun c21 => ?_) (fun c21 => ?_)
  · refine tw_iconst (v := 0) dX0_openSet_11 (by decide) ?_
    refine tw_aload_n 0 dX0_openSet_12 rfl rfl ?_
    refine tw_get (v := .int so_7) rfl in_4 5 dX0_openSet_13 w_510 rfl (by decide) f2 rfl ?_
    refine tw_if_eq 23 dX0_openSet_16 (by decide) (fun c22 => ?_) (fun c22 => ?_)
    · refine tw_iconst (v := 0) dX0_openSet_23 (by decide) ?_
      refine tw_iadd dX0_openSet_24 ?_
      refine tw_nmi (fun v23 ev23 => ?_)
      exact tw_iret dX0_openSet_25 rfl (Or.inl ⟨_, rfl, rfl⟩)
    · refine tw_iconst (v := 2) dX0_openSet_19 (by decide) ?_
      refine tw_goto 24 dX0_openSet_20 (by decide) ?_
      refine tw_iadd dX0_openSet_24 ?_
      refine tw_nmi (fun v24 ev24 => ?_)
      exact tw_iret dX0_openSet_25 rfl (Or.inl ⟨_, rfl, rfl⟩)
  · refine tw_iconst (v := 1) dX0_openSet_7 (by decide) ?_
    refine tw_goto 12 dX0_openSet_8 (by decide) ?_
    refine tw_aload_n 0 dX0_openSet_12 rfl rfl ?_
    refine tw_get (v := .int so_7) rfl in_4 5 dX0_openSet_13 w_510 rfl (by decide) f2 rfl ?_
    refine tw_if_eq 23 dX0_openSet_16 (by decide) (fun c25 => ?_) (fun c25 => ?_)
    · refine tw_iconst (v := 0) dX0_openSet_23 (by decide) ?_
      refine tw_iadd dX0_openSet_24 ?_
      refine tw_nmi (fun v26 ev26 => ?_)
      exact tw_iret dX0_openSet_25 rfl (Or.inl ⟨_, rfl, rfl⟩)
    · refine tw_iconst (v := 2) dX0_openSet_19 (by decide) ?_
      refine tw_goto 24 dX0_openSet_20 (by decide) ?_
      refine tw_iadd dX0_openSet_24 ?_
      refine tw_nmi (fun v27 ev27 => ?_)
      exact tw_iret dX0_openSet_25 rfl (Or.inl ⟨_, rfl, rfl⟩)

set_option maxHeartbeats 4000000 in
set_option maxRecDepth 100000 in
theorem c_X0_silverFor (d : tw_D) (g : tw_G) (τ : tw_K) (h : tw_H) (hw : tw_wt d g τ h) (x : Nat) (kx : τ x = 2) (a : Int32) : tw_Ct d mX0_silverFor 0 0 [.ref x, .int a] h (tw_qi (fun r h1 => h1 = h) tw_nx) := by
  refine tw_of (by decide +kernel) (Nat.le_of_ble_eq_true rfl) ?_
  show tw_W d mX0_silverFor _ 0 [(0, .ref x), (1, .int a)] [] h 0 0
  have sp0 := tw_sp.rf hw
  refine tw_iload_n 1 dX0_silverFor_0 rfl rfl ?_
  refine tw_i2l dX0_silverFor_1 ?_
  refine tw_nml (fun v1 ev1 => ?_)
  refine tw_aload_n 0 dX0_silverFor_2 rfl rfl ?_
  obtain ⟨e2, f3, n_4, r_5, c_6, go_7, so_8, v_9, rd_10, rf_11, t_12, rfl, k13, k14, k15, k16, k17, k18, k19, k20, k21⟩ := sp0.1 x 2 kx (by decide)
  refine tw_get (v := .int r_5) rfl in_4 1 dX0_silverFor_3 w_503 rfl (by decide) f3 rfl ?_
  refine tw_i2l dX0_silverFor_6 ?_
  refine tw_nml (fun v22 ev22 => ?_)
  refine tw_lmul dX0_silverFor_7 ?_
  refine tw_nml (fun v23 ev23 => ?_)
  refine tw_ldc2 (v := 10) dX0_silverFor_8 w_307 ?_
  refine tw_ldiv dX0_silverFor_11 (by decide) ?_
  refine tw_nml (fun v24 ev24 => ?_)
  refine tw_l2i dX0_silverFor_12 ?_
  refine tw_nmi (fun v25 ev25 => ?_)
  exact tw_iret dX0_silverFor_13 rfl (Or.inl ⟨_, rfl, rfl⟩)

set_option maxHeartbeats 4000000 in
set_option maxRecDepth 100000 in
theorem c_X0_goldOf (d : tw_D) (g : tw_G) (τ : tw_K) (h : tw_H) (hw : tw_wt d g τ h) (x : Nat) (kx : τ x = 2) (a : Int32) : tw_Ct d mX0_goldOf 0 0 [.ref x, .int a] h (tw_qi (fun r h1 => h1 = h) tw_nx) := by
  refine tw_of (by decide +kernel) (Nat.le_of_ble_eq_true rfl) ?_
  show tw_W d mX0_goldOf _ 0 [(0, .ref x), (1, .int a)] [] h 0 0
  have sp0 := tw_sp.rf hw
  refine tw_aload_n 0 dX0_goldOf_0 rfl rfl ?_
  obtain ⟨e1, f2, n_3, r_4, c_5, go_6, so_7, v_8, rd_9, rf_10, t_11, rfl, k12, k13, k14, k15, k16, k17, k18, k19, k20⟩ := sp0.1 x 2 kx (by decide)
  refine tw_get (v := .int r_4) rfl in_4 1 dX0_goldOf_1 w_503 rfl (by decide) f2 rfl ?_
  refine tw_iconst (v := 1) dX0_goldOf_4 (by decide) ?_
  refine tw_icmp_ge 12 dX0_goldOf_5 (by decide) (fun c21 => ?_) (fun c21 => ?_)
  · refine tw_iload_n 1 dX0_goldOf_12 rfl rfl ?_
    refine tw_i2l dX0_goldOf_13 ?_
    refine tw_nml (fun v22 ev22 => ?_)
    refine tw_ldc2 (v := 10) dX0_goldOf_14 w_307 ?_
    refine tw_lmul dX0_goldOf_17 ?_
    refine tw_nml (fun v23 ev23 => ?_)
    refine tw_aload_n 0 dX0_goldOf_18 rfl rfl ?_
    refine tw_get (v := .int r_4) rfl in_4 1 dX0_goldOf_19 w_503 rfl (by decide) f2 rfl ?_
    refine tw_i2l dX0_goldOf_22 ?_
    refine tw_nml (fun v24 ev24 => ?_)
    refine tw_ldiv dX0_goldOf_23 (tw_nzl ev24 c21) ?_
    refine tw_nml (fun v25 ev25 => ?_)
    refine tw_l2i dX0_goldOf_24 ?_
    refine tw_nmi (fun v26 ev26 => ?_)
    exact tw_iret dX0_goldOf_25 rfl (Or.inl ⟨_, rfl, rfl⟩)
  · refine tw_iconst (v := 0) dX0_goldOf_8 (by decide) ?_
    refine tw_goto 25 dX0_goldOf_9 (by decide) ?_
    exact tw_iret dX0_goldOf_25 rfl (Or.inl ⟨_, rfl, rfl⟩)

set_option maxHeartbeats 4000000 in
set_option maxRecDepth 100000 in
theorem c_X0_goldFor (d : tw_D) (g : tw_G) (τ : tw_K) (h : tw_H) (hw : tw_wt d g τ h) (x : Nat) (kx : τ x = 2) (a : Int32) : tw_Ct d mX0_goldFor 0 0 [.ref x, .int a] h (tw_qi (fun r h1 => h1 = h) tw_nx) := by
  refine tw_of (by decide +kernel) (Nat.le_of_ble_eq_true rfl) ?_
  show tw_W d mX0_goldFor _ 0 [(0, .ref x), (1, .int a)] [] h 0 0
  have sp0 := tw_sp.rf hw
  refine tw_aload_n 0 dX0_goldFor_0 rfl rfl ?_
  obtain ⟨e1, f2, n_3, r_4, c_5, go_6, so_7, v_8, rd_9, rf_10, t_11, rfl, k12, k13, k14, k15, k16, k17, k18, k19, k20⟩ := sp0.1 x 2 kx (by decide)
  refine tw_get (v := .int r_4) rfl in_4 1 dX0_goldFor_1 w_503 rfl (by decide) f2 rfl ?_
  refine tw_iconst (v := 1) dX0_goldFor_4 (by decide) ?_
  refine tw_icmp_ge 12 dX0_goldFor_5 (by decide) (fun c21 => ?_) (fun c21 => ?_)
  · refine tw_iload_n 1 dX0_goldFor_12 rfl rfl ?_
    refine tw_i2l dX0_goldFor_13 ?_
    refine tw_nml (fun v22 ev22 => ?_)
    refine tw_ldc2 (v := 10) dX0_goldFor_14 w_307 ?_
    refine tw_lmul dX0_goldFor_17 ?_
    refine tw_nml (fun v23 ev23 => ?_)
    refine tw_aload_n 0 dX0_goldFor_18 rfl rfl ?_
    refine tw_get (v := .int r_4) rfl in_4 1 dX0_goldFor_19 w_503 rfl (by decide) f2 rfl ?_
    refine tw_i2l dX0_goldFor_22 ?_
    refine tw_nml (fun v24 ev24 => ?_)
    refine tw_ladd dX0_goldFor_23 ?_
    refine tw_nml (fun v25 ev25 => ?_)
    refine tw_lconst (v := 1) dX0_goldFor_24 (by decide) ?_
    refine tw_lsub dX0_goldFor_25 ?_
    refine tw_nml (fun v26 ev26 => ?_)
    refine tw_aload_n 0 dX0_goldFor_26 rfl rfl ?_
    refine tw_get (v := .int r_4) rfl in_4 1 dX0_goldFor_27 w_503 rfl (by decide) f2 rfl ?_
    refine tw_i2l dX0_goldFor_30 ?_
    refine tw_nml (fun v27 ev27 => ?_)
    refine tw_ldiv dX0_goldFor_31 (tw_nzl ev27 c21) ?_
    refine tw_nml (fun v28 ev28 => ?_)
    refine tw_l2i dX0_goldFor_32 ?_
    refine tw_nmi (fun v29 ev29 => ?_)
    exact tw_iret dX0_goldFor_33 rfl (Or.inl ⟨_, rfl, rfl⟩)
  · refine tw_iconst (v := 0) dX0_goldFor_8 (by decide) ?_
    refine tw_goto 33 dX0_goldFor_9 (by decide) ?_
    exact tw_iret dX0_goldFor_33 rfl (Or.inl ⟨_, rfl, rfl⟩)

set_option maxHeartbeats 4000000 in
set_option maxRecDepth 100000 in
theorem c_X0_minted (d : tw_D) (g : tw_G) (τ : tw_K) (h : tw_H) (hw : tw_wt d g τ h) (x : Nat) (kx : τ x = 2) (m : Int32) (a : Int32) : tw_Ct d mX0_minted 0 0 [.ref x, .int m, .int a] h (tw_qi (fun r h1 => h1 = h) tw_nx) := by
  refine tw_of (by decide +kernel) (Nat.le_of_ble_eq_true rfl) ?_
  show tw_W d mX0_minted _ 0 [(0, .ref x), (1, .int m), (2, .int a)] [] h 0 0
  have sp0 := tw_sp.rf hw
  refine tw_iload_n 1 dX0_minted_0 rfl rfl ?_
  refine tw_if_ne 12 dX0_minted_1 (by decide) (fun c1 => ?_) (fun c1 => ?_)
  · refine tw_aload_n 0 dX0_minted_12 rfl rfl ?_
    refine tw_iload_n 2 dX0_minted_13 rfl rfl ?_
    obtain ⟨e2, f3, n_4, r_5, c_6, go_7, so_8, v_9, rd_10, rf_11, t_12, rfl, k13, k14, k15, k16, k17, k18, k19, k20, k21⟩ := sp0.1 x 2 kx (by decide)
    refine tw_bi (tw_callV (M := mX0_minted) (pc := 14) okX0_goldOf dX0_minted_14 w_308 rfl f3 [.int a] [] rfl rfl ⟨by decide, by decide⟩ (Nat.le_of_ble_eq_true rfl) (c_X0_goldOf d g τ h sp0.1 x kx a) 0 0 (Nat.le_of_ble_eq_true rfl) (Nat.le_of_ble_eq_true rfl)) (fun r24 h23 q22 => ?_) (fun E h1 q => q.elim)
    rw [q22]
    refine tw_istore_n [(3, .int r24), (0, .ref x), (1, .int m), (2, .int a)] dX0_minted_17 rfl (by decide) rfl ?_
    refine tw_iload_n 0 dX0_minted_18 rfl rfl ?_
    refine tw_iload_n 0 dX0_minted_19 rfl rfl ?_
    refine tw_aload_n 1 dX0_minted_20 rfl rfl ?_
    refine tw_get (v := .int c_6) rfl in_4 2 dX0_minted_21 w_505 rfl (by decide) f3 rfl ?_
    refine tw_bi (tw_callSN (M := mX0_minted) (pc := 24) okX5_thousandthsRoundedUp dX0_minted_24 w_312 [.int r24, .int c_6] [.int r24] rfl rfl ⟨by decide, by decide⟩ (Nat.le_of_ble_eq_true rfl) (c_X5_thousandthsRoundedUp d g τ h sp0.1 r24 c_6) 0 0 (Nat.le_of_ble_eq_true rfl) (Nat.le_of_ble_eq_true rfl)) (fun r27 h26 q25 => ?_) (fun E h1 q => q.elim)
    rw [q25]
    refine tw_isub dX0_minted_27 ?_
    refine tw_nmi (fun v28 ev28 => ?_)
    exact tw_iret dX0_minted_28 rfl (Or.inl ⟨_, rfl, rfl⟩)
  · refine tw_aload_n 0 dX0_minted_4 rfl rfl ?_
    refine tw_iload_n 2 dX0_minted_5 rfl rfl ?_
    obtain ⟨e29, f30, n_31, r_32, c_33, go_34, so_35, v_36, rd_37, rf_38, t_39, rfl, k40, k41, k42, k43, k44, k45, k46, k47, k48⟩ := sp0.1 x 2 kx (by decide)
    refine tw_bi (tw_callV (M := mX0_minted) (pc := 6) okX0_silverFor dX0_minted_6 w_303 rfl f30 [.int a] [] rfl rfl ⟨by decide, by decide⟩ (Nat.le_of_ble_eq_true rfl) (c_X0_silverFor d g τ h sp0.1 x kx a) 0 0 (Nat.le_of_ble_eq_true rfl) (Nat.le_of_ble_eq_true rfl)) (fun r51 h50 q49 => ?_) (fun E h1 q => q.elim)
    rw [q49]
    refine tw_goto 17 dX0_minted_9 (by decide) ?_
    refine tw_istore_n [(3, .int r51), (0, .ref x), (1, .int m), (2, .int a)] dX0_minted_17 rfl (by decide) rfl ?_
    refine tw_iload_n 0 dX0_minted_18 rfl rfl ?_
    refine tw_iload_n 0 dX0_minted_19 rfl rfl ?_
    refine tw_aload_n 1 dX0_minted_20 rfl rfl ?_
    refine tw_get (v := .int c_33) rfl in_4 2 dX0_minted_21 w_505 rfl (by decide) f30 rfl ?_
    refine tw_bi (tw_callSN (M := mX0_minted) (pc := 24) okX5_thousandthsRoundedUp dX0_minted_24 w_312 [.int r51, .int c_33] [.int r51] rfl rfl ⟨by decide, by decide⟩ (Nat.le_of_ble_eq_true rfl) (c_X5_thousandthsRoundedUp d g τ h sp0.1 r51 c_33) 0 0 (Nat.le_of_ble_eq_true rfl) (Nat.le_of_ble_eq_true rfl)) (fun r54 h53 q52 => ?_) (fun E h1 q => q.elim)
    rw [q52]
    refine tw_isub dX0_minted_27 ?_
    refine tw_nmi (fun v55 ev55 => ?_)
    exact tw_iret dX0_minted_28 rfl (Or.inl ⟨_, rfl, rfl⟩)

set_option maxHeartbeats 4000000 in
set_option maxRecDepth 100000 in
theorem c_X0_daysTo (d : tw_D) (g : tw_G) (τ : tw_K) (h : tw_H) (hw : tw_wt d g τ h) (x : Nat) (kx : τ x = 2) (k : Int32) : tw_Ct d mX0_daysTo 0 0 [.ref x, .int k] h (tw_qi (fun r h1 => h1 = h) tw_nx) := by
  refine tw_of (by decide +kernel) (Nat.le_of_ble_eq_true rfl) ?_
  show tw_W d mX0_daysTo _ 0 [(0, .ref x), (1, .int k)] [] h 0 0
  have sp0 := tw_sp.rf hw
  refine tw_iload_n 1 dX0_daysTo_0 rfl rfl ?_
  refine tw_if_lt 22 dX0_daysTo_1 (by decide) (fun c1 => ?_) (fun c1 => ?_)
  · refine tw_iconst (v := 3) dX0_daysTo_22 (by decide) ?_
    exact tw_iret dX0_daysTo_23 rfl (Or.inl ⟨_, rfl, rfl⟩)
  · refine tw_iload_n 1 dX0_daysTo_4 rfl rfl ?_
    refine tw_aload_n 0 dX0_daysTo_5 rfl rfl ?_
    obtain ⟨e2, f3, n_4, r_5, c_6, go_7, so_8, v_9, rd_10, rf_11, t_12, rfl, k13, k14, k15, k16, k17, k18, k19, k20, k21⟩ := sp0.1 x 2 kx (by decide)
    refine tw_get (v := .ref rd_10) rfl in_4 6 dX0_daysTo_6 w_511 rfl (by decide) f3 rfl ?_
    obtain ⟨e22, f23, F24, rfl, pf25⟩ := sp0.1 rd_10 6 k14 (by decide)
    refine tw_alen (v := nI 4) 0 rfl dX0_daysTo_9 f23 rfl ?_
    refine tw_icmp_ge 22 dX0_daysTo_10 (by decide) (fun c26 => ?_) (fun c26 => ?_)
    · refine tw_iconst (v := 3) dX0_daysTo_22 (by decide) ?_
      exact tw_iret dX0_daysTo_23 rfl (Or.inl ⟨_, rfl, rfl⟩)
    · refine tw_aload_n 0 dX0_daysTo_13 rfl rfl ?_
      refine tw_get (v := .ref rd_10) rfl in_4 6 dX0_daysTo_14 w_511 rfl (by decide) f3 rfl ?_
      refine tw_iload_n 1 dX0_daysTo_17 rfl rfl ?_
      obtain ⟨v27, ev27⟩ : ∃ y : Int32, F24 (k).toNatClampNeg = y := ⟨_, rfl⟩
      refine tw_iald (v := v27) dX0_daysTo_18 f23 (tw_ib2 c1 c26 (by decide)) ev27 ?_
      refine tw_goto 23 dX0_daysTo_19 (by decide) ?_
      exact tw_iret dX0_daysTo_23 rfl (Or.inl ⟨_, rfl, rfl⟩)

set_option maxHeartbeats 4000000 in
set_option maxRecDepth 100000 in
theorem c_X0_freightTo (d : tw_D) (g : tw_G) (τ : tw_K) (h : tw_H) (hw : tw_wt d g τ h) (x : Nat) (kx : τ x = 2) (k : Int32) : tw_Ct d mX0_freightTo 0 0 [.ref x, .int k] h (tw_qi (fun r h1 => h1 = h) tw_nx) := by
  refine tw_of (by decide +kernel) (Nat.le_of_ble_eq_true rfl) ?_
  show tw_W d mX0_freightTo _ 0 [(0, .ref x), (1, .int k)] [] h 0 0
  have sp0 := tw_sp.rf hw
  refine tw_iload_n 1 dX0_freightTo_0 rfl rfl ?_
  refine tw_if_lt 22 dX0_freightTo_1 (by decide) (fun c1 => ?_) (fun c1 => ?_)
  · refine tw_bipush (v := 10) dX0_freightTo_22 (by decide) ?_
    exact tw_iret dX0_freightTo_24 rfl (Or.inl ⟨_, rfl, rfl⟩)
  · refine tw_iload_n 1 dX0_freightTo_4 rfl rfl ?_
    refine tw_aload_n 0 dX0_freightTo_5 rfl rfl ?_
    obtain ⟨e2, f3, n_4, r_5, c_6, go_7, so_8, v_9, rd_10, rf_11, t_12, rfl, k13, k14, k15, k16, k17, k18, k19, k20, k21⟩ := sp0.1 x 2 kx (by decide)
    refine tw_get (v := .ref rf_11) rfl in_4 7 dX0_freightTo_6 w_512 rfl (by decide) f3 rfl ?_
    obtain ⟨e22, f23, F24, rfl, pf25⟩ := sp0.1 rf_11 6 k15 (by decide)
    refine tw_alen (v := nI 4) 0 rfl dX0_freightTo_9 f23 rfl ?_
    refine tw_icmp_ge 22 dX0_freightTo_10 (by decide) (fun c26 => ?_) (fun c26 => ?_)
    · refine tw_bipush (v := 10) dX0_freightTo_22 (by decide) ?_
      exact tw_iret dX0_freightTo_24 rfl (Or.inl ⟨_, rfl, rfl⟩)
    · refine tw_aload_n 0 dX0_freightTo_13 rfl rfl ?_
      refine tw_get (v := .ref rf_11) rfl in_4 7 dX0_freightTo_14 w_512 rfl (by decide) f3 rfl ?_
      refine tw_iload_n 1 dX0_freightTo_17 rfl rfl ?_
      obtain ⟨v27, ev27⟩ : ∃ y : Int32, F24 (k).toNatClampNeg = y := ⟨_, rfl⟩
      refine tw_iald (v := v27) dX0_freightTo_18 f23 (tw_ib2 c1 c26 (by decide)) ev27 ?_
      refine tw_goto 24 dX0_freightTo_19 (by decide) ?_
      exact tw_iret dX0_freightTo_24 rfl (Or.inl ⟨_, rfl, rfl⟩)

set_option maxHeartbeats 4000000 in
set_option maxRecDepth 100000 in
theorem c_X2_isLateOn (d : tw_D) (g : tw_G) (τ : tw_K) (h : tw_H) (hw : tw_wt d g τ h) (x : Nat) (kx : τ x = 3) (dy : Int32) : tw_Ct d mX2_isLateOn 0 0 [.ref x, .int dy] h (tw_qi (fun r h1 => h1 = h ∧ tw_01 r) tw_nx) := by
  refine tw_of (by decide +kernel) (Nat.le_of_ble_eq_true rfl) ?_
  show tw_W d mX2_isLateOn _ 0 [(0, .ref x), (1, .int dy)] [] h 0 0
  have sp0 := tw_sp.rf hw
  refine tw_aload_n 0 dX2_isLateOn_0 rfl rfl ?_
  obtain ⟨e1, f2, n_3, ar_4, p_5, pl_6, go_7, rfl, k8, k9, k10, k11⟩ := sp0.1 x 3 kx (by decide)
  cases go_7 with
  | none =>
    refine tw_get (v := .null) rfl in_6 3 dX2_isLateOn_1 w_642 rfl (by decide) f2 rfl ?_
    refine tw_ifnullN 19 dX2_isLateOn_4 (by decide) ?_
    refine tw_iconst (v := 0) dX2_isLateOn_19 (by decide) ?_
    exact tw_zret dX2_isLateOn_20 rfl rfl (Or.inl ⟨_, rfl, ⟨rfl, (by unfold tw_01; decide)⟩⟩)
  | some q12 =>
    refine tw_get (v := .ref q12) rfl in_6 3 dX2_isLateOn_1 w_642 rfl (by decide) f2 rfl ?_
    refine tw_ifnull dX2_isLateOn_4 ?_
    refine tw_aload_n 0 dX2_isLateOn_7 rfl rfl ?_
    refine tw_get (v := .int ar_4) rfl in_6 4 dX2_isLateOn_8 w_644 rfl (by decide) f2 rfl ?_
    refine tw_iload_n 1 dX2_isLateOn_11 rfl rfl ?_
    refine tw_icmp_gt 19 dX2_isLateOn_12 (by decide) (fun c13 => ?_) (fun c13 => ?_)
    · refine tw_iconst (v := 0) dX2_isLateOn_19 (by decide) ?_
      exact tw_zret dX2_isLateOn_20 rfl rfl (Or.inl ⟨_, rfl, ⟨rfl, (by unfold tw_01; decide)⟩⟩)
    · refine tw_iconst (v := 1) dX2_isLateOn_15 (by decide) ?_
      refine tw_goto 20 dX2_isLateOn_16 (by decide) ?_
      exact tw_zret dX2_isLateOn_20 rfl rfl (Or.inl ⟨_, rfl, ⟨rfl, (by unfold tw_01; decide)⟩⟩)

set_option maxHeartbeats 4000000 in
set_option maxRecDepth 100000 in
theorem c_X1_dueOn (d : tw_D) (g : tw_G) (τ : tw_K) (h : tw_H) (hw : tw_wt d g τ h) (x : Nat) (kx : τ x = 4) (dy : Int32) : tw_Ct d mX1_dueOn 0 0 [.ref x, .int dy] h (tw_qi (fun r h1 => h1 = h) tw_nx) := by
  refine tw_of (by decide +kernel) (Nat.le_of_ble_eq_true rfl) ?_
  show tw_W d mX1_dueOn _ 0 [(0, .ref x), (1, .int dy)] [] h 0 0
  have sp0 := tw_sp.rf hw
  refine tw_iload_n 1 dX1_dueOn_0 rfl rfl ?_
  refine tw_aload_n 0 dX1_dueOn_1 rfl rfl ?_
  obtain ⟨e1, f2, v_3, dy_4, pd_5, a_6, b_7, rfl, k8, k9, k10, k11⟩ := sp0.1 x 4 kx (by decide)
  refine tw_get (v := .int dy_4) rfl in_5 3 dX1_dueOn_2 w_725 rfl (by decide) f2 rfl ?_
  refine tw_icmp_le 20 dX1_dueOn_5 (by decide) (fun c12 => ?_) (fun c12 => ?_)
  · refine tw_iconst (v := 0) dX1_dueOn_20 (by decide) ?_
    refine tw_istore_n [(2, .int 0), (0, .ref x), (1, .int dy)] dX1_dueOn_21 rfl (by decide) rfl ?_
    refine tw_aload_n 1 dX1_dueOn_22 rfl rfl ?_
    refine tw_get (v := .int v_3) rfl in_5 2 dX1_dueOn_23 w_723 rfl (by decide) f2 rfl ?_
    refine tw_aload_n 1 dX1_dueOn_26 rfl rfl ?_
    refine tw_get (v := .int v_3) rfl in_5 2 dX1_dueOn_27 w_723 rfl (by decide) f2 rfl ?_
    refine tw_bipush (v := 100) dX1_dueOn_30 (by decide) ?_
    refine tw_idiv dX1_dueOn_32 (by decide) ?_
    refine tw_nmi (fun v13 ev13 => ?_)
    refine tw_iload_n 0 dX1_dueOn_33 rfl rfl ?_
    refine tw_imul dX1_dueOn_34 ?_
    refine tw_nmi (fun v14 ev14 => ?_)
    refine tw_iadd dX1_dueOn_35 ?_
    refine tw_nmi (fun v15 ev15 => ?_)
    exact tw_iret dX1_dueOn_36 rfl (Or.inl ⟨_, rfl, rfl⟩)
  · refine tw_iload_n 1 dX1_dueOn_8 rfl rfl ?_
    refine tw_aload_n 0 dX1_dueOn_9 rfl rfl ?_
    refine tw_get (v := .int dy_4) rfl in_5 3 dX1_dueOn_10 w_725 rfl (by decide) f2 rfl ?_
    refine tw_isub dX1_dueOn_13 ?_
    refine tw_nmi (fun v16 ev16 => ?_)
    refine tw_bipush (v := 10) dX1_dueOn_14 (by decide) ?_
    refine tw_idiv dX1_dueOn_16 (by decide) ?_
    refine tw_nmi (fun v17 ev17 => ?_)
    refine tw_goto 21 dX1_dueOn_17 (by decide) ?_
    refine tw_istore_n [(2, .int v17), (0, .ref x), (1, .int dy)] dX1_dueOn_21 rfl (by decide) rfl ?_
    refine tw_aload_n 1 dX1_dueOn_22 rfl rfl ?_
    refine tw_get (v := .int v_3) rfl in_5 2 dX1_dueOn_23 w_723 rfl (by decide) f2 rfl ?_
    refine tw_aload_n 1 dX1_dueOn_26 rfl rfl ?_
    refine tw_get (v := .int v_3) rfl in_5 2 dX1_dueOn_27 w_723 rfl (by decide) f2 rfl ?_
    refine tw_bipush (v := 100) dX1_dueOn_30 (by decide) ?_
    refine tw_idiv dX1_dueOn_32 (by decide) ?_
    refine tw_nmi (fun v18 ev18 => ?_)
    refine tw_iload_n 0 dX1_dueOn_33 rfl rfl ?_
    refine tw_imul dX1_dueOn_34 ?_
    refine tw_nmi (fun v19 ev19 => ?_)
    refine tw_iadd dX1_dueOn_35 ?_
    refine tw_nmi (fun v20 ev20 => ?_)
    exact tw_iret dX1_dueOn_36 rfl (Or.inl ⟨_, rfl, rfl⟩)

/-! the class's small methods over the typed heap. Laid by wip/p5/mkclass.py. -/
set_option maxHeartbeats 4000000 in
set_option maxRecDepth 100000 in
theorem c_X5_needRange (d : tw_D) (g : tw_G) (τ : tw_K) (h : tw_H) (hw : tw_wt d g τ h) (v : Int32) (lo : Int32) (hi : Int32) : tw_Ct d mX5_needRange 1 6 [.int v, .int lo, .int hi] h (tw_qv (fun h1 => h1 = h ∧ lo ≤ v ∧ v ≤ hi) (fun E h1 => (E = tw_IAE) ∧ h1 = h)) := by
  refine tw_of (by decide +kernel) (Nat.le_of_ble_eq_true rfl) ?_
  show tw_W d mX5_needRange _ 0 [(0, .int v), (1, .int lo), (2, .int hi)] [] h 1 6
  have sp0 := tw_sp.rf hw
  refine tw_iload_n 0 dX5_needRange_0 rfl rfl ?_
  refine tw_iload_n 1 dX5_needRange_1 rfl rfl ?_
  refine tw_icmp_lt 10 dX5_needRange_2 (by decide) (fun c1 => ?_) (fun c1 => ?_)
  · exact tw_throwSW (i := 0) (by decide +kernel) w_402 w_87 rfl at_IAE dX5_needRange_10 dX5_needRange_13 dX5_needRange_14 dX5_needRange_17 dX5_needRange_20 ⟨by decide, Nat.le_of_ble_eq_true rfl⟩ (by omega) (by omega) (Or.inr ⟨_, rfl, (rfl), rfl⟩)
  · refine tw_iload_n 0 dX5_needRange_5 rfl rfl ?_
    refine tw_iload_n 2 dX5_needRange_6 rfl rfl ?_
    refine tw_icmp_le 21 dX5_needRange_7 (by decide) (fun c2 => ?_) (fun c2 => ?_)
    · exact tw_vret dX5_needRange_21 rfl (Or.inl ⟨rfl, ⟨rfl, (Int32.not_lt.mp c1), c2⟩⟩)
    · exact tw_throwSW (i := 0) (by decide +kernel) w_402 w_87 rfl at_IAE dX5_needRange_10 dX5_needRange_13 dX5_needRange_14 dX5_needRange_17 dX5_needRange_20 ⟨by decide, Nat.le_of_ble_eq_true rfl⟩ (by omega) (by omega) (Or.inr ⟨_, rfl, (rfl), rfl⟩)

set_option maxHeartbeats 4000000 in
set_option maxRecDepth 100000 in
theorem c_X5_needMetal (d : tw_D) (g : tw_G) (τ : tw_K) (h : tw_H) (hw : tw_wt d g τ h) (m : Int32) : tw_Ct d mX5_needMetal 1 6 [.int m] h (tw_qv (fun h1 => h1 = h ∧ (m = 0 ∨ m = 1)) (fun E h1 => (E = tw_IAE) ∧ h1 = h)) := by
  refine tw_of (by decide +kernel) (Nat.le_of_ble_eq_true rfl) ?_
  show tw_W d mX5_needMetal _ 0 [(0, .int m)] [] h 1 6
  have sp0 := tw_sp.rf hw
  refine tw_iload_n 0 dX5_needMetal_0 rfl rfl ?_
  refine tw_if_eq 20 dX5_needMetal_1 (by decide) (fun c1 => ?_) (fun c1 => ?_)
  · exact tw_vret dX5_needMetal_20 rfl (Or.inl ⟨rfl, ⟨rfl, Or.inl c1⟩⟩)
  · refine tw_iload_n 0 dX5_needMetal_4 rfl rfl ?_
    refine tw_iconst (v := 1) dX5_needMetal_5 (by decide) ?_
    refine tw_icmp_eq 20 dX5_needMetal_6 (by decide) (fun c2 => ?_) (fun c2 => ?_)
    · exact tw_vret dX5_needMetal_20 rfl (Or.inl ⟨rfl, ⟨rfl, Or.inr c2⟩⟩)
    · exact tw_throwSW (i := 3) (by decide +kernel) w_402 w_87 rfl at_IAE dX5_needMetal_9 dX5_needMetal_12 dX5_needMetal_13 dX5_needMetal_16 dX5_needMetal_19 ⟨by decide, Nat.le_of_ble_eq_true rfl⟩ (by omega) (by omega) (Or.inr ⟨_, rfl, (rfl), rfl⟩)

set_option maxHeartbeats 4000000 in
set_option maxRecDepth 100000 in
theorem c_X5_needDifferent (d : tw_D) (g : tw_G) (τ : tw_K) (h : tw_H) (hw : tw_wt d g τ h) (a : Int32) (b : Int32) : tw_Ct d mX5_needDifferent 1 6 [.int a, .int b] h (tw_qv (fun h1 => h1 = h) (fun E h1 => (E = tw_IAE) ∧ h1 = h)) := by
  refine tw_of (by decide +kernel) (Nat.le_of_ble_eq_true rfl) ?_
  show tw_W d mX5_needDifferent _ 0 [(0, .int a), (1, .int b)] [] h 1 6
  have sp0 := tw_sp.rf hw
  refine tw_iload_n 0 dX5_needDifferent_0 rfl rfl ?_
  refine tw_iload_n 1 dX5_needDifferent_1 rfl rfl ?_
  refine tw_icmp_ne 16 dX5_needDifferent_2 (by decide) (fun c1 => ?_) (fun c1 => ?_)
  · exact tw_vret dX5_needDifferent_16 rfl (Or.inl ⟨rfl, rfl⟩)
  · exact tw_throwSW (i := 4) (by decide +kernel) w_402 w_87 rfl at_IAE dX5_needDifferent_5 dX5_needDifferent_8 dX5_needDifferent_9 dX5_needDifferent_12 dX5_needDifferent_15 ⟨by decide, Nat.le_of_ble_eq_true rfl⟩ (by omega) (by omega) (Or.inr ⟨_, rfl, (rfl), rfl⟩)

set_option maxHeartbeats 4000000 in
set_option maxRecDepth 100000 in
theorem c_X5_needLaw (d : tw_D) (g : tw_G) (τ : tw_K) (h : tw_H) (hw : tw_wt d g τ h) (r : Int32) (ct : Int32) : tw_Ct d mX5_needLaw 2 12 [.int r, .int ct] h (tw_qv (fun h1 => h1 = h ∧ 100 ≤ r ∧ r ≤ 200) (fun E h1 => (E = tw_IAE) ∧ h1 = h)) := by
  refine tw_of (by decide +kernel) (Nat.le_of_ble_eq_true rfl) ?_
  show tw_W d mX5_needLaw _ 0 [(0, .int r), (1, .int ct)] [] h 2 12
  have sp0 := tw_sp.rf hw
  refine tw_iload_n 0 dX5_needLaw_0 rfl rfl ?_
  refine tw_bipush (v := 100) dX5_needLaw_1 (by decide) ?_
  refine tw_sipush (v := 200) dX5_needLaw_3 (by decide) ?_
  refine tw_bv (tw_callS okX5_needRange dX5_needLaw_6 w_399 [.int r, .int 100, .int 200] [] rfl rfl ⟨by decide, by decide⟩ (Nat.le_of_ble_eq_true rfl) (c_X5_needRange d g τ h sp0.1 r 100 200) 1 6 (by omega) (by omega)) (fun h2 q1 => ?_) (fun E h1 q => Or.inr ⟨E, rfl, (q.1), q.2⟩)
  obtain ⟨q1e, p4⟩ := q1
  rw [q1e]
  refine tw_iload_n 1 dX5_needLaw_9 rfl rfl ?_
  refine tw_iconst (v := 0) dX5_needLaw_10 (by decide) ?_
  refine tw_bipush (v := 50) dX5_needLaw_11 (by decide) ?_
  refine tw_bv (tw_callS okX5_needRange dX5_needLaw_13 w_399 [.int ct, .int 0, .int 50] [] rfl rfl ⟨by decide, by decide⟩ (Nat.le_of_ble_eq_true rfl) (c_X5_needRange d g τ h sp0.1 ct 0 50) 0 0 (by omega) (by omega)) (fun h6 q5 => ?_) (fun E h1 q => Or.inr ⟨E, rfl, (q.1), q.2⟩)
  obtain ⟨q5e, p8⟩ := q5
  rw [q5e]
  exact tw_vret dX5_needLaw_16 rfl (Or.inl ⟨rfl, ⟨rfl, p4⟩⟩)

set_option maxHeartbeats 4000000 in
set_option maxRecDepth 100000 in
theorem c_X5_otherMetal (d : tw_D) (g : tw_G) (τ : tw_K) (h : tw_H) (hw : tw_wt d g τ h) (m : Int32) : tw_Ct d mX5_otherMetal 0 0 [.int m] h (tw_qi (fun r h1 => h1 = h ∧ (r = 0 ∨ r = 1)) tw_nx) := by
  refine tw_of (by decide +kernel) (Nat.le_of_ble_eq_true rfl) ?_
  show tw_W d mX5_otherMetal _ 0 [(0, .int m)] [] h 0 0
  have sp0 := tw_sp.rf hw
  refine tw_iload_n 0 dX5_otherMetal_0 rfl rfl ?_
  refine tw_if_ne 8 dX5_otherMetal_1 (by decide) (fun c1 => ?_) (fun c1 => ?_)
  · refine tw_iconst (v := 0) dX5_otherMetal_8 (by decide) ?_
    exact tw_iret dX5_otherMetal_9 rfl (Or.inl ⟨_, rfl, ⟨rfl, (by decide)⟩⟩)
  · refine tw_iconst (v := 1) dX5_otherMetal_4 (by decide) ?_
    refine tw_goto 9 dX5_otherMetal_5 (by decide) ?_
    exact tw_iret dX5_otherMetal_9 rfl (Or.inl ⟨_, rfl, ⟨rfl, (by decide)⟩⟩)

set_option maxHeartbeats 4000000 in
set_option maxRecDepth 100000 in
theorem c_X5_isWearDay (d : tw_D) (g : tw_G) (τ : tw_K) (h : tw_H) (hw : tw_wt d g τ h) (dy : Int32) : tw_Ct d mX5_isWearDay 0 0 [.int dy] h (tw_qi (fun r h1 => h1 = h ∧ tw_01 r) tw_nx) := by
  refine tw_of (by decide +kernel) (Nat.le_of_ble_eq_true rfl) ?_
  show tw_W d mX5_isWearDay _ 0 [(0, .int dy)] [] h 0 0
  have sp0 := tw_sp.rf hw
  refine tw_iload_n 0 dX5_isWearDay_0 rfl rfl ?_
  refine tw_bipush (v := 30) dX5_isWearDay_1 (by decide) ?_
  refine tw_irem dX5_isWearDay_3 (by decide) ?_
  refine tw_nmi (fun v1 ev1 => ?_)
  refine tw_if_ne 11 dX5_isWearDay_4 (by decide) (fun c2 => ?_) (fun c2 => ?_)
  · refine tw_iconst (v := 0) dX5_isWearDay_11 (by decide) ?_
    exact tw_zret dX5_isWearDay_12 rfl rfl (Or.inl ⟨_, rfl, ⟨rfl, (by unfold tw_01; decide)⟩⟩)
  · refine tw_iconst (v := 1) dX5_isWearDay_7 (by decide) ?_
    refine tw_goto 12 dX5_isWearDay_8 (by decide) ?_
    exact tw_zret dX5_isWearDay_12 rfl rfl (Or.inl ⟨_, rfl, ⟨rfl, (by unfold tw_01; decide)⟩⟩)

set_option maxHeartbeats 4000000 in
set_option maxRecDepth 100000 in
theorem c_X5_worthOf (d : tw_D) (g : tw_G) (τ : tw_K) (h : tw_H) (hw : tw_wt d g τ h) (a : Int32) (b : Int32) (r : Int32) : tw_Ct d mX5_worthOf 0 0 [.int a, .int b, .int r] h (tw_qi (fun r h1 => h1 = h) tw_nx) := by
  refine tw_of (by decide +kernel) (Nat.le_of_ble_eq_true rfl) ?_
  show tw_W d mX5_worthOf _ 0 [(0, .int a), (1, .int b), (2, .int r)] [] h 0 0
  have sp0 := tw_sp.rf hw
  refine tw_iload_n 1 dX5_worthOf_0 rfl rfl ?_
  refine tw_i2l dX5_worthOf_1 ?_
  refine tw_nml (fun v1 ev1 => ?_)
  refine tw_iload_n 0 dX5_worthOf_2 rfl rfl ?_
  refine tw_i2l dX5_worthOf_3 ?_
  refine tw_nml (fun v2 ev2 => ?_)
  refine tw_iload_n 2 dX5_worthOf_4 rfl rfl ?_
  refine tw_i2l dX5_worthOf_5 ?_
  refine tw_nml (fun v3 ev3 => ?_)
  refine tw_lmul dX5_worthOf_6 ?_
  refine tw_nml (fun v4 ev4 => ?_)
  refine tw_ldc2 (v := 10) dX5_worthOf_7 w_272 ?_
  refine tw_ldiv dX5_worthOf_10 (by decide) ?_
  refine tw_nml (fun v5 ev5 => ?_)
  refine tw_ladd dX5_worthOf_11 ?_
  refine tw_nml (fun v6 ev6 => ?_)
  refine tw_l2i dX5_worthOf_12 ?_
  refine tw_nmi (fun v7 ev7 => ?_)
  exact tw_iret dX5_worthOf_13 rfl (Or.inl ⟨_, rfl, rfl⟩)

set_option maxHeartbeats 4000000 in
set_option maxRecDepth 100000 in
theorem c_X5_thousandthsRoundedUp (d : tw_D) (g : tw_G) (τ : tw_K) (h : tw_H) (hw : tw_wt d g τ h) (a : Int32) (b : Int32) : tw_Ct d mX5_thousandthsRoundedUp 0 0 [.int a, .int b] h (tw_qi (fun r h1 => h1 = h) tw_nx) := by
  refine tw_of (by decide +kernel) (Nat.le_of_ble_eq_true rfl) ?_
  show tw_W d mX5_thousandthsRoundedUp _ 0 [(0, .int a), (1, .int b)] [] h 0 0
  have sp0 := tw_sp.rf hw
  refine tw_iload_n 0 dX5_thousandthsRoundedUp_0 rfl rfl ?_
  refine tw_i2l dX5_thousandthsRoundedUp_1 ?_
  refine tw_nml (fun v1 ev1 => ?_)
  refine tw_iload_n 1 dX5_thousandthsRoundedUp_2 rfl rfl ?_
  refine tw_i2l dX5_thousandthsRoundedUp_3 ?_
  refine tw_nml (fun v2 ev2 => ?_)
  refine tw_lmul dX5_thousandthsRoundedUp_4 ?_
  refine tw_nml (fun v3 ev3 => ?_)
  refine tw_ldc2 (v := 999) dX5_thousandthsRoundedUp_5 w_315 ?_
  refine tw_ladd dX5_thousandthsRoundedUp_8 ?_
  refine tw_nml (fun v4 ev4 => ?_)
  refine tw_ldc2 (v := 1000) dX5_thousandthsRoundedUp_9 w_316 ?_
  refine tw_ldiv dX5_thousandthsRoundedUp_12 (by decide) ?_
  refine tw_nml (fun v5 ev5 => ?_)
  refine tw_l2i dX5_thousandthsRoundedUp_13 ?_
  refine tw_nmi (fun v6 ev6 => ?_)
  exact tw_iret dX5_thousandthsRoundedUp_14 rfl (Or.inl ⟨_, rfl, rfl⟩)

set_option maxHeartbeats 4000000 in
set_option maxRecDepth 100000 in
theorem c_X3_of (d : tw_D) (g : tw_G) (τ : tw_K) (h : tw_H) (hw : tw_wt d g τ h) (x : Nat) (kx : τ x = 1) (m : Int32) : tw_Ct d mX3_of 0 0 [.ref x, .int m] h (tw_qi (fun r h1 => h1 = h) tw_nx) := by
  refine tw_of (by decide +kernel) (Nat.le_of_ble_eq_true rfl) ?_
  show tw_W d mX3_of _ 0 [(0, .ref x), (1, .int m)] [] h 0 0
  have sp0 := tw_sp.rf hw
  refine tw_iload_n 1 dX3_of_0 rfl rfl ?_
  refine tw_if_ne 11 dX3_of_1 (by decide) (fun c1 => ?_) (fun c1 => ?_)
  · refine tw_aload_n 0 dX3_of_11 rfl rfl ?_
    obtain ⟨e2, f3, a_4, b_5, rfl⟩ := sp0.1 x 1 kx (by decide)
    refine tw_get (v := .int b_5) rfl in_7 1 dX3_of_12 w_133 rfl (by decide) f3 rfl ?_
    exact tw_iret dX3_of_15 rfl (Or.inl ⟨_, rfl, rfl⟩)
  · refine tw_aload_n 0 dX3_of_4 rfl rfl ?_
    obtain ⟨e6, f7, a_8, b_9, rfl⟩ := sp0.1 x 1 kx (by decide)
    refine tw_get (v := .int a_8) rfl in_7 0 dX3_of_5 w_131 rfl (by decide) f7 rfl ?_
    refine tw_goto 15 dX3_of_8 (by decide) ?_
    exact tw_iret dX3_of_15 rfl (Or.inl ⟨_, rfl, rfl⟩)

set_option maxHeartbeats 4000000 in
set_option maxRecDepth 100000 in
theorem c_X3_add (d : tw_D) (g : tw_G) (τ : tw_K) (h : tw_H) (hw : tw_wt d g τ h) (x : Nat) (kx : τ x = 1) (m : Int32) (a : Int32) : tw_Ct d mX3_add 0 0 [.ref x, .int m, .int a] h (tw_qv (fun h1 => tw_sp d τ h g τ h1) tw_nx) := by
  refine tw_of (by decide +kernel) (Nat.le_of_ble_eq_true rfl) ?_
  show tw_W d mX3_add _ 0 [(0, .ref x), (1, .int m), (2, .int a)] [] h 0 0
  have sp0 := tw_sp.rf hw
  refine tw_iload_n 1 dX3_add_0 rfl rfl ?_
  refine tw_if_ne 17 dX3_add_1 (by decide) (fun c1 => ?_) (fun c1 => ?_)
  · refine tw_aload_n 0 dX3_add_17 rfl rfl ?_
    refine tw_dup dX3_add_18 rfl ?_
    obtain ⟨e2, f3, a_4, b_5, rfl⟩ := sp0.1 x 1 kx (by decide)
    refine tw_get (v := .int b_5) rfl in_7 1 dX3_add_19 w_133 rfl (by decide) f3 rfl ?_
    refine tw_iload_n 2 dX3_add_22 rfl rfl ?_
    refine tw_iadd dX3_add_23 ?_
    refine tw_nmi (fun v6 ev6 => ?_)
    refine tw_put rfl in_7 tyX3 tyX3_ok nmX3 1 dX3_add_24 w_133 rfl (by decide) f3 rfl rfl rfl rfl (Nat.le_of_ble_eq_true rfl) [.int a_4, .int v6] rfl ?_
    obtain ⟨h7, eh7⟩ : ∃ z : tw_H, z = tw_up h x (.inr (7, [.int a_4, .int v6])) := ⟨_, rfl⟩
    rw [← eh7]
    have sp8 : tw_sp d τ h g τ h7 := by rw [eh7]; exact sp0.set kx (by decide) ⟨a_4, v6, rfl⟩
    have f9 : h7 x = some (.inr (7, [.int a_4, .int v6])) := by rw [eh7]; exact tw_up_s
    exact tw_vret dX3_add_27 rfl (Or.inl ⟨rfl, sp8⟩)
  · refine tw_aload_n 0 dX3_add_4 rfl rfl ?_
    refine tw_dup dX3_add_5 rfl ?_
    obtain ⟨e10, f11, a_12, b_13, rfl⟩ := sp0.1 x 1 kx (by decide)
    refine tw_get (v := .int a_12) rfl in_7 0 dX3_add_6 w_131 rfl (by decide) f11 rfl ?_
    refine tw_iload_n 2 dX3_add_9 rfl rfl ?_
    refine tw_iadd dX3_add_10 ?_
    refine tw_nmi (fun v14 ev14 => ?_)
    refine tw_put rfl in_7 tyX3 tyX3_ok nmX3 0 dX3_add_11 w_131 rfl (by decide) f11 rfl rfl rfl rfl (Nat.le_of_ble_eq_true rfl) [.int v14, .int b_13] rfl ?_
    obtain ⟨h15, eh15⟩ : ∃ z : tw_H, z = tw_up h x (.inr (7, [.int v14, .int b_13])) := ⟨_, rfl⟩
    rw [← eh15]
    have sp16 : tw_sp d τ h g τ h15 := by rw [eh15]; exact sp0.set kx (by decide) ⟨v14, b_13, rfl⟩
    have f17 : h15 x = some (.inr (7, [.int v14, .int b_13])) := by rw [eh15]; exact tw_up_s
    refine tw_goto 27 dX3_add_14 (by decide) ?_
    exact tw_vret dX3_add_27 rfl (Or.inl ⟨rfl, sp16⟩)

set_option maxHeartbeats 4000000 in
set_option maxRecDepth 100000 in
theorem c_X3_worth (d : tw_D) (g : tw_G) (τ : tw_K) (h : tw_H) (hw : tw_wt d g τ h) (x : Nat) (kx : τ x = 1) (r : Int32) : tw_Ct d mX3_worth 0 0 [.ref x, .int r] h (tw_qi (fun r h1 => h1 = h) tw_nx) := by
  refine tw_of (by decide +kernel) (Nat.le_of_ble_eq_true rfl) ?_
  show tw_W d mX3_worth _ 0 [(0, .ref x), (1, .int r)] [] h 0 0
  have sp0 := tw_sp.rf hw
  refine tw_aload_n 0 dX3_worth_0 rfl rfl ?_
  obtain ⟨e1, f2, a_3, b_4, rfl⟩ := sp0.1 x 1 kx (by decide)
  refine tw_get (v := .int a_3) rfl in_7 0 dX3_worth_1 w_131 rfl (by decide) f2 rfl ?_
  refine tw_aload_n 0 dX3_worth_4 rfl rfl ?_
  refine tw_get (v := .int b_4) rfl in_7 1 dX3_worth_5 w_133 rfl (by decide) f2 rfl ?_
  refine tw_iload_n 1 dX3_worth_8 rfl rfl ?_
  refine tw_bi (tw_callSN okX5_worthOf dX3_worth_9 w_269 [.int a_3, .int b_4, .int r] [] rfl rfl ⟨by decide, by decide⟩ (Nat.le_of_ble_eq_true rfl) (c_X5_worthOf d g τ h sp0.1 a_3 b_4 r) 0 0 (by omega) (by omega)) (fun r7 h6 q5 => ?_) (fun E h1 q => q.elim)
  rw [q5]
  exact tw_iret dX3_worth_12 rfl (Or.inl ⟨_, rfl, rfl⟩)

set_option maxHeartbeats 4000000 in
set_option maxRecDepth 100000 in
theorem c_X3_isBelowZero (d : tw_D) (g : tw_G) (τ : tw_K) (h : tw_H) (hw : tw_wt d g τ h) (x : Nat) (kx : τ x = 1) : tw_Ct d mX3_isBelowZero 0 0 [.ref x] h (tw_qi (fun r h1 => h1 = h ∧ tw_01 r) tw_nx) := by
  refine tw_of (by decide +kernel) (Nat.le_of_ble_eq_true rfl) ?_
  show tw_W d mX3_isBelowZero _ 0 [(0, .ref x)] [] h 0 0
  have sp0 := tw_sp.rf hw
  refine tw_aload_n 0 dX3_isBelowZero_0 rfl rfl ?_
  obtain ⟨e1, f2, a_3, b_4, rfl⟩ := sp0.1 x 1 kx (by decide)
  refine tw_get (v := .int a_3) rfl in_7 0 dX3_isBelowZero_1 w_131 rfl (by decide) f2 rfl ?_
  refine tw_if_lt 14 dX3_isBelowZero_4 (by decide) (fun c5 => ?_) (fun c5 => ?_)
  · refine tw_iconst (v := 1) dX3_isBelowZero_14 (by decide) ?_
    refine tw_goto 19 dX3_isBelowZero_15 (by decide) ?_
    exact tw_zret dX3_isBelowZero_19 rfl rfl (Or.inl ⟨_, rfl, ⟨rfl, (by unfold tw_01; decide)⟩⟩)
  · refine tw_aload_n 0 dX3_isBelowZero_7 rfl rfl ?_
    refine tw_get (v := .int b_4) rfl in_7 1 dX3_isBelowZero_8 w_133 rfl (by decide) f2 rfl ?_
    refine tw_if_ge 18 dX3_isBelowZero_11 (by decide) (fun c6 => ?_) (fun c6 => ?_)
    · refine tw_iconst (v := 0) dX3_isBelowZero_18 (by decide) ?_
      exact tw_zret dX3_isBelowZero_19 rfl rfl (Or.inl ⟨_, rfl, ⟨rfl, (by unfold tw_01; decide)⟩⟩)
    · refine tw_iconst (v := 1) dX3_isBelowZero_14 (by decide) ?_
      refine tw_goto 19 dX3_isBelowZero_15 (by decide) ?_
      exact tw_zret dX3_isBelowZero_19 rfl rfl (Or.inl ⟨_, rfl, ⟨rfl, (by unfold tw_01; decide)⟩⟩)

set_option maxHeartbeats 4000000 in
set_option maxRecDepth 100000 in
theorem c_X4_manyOf (d : tw_D) (g : tw_G) (τ : tw_K) (h : tw_H) (hw : tw_wt d g τ h) (x : Nat) (kx : τ x = 5) (k : Int32) : tw_Ct d mX4_manyOf 0 0 [.ref x, .int k] h (tw_qi (fun r h1 => h1 = h) tw_nx) := by
  refine tw_of (by decide +kernel) (Nat.le_of_ble_eq_true rfl) ?_
  show tw_W d mX4_manyOf _ 0 [(0, .ref x), (1, .int k)] [] h 0 0
  have sp0 := tw_sp.rf hw
  refine tw_iload_n 1 dX4_manyOf_0 rfl rfl ?_
  refine tw_if_lt 22 dX4_manyOf_1 (by decide) (fun c1 => ?_) (fun c1 => ?_)
  · refine tw_iconst (v := 0) dX4_manyOf_22 (by decide) ?_
    exact tw_iret dX4_manyOf_23 rfl (Or.inl ⟨_, rfl, rfl⟩)
  · refine tw_iload_n 1 dX4_manyOf_4 rfl rfl ?_
    refine tw_aload_n 0 dX4_manyOf_5 rfl rfl ?_
    obtain ⟨e2, f3, m_4, rfl, k5⟩ := sp0.1 x 5 kx (by decide)
    refine tw_get (v := .ref m_4) rfl in_8 0 dX4_manyOf_6 w_496 rfl (by decide) f3 rfl ?_
    obtain ⟨e6, f7, F8, rfl⟩ := sp0.1 m_4 7 k5 (by decide)
    refine tw_alen (v := nI 5) 0 rfl dX4_manyOf_9 f7 rfl ?_
    refine tw_icmp_ge 22 dX4_manyOf_10 (by decide) (fun c9 => ?_) (fun c9 => ?_)
    · refine tw_iconst (v := 0) dX4_manyOf_22 (by decide) ?_
      exact tw_iret dX4_manyOf_23 rfl (Or.inl ⟨_, rfl, rfl⟩)
    · refine tw_aload_n 0 dX4_manyOf_13 rfl rfl ?_
      refine tw_get (v := .ref m_4) rfl in_8 0 dX4_manyOf_14 w_496 rfl (by decide) f3 rfl ?_
      refine tw_iload_n 1 dX4_manyOf_17 rfl rfl ?_
      obtain ⟨v10, ev10⟩ : ∃ y : Int32, F8 k.toNatClampNeg = y := ⟨_, rfl⟩
      refine tw_iald (v := v10) dX4_manyOf_18 f7 (tw_ib2 c1 c9 (by decide)) ev10 ?_
      refine tw_goto 23 dX4_manyOf_19 (by decide) ?_
      exact tw_iret dX4_manyOf_23 rfl (Or.inl ⟨_, rfl, rfl⟩)

set_option maxHeartbeats 4000000 in
set_option maxRecDepth 100000 in
theorem c_X4_setMany (d : tw_D) (g : tw_G) (τ : tw_K) (h : tw_H) (hw : tw_wt d g τ h) (x : Nat) (kx : τ x = 5) (k : Int32) (v : Int32) : tw_Ct d mX4_setMany 0 0 [.ref x, .int k, .int v] h (tw_qv (fun h1 => tw_sp d τ h g τ h1) tw_nx) := by
  refine tw_of (by decide +kernel) (Nat.le_of_ble_eq_true rfl) ?_
  show tw_W d mX4_setMany _ 0 [(0, .ref x), (1, .int k), (2, .int v)] [] h 0 0
  have sp0 := tw_sp.rf hw
  refine tw_iload_n 1 dX4_setMany_0 rfl rfl ?_
  refine tw_if_lt 20 dX4_setMany_1 (by decide) (fun c1 => ?_) (fun c1 => ?_)
  · exact tw_vret dX4_setMany_20 rfl (Or.inl ⟨rfl, sp0⟩)
  · refine tw_iload_n 1 dX4_setMany_4 rfl rfl ?_
    refine tw_aload_n 0 dX4_setMany_5 rfl rfl ?_
    obtain ⟨e2, f3, m_4, rfl, k5⟩ := sp0.1 x 5 kx (by decide)
    refine tw_get (v := .ref m_4) rfl in_8 0 dX4_setMany_6 w_496 rfl (by decide) f3 rfl ?_
    obtain ⟨e6, f7, F8, rfl⟩ := sp0.1 m_4 7 k5 (by decide)
    refine tw_alen (v := nI 5) 0 rfl dX4_setMany_9 f7 rfl ?_
    refine tw_icmp_ge 20 dX4_setMany_10 (by decide) (fun c9 => ?_) (fun c9 => ?_)
    · exact tw_vret dX4_setMany_20 rfl (Or.inl ⟨rfl, sp0⟩)
    · refine tw_aload_n 0 dX4_setMany_13 rfl rfl ?_
      refine tw_get (v := .ref m_4) rfl in_8 0 dX4_setMany_14 w_496 rfl (by decide) f3 rfl ?_
      refine tw_iload_n 1 dX4_setMany_17 rfl rfl ?_
      refine tw_iload_n 2 dX4_setMany_18 rfl rfl ?_
      refine tw_iast dX4_setMany_19 f7 (tw_ib2 c1 c9 (by decide)) ?_
      obtain ⟨h10, eh10⟩ : ∃ z : tw_H, z = tw_up h m_4 (.inl (d.2 0, 5, .inl (upd F8 (k).toNatClampNeg v))) := ⟨_, rfl⟩
      rw [← eh10]
      have sp11 : tw_sp d τ h g τ h10 := by rw [eh10]; exact sp0.set k5 (by decide) ⟨_, rfl⟩
      exact tw_vret dX4_setMany_20 rfl (Or.inl ⟨rfl, sp11⟩)

set_option maxHeartbeats 4000000 in
set_option maxRecDepth 100000 in
theorem c_X4_pounds (d : tw_D) (g : tw_G) (τ : tw_K) (h : tw_H) (hw : tw_wt d g τ h) (x : Nat) (kx : τ x = 5) : tw_Ct d mX4_pounds 0 0 [.ref x] h (tw_qi (fun r h1 => h1 = h) tw_nx) := by
  refine tw_of (by decide +kernel) (Nat.le_of_ble_eq_true rfl) ?_
  show tw_W d mX4_pounds _ 0 [(0, .ref x)] [] h 0 0
  have sp0 := tw_sp.rf hw
  refine tw_bipush (v := 20) dX4_pounds_0 (by decide) ?_
  refine tw_aload_n 0 dX4_pounds_2 rfl rfl ?_
  refine tw_iconst (v := 0) dX4_pounds_3 (by decide) ?_
  obtain ⟨e1, f2, m_3, rfl, k4⟩ := sp0.1 x 5 kx (by decide)
  refine tw_bi (tw_callV okX4_manyOf dX4_pounds_4 w_277 rfl f2 [.int 0] [.int 20] rfl rfl ⟨by decide, by decide⟩ (Nat.le_of_ble_eq_true rfl) (c_X4_manyOf d g τ h sp0.1 x kx 0) 0 0 (by omega) (by omega)) (fun r7 h6 q5 => ?_) (fun E h1 q => q.elim)
  rw [q5]
  refine tw_imul dX4_pounds_7 ?_
  refine tw_nmi (fun v8 ev8 => ?_)
  refine tw_bipush (v := 10) dX4_pounds_8 (by decide) ?_
  refine tw_aload_n 0 dX4_pounds_10 rfl rfl ?_
  refine tw_iconst (v := 1) dX4_pounds_11 (by decide) ?_
  refine tw_bi (tw_callV okX4_manyOf dX4_pounds_12 w_277 rfl f2 [.int 1] [.int 10, .int v8] rfl rfl ⟨by decide, by decide⟩ (Nat.le_of_ble_eq_true rfl) (c_X4_manyOf d g τ h sp0.1 x kx 1) 0 0 (by omega) (by omega)) (fun r11 h10 q9 => ?_) (fun E h1 q => q.elim)
  rw [q9]
  refine tw_imul dX4_pounds_15 ?_
  refine tw_nmi (fun v12 ev12 => ?_)
  refine tw_iadd dX4_pounds_16 ?_
  refine tw_nmi (fun v13 ev13 => ?_)
  refine tw_iconst (v := 5) dX4_pounds_17 (by decide) ?_
  refine tw_aload_n 0 dX4_pounds_18 rfl rfl ?_
  refine tw_iconst (v := 2) dX4_pounds_19 (by decide) ?_
  refine tw_bi (tw_callV okX4_manyOf dX4_pounds_20 w_277 rfl f2 [.int 2] [.int 5, .int v13] rfl rfl ⟨by decide, by decide⟩ (Nat.le_of_ble_eq_true rfl) (c_X4_manyOf d g τ h sp0.1 x kx 2) 0 0 (by omega) (by omega)) (fun r16 h15 q14 => ?_) (fun E h1 q => q.elim)
  rw [q14]
  refine tw_imul dX4_pounds_23 ?_
  refine tw_nmi (fun v17 ev17 => ?_)
  refine tw_iadd dX4_pounds_24 ?_
  refine tw_nmi (fun v18 ev18 => ?_)
  refine tw_iconst (v := 2) dX4_pounds_25 (by decide) ?_
  refine tw_aload_n 0 dX4_pounds_26 rfl rfl ?_
  refine tw_iconst (v := 3) dX4_pounds_27 (by decide) ?_
  refine tw_bi (tw_callV okX4_manyOf dX4_pounds_28 w_277 rfl f2 [.int 3] [.int 2, .int v18] rfl rfl ⟨by decide, by decide⟩ (Nat.le_of_ble_eq_true rfl) (c_X4_manyOf d g τ h sp0.1 x kx 3) 0 0 (by omega) (by omega)) (fun r21 h20 q19 => ?_) (fun E h1 q => q.elim)
  rw [q19]
  refine tw_imul dX4_pounds_31 ?_
  refine tw_nmi (fun v22 ev22 => ?_)
  refine tw_iadd dX4_pounds_32 ?_
  refine tw_nmi (fun v23 ev23 => ?_)
  refine tw_aload_n 0 dX4_pounds_33 rfl rfl ?_
  refine tw_iconst (v := 4) dX4_pounds_34 (by decide) ?_
  refine tw_bi (tw_callV okX4_manyOf dX4_pounds_35 w_277 rfl f2 [.int 4] [.int v23] rfl rfl ⟨by decide, by decide⟩ (Nat.le_of_ble_eq_true rfl) (c_X4_manyOf d g τ h sp0.1 x kx 4) 0 0 (by omega) (by omega)) (fun r26 h25 q24 => ?_) (fun E h1 q => q.elim)
  rw [q24]
  refine tw_iadd dX4_pounds_38 ?_
  refine tw_nmi (fun v27 ev27 => ?_)
  exact tw_iret dX4_pounds_39 rfl (Or.inl ⟨_, rfl, rfl⟩)

set_option maxHeartbeats 4000000 in
set_option maxRecDepth 100000 in
theorem c_X4_takeOut (d : tw_D) (g : tw_G) (τ : tw_K) (h : tw_H) (hw : tw_wt d g τ h) (x : Nat) (kx : τ x = 5) (dg : Int32) : tw_Ct d mX4_takeOut 0 0 [.ref x, .int dg] h (tw_qi (fun r h1 => tw_sp d τ h g τ h1) tw_nx) := by
  refine tw_of (by decide +kernel) (Nat.le_of_ble_eq_true rfl) ?_
  show tw_W d mX4_takeOut _ 0 [(0, .ref x), (1, .int dg)] [] h 0 0
  have sp0 := tw_sp.rf hw
  refine tw_iconst (v := 0) dX4_takeOut_0 (by decide) ?_
  refine tw_istore_n [(2, .int 0), (0, .ref x), (1, .int dg)] dX4_takeOut_1 rfl (by decide) rfl ?_
  refine tw_iload_n 2 dX4_takeOut_2 rfl rfl ?_
  refine tw_istore_n [(3, .int dg), (2, .int 0), (0, .ref x), (1, .int dg)] dX4_takeOut_3 rfl (by decide) rfl ?_
  refine tw_iconst (v := 4) dX4_takeOut_4 (by decide) ?_
  refine tw_istore [(4, .int 4), (3, .int dg), (2, .int 0), (0, .ref x), (1, .int dg)] dX4_takeOut_5 (by decide) rfl ?_
  refine tw_iload 0 dX4_takeOut_7 rfl ?_
  refine tw_if_lt 49 dX4_takeOut_9 (by decide) (fun c1 => absurd c1 (by decide)) (fun _ => ?_)
  refine tw_iload_n 1 dX4_takeOut_12 rfl rfl ?_
  refine tw_bipush (v := 10) dX4_takeOut_13 (by decide) ?_
  refine tw_irem dX4_takeOut_15 (by decide) ?_
  refine tw_nmi (fun v2 ev2 => ?_)
  refine tw_istore [(5, .int v2), (4, .int 4), (3, .int dg), (2, .int 0), (0, .ref x), (1, .int dg)] dX4_takeOut_16 (by decide) rfl ?_
  refine tw_aload_n 4 dX4_takeOut_18 rfl rfl ?_
  refine tw_iload 1 dX4_takeOut_19 rfl ?_
  refine tw_aload_n 4 dX4_takeOut_21 rfl rfl ?_
  refine tw_iload 1 dX4_takeOut_22 rfl ?_
  obtain ⟨e3, f4, m_5, rfl, k6⟩ := sp0.1 x 5 kx (by decide)
  refine tw_bi (tw_callV okX4_manyOf dX4_takeOut_24 w_277 rfl f4 [.int 4] [.int 4, .ref x] rfl rfl ⟨by decide, by decide⟩ (Nat.le_of_ble_eq_true rfl) (c_X4_manyOf d g τ h sp0.1 x kx 4) 0 0 (by omega) (by omega)) (fun r9 h8 q7 => ?_) (fun E h1 q => q.elim)
  rw [q7]
  refine tw_iload 0 dX4_takeOut_27 rfl ?_
  refine tw_isub dX4_takeOut_29 ?_
  refine tw_nmi (fun v10 ev10 => ?_)
  refine tw_bv (tw_callV okX4_setMany dX4_takeOut_30 w_779 rfl f4 [.int 4, .int v10] [] rfl rfl ⟨by decide, by decide⟩ (Nat.le_of_ble_eq_true rfl) (c_X4_setMany d g τ h sp0.1 x kx 4 v10) 0 0 (by omega) (by omega)) (fun h12 q11 => ?_) (fun E h1 q => q.elim)
  have q11s := q11
  have sp14 := sp0.tr q11s
  refine tw_iload_n 3 dX4_takeOut_33 rfl rfl ?_
  refine tw_iload 0 dX4_takeOut_34 rfl ?_
  refine tw_iadd dX4_takeOut_36 ?_
  refine tw_nmi (fun v16 ev16 => ?_)
  refine tw_istore_n [(2, .int v16), (5, .int v2), (4, .int 4), (3, .int dg), (0, .ref x), (1, .int dg)] dX4_takeOut_37 rfl (by decide) rfl ?_
  refine tw_iload_n 3 dX4_takeOut_38 rfl rfl ?_
  refine tw_bipush (v := 10) dX4_takeOut_39 (by decide) ?_
  refine tw_idiv dX4_takeOut_41 (by decide) ?_
  refine tw_nmi (fun v17 ev17 => ?_)
  refine tw_istore_n [(3, .int v17), (2, .int v16), (5, .int v2), (4, .int 4), (0, .ref x), (1, .int dg)] dX4_takeOut_42 rfl (by decide) rfl ?_
  refine tw_iinc [(4, .int 3), (3, .int v17), (2, .int v16), (5, .int v2), (0, .ref x), (1, .int dg)] 3 dX4_takeOut_43 rfl (by decide) (by decide) rfl ?_
  refine tw_goto 7 dX4_takeOut_46 (by decide) ?_
  refine tw_iload 0 dX4_takeOut_7 rfl ?_
  refine tw_if_lt 49 dX4_takeOut_9 (by decide) (fun c18 => absurd c18 (by decide)) (fun _ => ?_)
  refine tw_iload_n 1 dX4_takeOut_12 rfl rfl ?_
  refine tw_bipush (v := 10) dX4_takeOut_13 (by decide) ?_
  refine tw_irem dX4_takeOut_15 (by decide) ?_
  refine tw_nmi (fun v19 ev19 => ?_)
  refine tw_istore [(5, .int v19), (4, .int 3), (3, .int v17), (2, .int v16), (0, .ref x), (1, .int dg)] dX4_takeOut_16 (by decide) rfl ?_
  refine tw_aload_n 4 dX4_takeOut_18 rfl rfl ?_
  refine tw_iload 1 dX4_takeOut_19 rfl ?_
  refine tw_aload_n 4 dX4_takeOut_21 rfl rfl ?_
  refine tw_iload 1 dX4_takeOut_22 rfl ?_
  obtain ⟨e20, f21, m_22, rfl, k23⟩ := sp14.1 x 5 kx (by decide)
  refine tw_bi (tw_callV okX4_manyOf dX4_takeOut_24 w_277 rfl f21 [.int 3] [.int 3, .ref x] rfl rfl ⟨by decide, by decide⟩ (Nat.le_of_ble_eq_true rfl) (c_X4_manyOf d g τ h12 sp14.1 x kx 3) 0 0 (by omega) (by omega)) (fun r26 h25 q24 => ?_) (fun E h1 q => q.elim)
  rw [q24]
  refine tw_iload 0 dX4_takeOut_27 rfl ?_
  refine tw_isub dX4_takeOut_29 ?_
  refine tw_nmi (fun v27 ev27 => ?_)
  refine tw_bv (tw_callV okX4_setMany dX4_takeOut_30 w_779 rfl f21 [.int 3, .int v27] [] rfl rfl ⟨by decide, by decide⟩ (Nat.le_of_ble_eq_true rfl) (c_X4_setMany d g τ h12 sp14.1 x kx 3 v27) 0 0 (by omega) (by omega)) (fun h29 q28 => ?_) (fun E h1 q => q.elim)
  have q28s := q28
  have sp31 := sp14.tr q28s
  refine tw_iload_n 3 dX4_takeOut_33 rfl rfl ?_
  refine tw_iload 0 dX4_takeOut_34 rfl ?_
  refine tw_iadd dX4_takeOut_36 ?_
  refine tw_nmi (fun v33 ev33 => ?_)
  refine tw_istore_n [(2, .int v33), (5, .int v19), (4, .int 3), (3, .int v17), (0, .ref x), (1, .int dg)] dX4_takeOut_37 rfl (by decide) rfl ?_
  refine tw_iload_n 3 dX4_takeOut_38 rfl rfl ?_
  refine tw_bipush (v := 10) dX4_takeOut_39 (by decide) ?_
  refine tw_idiv dX4_takeOut_41 (by decide) ?_
  refine tw_nmi (fun v34 ev34 => ?_)
  refine tw_istore_n [(3, .int v34), (2, .int v33), (5, .int v19), (4, .int 3), (0, .ref x), (1, .int dg)] dX4_takeOut_42 rfl (by decide) rfl ?_
  refine tw_iinc [(4, .int 2), (3, .int v34), (2, .int v33), (5, .int v19), (0, .ref x), (1, .int dg)] 3 dX4_takeOut_43 rfl (by decide) (by decide) rfl ?_
  refine tw_goto 7 dX4_takeOut_46 (by decide) ?_
  refine tw_iload 0 dX4_takeOut_7 rfl ?_
  refine tw_if_lt 49 dX4_takeOut_9 (by decide) (fun c35 => absurd c35 (by decide)) (fun _ => ?_)
  refine tw_iload_n 1 dX4_takeOut_12 rfl rfl ?_
  refine tw_bipush (v := 10) dX4_takeOut_13 (by decide) ?_
  refine tw_irem dX4_takeOut_15 (by decide) ?_
  refine tw_nmi (fun v36 ev36 => ?_)
  refine tw_istore [(5, .int v36), (4, .int 2), (3, .int v34), (2, .int v33), (0, .ref x), (1, .int dg)] dX4_takeOut_16 (by decide) rfl ?_
  refine tw_aload_n 4 dX4_takeOut_18 rfl rfl ?_
  refine tw_iload 1 dX4_takeOut_19 rfl ?_
  refine tw_aload_n 4 dX4_takeOut_21 rfl rfl ?_
  refine tw_iload 1 dX4_takeOut_22 rfl ?_
  obtain ⟨e37, f38, m_39, rfl, k40⟩ := sp31.1 x 5 kx (by decide)
  refine tw_bi (tw_callV okX4_manyOf dX4_takeOut_24 w_277 rfl f38 [.int 2] [.int 2, .ref x] rfl rfl ⟨by decide, by decide⟩ (Nat.le_of_ble_eq_true rfl) (c_X4_manyOf d g τ h29 sp31.1 x kx 2) 0 0 (by omega) (by omega)) (fun r43 h42 q41 => ?_) (fun E h1 q => q.elim)
  rw [q41]
  refine tw_iload 0 dX4_takeOut_27 rfl ?_
  refine tw_isub dX4_takeOut_29 ?_
  refine tw_nmi (fun v44 ev44 => ?_)
  refine tw_bv (tw_callV okX4_setMany dX4_takeOut_30 w_779 rfl f38 [.int 2, .int v44] [] rfl rfl ⟨by decide, by decide⟩ (Nat.le_of_ble_eq_true rfl) (c_X4_setMany d g τ h29 sp31.1 x kx 2 v44) 0 0 (by omega) (by omega)) (fun h46 q45 => ?_) (fun E h1 q => q.elim)
  have q45s := q45
  have sp48 := sp31.tr q45s
  refine tw_iload_n 3 dX4_takeOut_33 rfl rfl ?_
  refine tw_iload 0 dX4_takeOut_34 rfl ?_
  refine tw_iadd dX4_takeOut_36 ?_
  refine tw_nmi (fun v50 ev50 => ?_)
  refine tw_istore_n [(2, .int v50), (5, .int v36), (4, .int 2), (3, .int v34), (0, .ref x), (1, .int dg)] dX4_takeOut_37 rfl (by decide) rfl ?_
  refine tw_iload_n 3 dX4_takeOut_38 rfl rfl ?_
  refine tw_bipush (v := 10) dX4_takeOut_39 (by decide) ?_
  refine tw_idiv dX4_takeOut_41 (by decide) ?_
  refine tw_nmi (fun v51 ev51 => ?_)
  refine tw_istore_n [(3, .int v51), (2, .int v50), (5, .int v36), (4, .int 2), (0, .ref x), (1, .int dg)] dX4_takeOut_42 rfl (by decide) rfl ?_
  refine tw_iinc [(4, .int 1), (3, .int v51), (2, .int v50), (5, .int v36), (0, .ref x), (1, .int dg)] 3 dX4_takeOut_43 rfl (by decide) (by decide) rfl ?_
  refine tw_goto 7 dX4_takeOut_46 (by decide) ?_
  refine tw_iload 0 dX4_takeOut_7 rfl ?_
  refine tw_if_lt 49 dX4_takeOut_9 (by decide) (fun c52 => absurd c52 (by decide)) (fun _ => ?_)
  refine tw_iload_n 1 dX4_takeOut_12 rfl rfl ?_
  refine tw_bipush (v := 10) dX4_takeOut_13 (by decide) ?_
  refine tw_irem dX4_takeOut_15 (by decide) ?_
  refine tw_nmi (fun v53 ev53 => ?_)
  refine tw_istore [(5, .int v53), (4, .int 1), (3, .int v51), (2, .int v50), (0, .ref x), (1, .int dg)] dX4_takeOut_16 (by decide) rfl ?_
  refine tw_aload_n 4 dX4_takeOut_18 rfl rfl ?_
  refine tw_iload 1 dX4_takeOut_19 rfl ?_
  refine tw_aload_n 4 dX4_takeOut_21 rfl rfl ?_
  refine tw_iload 1 dX4_takeOut_22 rfl ?_
  obtain ⟨e54, f55, m_56, rfl, k57⟩ := sp48.1 x 5 kx (by decide)
  refine tw_bi (tw_callV okX4_manyOf dX4_takeOut_24 w_277 rfl f55 [.int 1] [.int 1, .ref x] rfl rfl ⟨by decide, by decide⟩ (Nat.le_of_ble_eq_true rfl) (c_X4_manyOf d g τ h46 sp48.1 x kx 1) 0 0 (by omega) (by omega)) (fun r60 h59 q58 => ?_) (fun E h1 q => q.elim)
  rw [q58]
  refine tw_iload 0 dX4_takeOut_27 rfl ?_
  refine tw_isub dX4_takeOut_29 ?_
  refine tw_nmi (fun v61 ev61 => ?_)
  refine tw_bv (tw_callV okX4_setMany dX4_takeOut_30 w_779 rfl f55 [.int 1, .int v61] [] rfl rfl ⟨by decide, by decide⟩ (Nat.le_of_ble_eq_true rfl) (c_X4_setMany d g τ h46 sp48.1 x kx 1 v61) 0 0 (by omega) (by omega)) (fun h63 q62 => ?_) (fun E h1 q => q.elim)
  have q62s := q62
  have sp65 := sp48.tr q62s
  refine tw_iload_n 3 dX4_takeOut_33 rfl rfl ?_
  refine tw_iload 0 dX4_takeOut_34 rfl ?_
  refine tw_iadd dX4_takeOut_36 ?_
  refine tw_nmi (fun v67 ev67 => ?_)
  refine tw_istore_n [(2, .int v67), (5, .int v53), (4, .int 1), (3, .int v51), (0, .ref x), (1, .int dg)] dX4_takeOut_37 rfl (by decide) rfl ?_
  refine tw_iload_n 3 dX4_takeOut_38 rfl rfl ?_
  refine tw_bipush (v := 10) dX4_takeOut_39 (by decide) ?_
  refine tw_idiv dX4_takeOut_41 (by decide) ?_
  refine tw_nmi (fun v68 ev68 => ?_)
  refine tw_istore_n [(3, .int v68), (2, .int v67), (5, .int v53), (4, .int 1), (0, .ref x), (1, .int dg)] dX4_takeOut_42 rfl (by decide) rfl ?_
  refine tw_iinc [(4, .int 0), (3, .int v68), (2, .int v67), (5, .int v53), (0, .ref x), (1, .int dg)] 3 dX4_takeOut_43 rfl (by decide) (by decide) rfl ?_
  refine tw_goto 7 dX4_takeOut_46 (by decide) ?_
  refine tw_iload 0 dX4_takeOut_7 rfl ?_
  refine tw_if_lt 49 dX4_takeOut_9 (by decide) (fun c69 => absurd c69 (by decide)) (fun _ => ?_)
  refine tw_iload_n 1 dX4_takeOut_12 rfl rfl ?_
  refine tw_bipush (v := 10) dX4_takeOut_13 (by decide) ?_
  refine tw_irem dX4_takeOut_15 (by decide) ?_
  refine tw_nmi (fun v70 ev70 => ?_)
  refine tw_istore [(5, .int v70), (4, .int 0), (3, .int v68), (2, .int v67), (0, .ref x), (1, .int dg)] dX4_takeOut_16 (by decide) rfl ?_
  refine tw_aload_n 4 dX4_takeOut_18 rfl rfl ?_
  refine tw_iload 1 dX4_takeOut_19 rfl ?_
  refine tw_aload_n 4 dX4_takeOut_21 rfl rfl ?_
  refine tw_iload 1 dX4_takeOut_22 rfl ?_
  obtain ⟨e71, f72, m_73, rfl, k74⟩ := sp65.1 x 5 kx (by decide)
  refine tw_bi (tw_callV okX4_manyOf dX4_takeOut_24 w_277 rfl f72 [.int 0] [.int 0, .ref x] rfl rfl ⟨by decide, by decide⟩ (Nat.le_of_ble_eq_true rfl) (c_X4_manyOf d g τ h63 sp65.1 x kx 0) 0 0 (by omega) (by omega)) (fun r77 h76 q75 => ?_) (fun E h1 q => q.elim)
  rw [q75]
  refine tw_iload 0 dX4_takeOut_27 rfl ?_
  refine tw_isub dX4_takeOut_29 ?_
  refine tw_nmi (fun v78 ev78 => ?_)
  refine tw_bv (tw_callV okX4_setMany dX4_takeOut_30 w_779 rfl f72 [.int 0, .int v78] [] rfl rfl ⟨by decide, by decide⟩ (Nat.le_of_ble_eq_true rfl) (c_X4_setMany d g τ h63 sp65.1 x kx 0 v78) 0 0 (by omega) (by omega)) (fun h80 q79 => ?_) (fun E h1 q => q.elim)
  have q79s := q79
  have sp82 := sp65.tr q79s
  refine tw_iload_n 3 dX4_takeOut_33 rfl rfl ?_
  refine tw_iload 0 dX4_takeOut_34 rfl ?_
  refine tw_iadd dX4_takeOut_36 ?_
  refine tw_nmi (fun v84 ev84 => ?_)
  refine tw_istore_n [(2, .int v84), (5, .int v70), (4, .int 0), (3, .int v68), (0, .ref x), (1, .int dg)] dX4_takeOut_37 rfl (by decide) rfl ?_
  refine tw_iload_n 3 dX4_takeOut_38 rfl rfl ?_
  refine tw_bipush (v := 10) dX4_takeOut_39 (by decide) ?_
  refine tw_idiv dX4_takeOut_41 (by decide) ?_
  refine tw_nmi (fun v85 ev85 => ?_)
  refine tw_istore_n [(3, .int v85), (2, .int v84), (5, .int v70), (4, .int 0), (0, .ref x), (1, .int dg)] dX4_takeOut_42 rfl (by decide) rfl ?_
  refine tw_iinc [(4, .int (-1)), (3, .int v85), (2, .int v84), (5, .int v70), (0, .ref x), (1, .int dg)] 3 dX4_takeOut_43 rfl (by decide) (by decide) rfl ?_
  refine tw_goto 7 dX4_takeOut_46 (by decide) ?_
  refine tw_iload 0 dX4_takeOut_7 rfl ?_
  refine tw_if_lt 49 dX4_takeOut_9 (by decide) (fun _ => ?_) (fun c86 => absurd (by decide) c86)
  refine tw_iload_n 2 dX4_takeOut_49 rfl rfl ?_
  exact tw_iret dX4_takeOut_50 rfl (Or.inl ⟨_, rfl, sp82⟩)

set_option maxHeartbeats 4000000 in
set_option maxRecDepth 100000 in
theorem c_X4_isBelowZero (d : tw_D) (g : tw_G) (τ : tw_K) (h : tw_H) (hw : tw_wt d g τ h) (x : Nat) (kx : τ x = 5) : tw_Ct d mX4_isBelowZero 0 0 [.ref x] h (tw_qi (fun r h1 => h1 = h ∧ tw_01 r) tw_nx) := by
  refine tw_of (by decide +kernel) (Nat.le_of_ble_eq_true rfl) ?_
  show tw_W d mX4_isBelowZero _ 0 [(0, .ref x)] [] h 0 0
  have sp0 := tw_sp.rf hw
  refine tw_aload_n 0 dX4_isBelowZero_0 rfl rfl ?_
  obtain ⟨e1, f2, m_3, rfl, k4⟩ := sp0.1 x 5 kx (by decide)
  refine tw_get (v := .ref m_3) rfl in_8 0 dX4_isBelowZero_1 w_496 rfl (by decide) f2 rfl ?_
  refine tw_astore_n [(1, .ref m_3), (0, .ref x)] dX4_isBelowZero_4 rfl (by decide) rfl ?_
  refine tw_aload_n 0 dX4_isBelowZero_5 rfl rfl ?_
  obtain ⟨e5, f6, F7, rfl⟩ := sp0.1 m_3 7 k4 (by decide)
  refine tw_alen (v := nI 5) 0 rfl dX4_isBelowZero_6 f6 rfl ?_
  refine tw_istore_n [(2, .int (nI 5)), (1, .ref m_3), (0, .ref x)] dX4_isBelowZero_7 rfl (by decide) rfl ?_
  refine tw_iconst (v := 0) dX4_isBelowZero_8 (by decide) ?_
  refine tw_istore_n [(3, .int 0), (2, .int (nI 5)), (1, .ref m_3), (0, .ref x)] dX4_isBelowZero_9 rfl (by decide) rfl ?_
  have L11 : ∀ (r9 k8 : Nat), 5 + 1 ≤ k8 + r9 → k8 ≤ 5 → tw_W d mX4_isBelowZero (tw_qi (fun r h1 => h1 = h ∧ tw_01 r) tw_nx) 10 [(0, .ref x), (1, .ref m_3), (2, .int (nI 5)), (3, .int (nI k8))] [] h 0 0 := by
    intro r9
    induction r9 with
    | zero => intro k8  hk15 hk16; exact absurd hk15 (by omega)
    | succ r9 ih10 =>
      intro k8  hk15 hk16
      refine tw_iload_n 3 dX4_isBelowZero_10 rfl rfl ?_
      refine tw_iload_n 2 dX4_isBelowZero_11 rfl rfl ?_
      refine tw_icmp_ge 33 dX4_isBelowZero_12 (by decide) (fun c17 => ?_) (fun c17 => ?_)
      · refine tw_iconst (v := 0) dX4_isBelowZero_33 (by decide) ?_
        exact tw_zret dX4_isBelowZero_34 rfl rfl (Or.inl ⟨_, rfl, ⟨rfl, (by unfold tw_01; decide)⟩⟩)
      · have kl18 := tw_klt c17 hk16 (by decide)
        refine tw_aload_n 1 dX4_isBelowZero_15 rfl rfl ?_
        refine tw_iload_n 3 dX4_isBelowZero_16 rfl rfl ?_
        obtain ⟨v19, ev19⟩ : ∃ y : Int32, F7 (nI k8).toNatClampNeg = y := ⟨_, rfl⟩
        refine tw_iald (v := v19) dX4_isBelowZero_17 f6 (vp_in_nI (by omega) (by decide)) ev19 ?_
        refine tw_istore [(4, .int v19), (0, .ref x), (1, .ref m_3), (2, .int (nI 5)), (3, .int (nI k8))] dX4_isBelowZero_18 (by decide) rfl ?_
        refine tw_iload 0 dX4_isBelowZero_20 rfl ?_
        refine tw_if_ge 27 dX4_isBelowZero_22 (by decide) (fun c20 => ?_) (fun c20 => ?_)
        · obtain ⟨v21, ev21⟩ : ∃ y : Int32, y = (nI k8) + 1 := ⟨_, rfl⟩
          refine tw_iinc [(3, .int v21), (4, .int v19), (0, .ref x), (1, .ref m_3), (2, .int (nI 5))] 4 dX4_isBelowZero_27 rfl (by rw [ev21]; rfl) (by decide) rfl ?_
          refine tw_goto 10 dX4_isBelowZero_30 (by decide) ?_
          have qv21 := tw_nI3 ev21
          rw [qv21]
          refine tw_lv [2, 3, 4, 0] rfl ?_
          exact ih10 (k8 + 1)  (by omega) (by omega)
        · refine tw_iconst (v := 1) dX4_isBelowZero_25 (by decide) ?_
          exact tw_zret dX4_isBelowZero_26 rfl rfl (Or.inl ⟨_, rfl, ⟨rfl, (by unfold tw_01; decide)⟩⟩)
  refine tw_lv [3, 2, 1, 0] rfl ?_
  exact L11 (5 + 1) 0  (by omega) (by omega)

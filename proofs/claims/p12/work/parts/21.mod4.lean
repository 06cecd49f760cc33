/-! the class's methods over the typed heap. Laid by wip/p5/mkclass.py. -/
set_option maxHeartbeats 4000000 in
set_option maxRecDepth 100000 in
theorem c_X7_init (d : tw_D) (g : tw_G) (τ : tw_K) (h : tw_H) (hw : tw_wt d g τ h) (x : Nat) (hz : τ x = 0) (hx : h x = some (.inr (11, [.int 0, .int 0, .null, .null, .null]))) : tw_Ct d mX7_init 3 9 [.ref x] h (tw_qv (fun h1 => ∃ (τ1 : tw_K) (v o t : Nat), tw_sp d τ (tw_rm h x) g τ1 h1 ∧ h1 x = some (.inr (11, [.int 0, .int 0, .ref v, .ref o, .ref t])) ∧ τ1 x = 0 ∧ τ1 v = 31 ∧ τ1 o = 32 ∧ τ1 t = 33) tw_nx) := by
  refine tw_of (by decide +kernel) (Nat.le_of_ble_eq_true rfl) ?_
  show tw_W d mX7_init _ 0 [(0, .ref x)] [] h 3 9
  have sp0 := tw_sp.rm hw x
  refine tw_aload_n 0 dX7_init_0 rfl rfl ?_
  refine tw_objInit dX7_init_1 w_1217 w_117 w_118 ⟨by decide, Nat.le_of_ble_eq_true rfl⟩ ?_
  refine tw_aload_n 0 dX7_init_4 rfl rfl ?_
  refine tw_iconst (v := 2) dX7_init_5 (by decide) ?_
  refine tw_newa (a0 := (2, .inr (.inl (fun _ => 0)))) 1 rfl dX7_init_6 rfl w_1150 (fun _ => rfl) (by decide) (by decide) (by decide) 2 7 (Nat.le_of_ble_eq_true rfl) (Nat.le_of_ble_eq_true rfl) (fun q1 hq2 hA3 => ?_)
  have n4 := sp0.nn hq2
  have z5 := sp0.1.none hq2
  have ne6 := tw_neF hx hq2
  obtain ⟨h7, eh7⟩ : ∃ z : tw_H, z = tw_up h q1 (.inl (d.2 1, 2, .inr (.inl (fun _ => 0)))) := ⟨_, rfl⟩
  rw [← eh7]
  have sp8 : tw_sp d τ (tw_rm h x) g τ h7 := by rw [eh7]; exact sp0.mk hq2
  have f9 : h7 x = some (.inr (11, [.int 0, .int 0, .null, .null, .null])) := by rw [eh7, tw_up_n ne6]; exact hx
  have f10 : h7 q1 = some (.inl (d.2 1, 2, .inr (.inl (fun _ => 0)))) := by rw [eh7]; exact tw_up_s
  obtain ⟨τ11, eτ11⟩ : ∃ z : tw_K, z = tw_ku τ q1 31 := ⟨_, rfl⟩
  have le12 : tw_le τ τ11 := by rw [eτ11]; exact tw_ku_le z5
  have sp13 : tw_sp d τ (tw_rm h x) g τ11 h7 := by rw [eτ11]; exact sp8.ty n4 z5 f10 (by rw [← eτ11]; exact ⟨_, rfl⟩)
  have k14 : τ11 q1 = 31 := by rw [eτ11]; exact tw_ku_s
  have z15 : τ11 x = 0 := by rw [eτ11, tw_ku_n ne6]; exact hz
  refine tw_put rfl in_11 tyX7 tyX7_ok nmX7 2 dX7_init_8 w_1220 rfl (by decide) f9 rfl rfl rfl rfl (Nat.le_of_ble_eq_true rfl) [.int 0, .int 0, .ref q1, .null, .null] rfl ?_
  obtain ⟨h16, eh16⟩ : ∃ z : tw_H, z = tw_up h7 x (.inr (11, [.int 0, .int 0, .ref q1, .null, .null])) := ⟨_, rfl⟩
  rw [← eh16]
  have sp17 : tw_sp d τ (tw_rm h x) g τ11 h16 := by rw [eh16]; exact sp13.wl tw_rm_s z15
  have f18 : h16 x = some (.inr (11, [.int 0, .int 0, .ref q1, .null, .null])) := by rw [eh16]; exact tw_up_s
  refine tw_aload_n 0 dX7_init_11 rfl rfl ?_
  refine tw_iconst (v := 2) dX7_init_12 (by decide) ?_
  refine tw_newa (a0 := (2, .inl (fun _ => 0))) 2 rfl dX7_init_13 rfl w_1237 (fun _ => rfl) (by decide) (by decide) (by decide) 1 5 (Nat.le_of_ble_eq_true rfl) (Nat.le_of_ble_eq_true rfl) (fun q19 hq20 hA21 => ?_)
  have n22 := sp17.nn hq20
  have z23 := sp17.1.none hq20
  have ne24 := tw_neF f18 hq20
  obtain ⟨h25, eh25⟩ : ∃ z : tw_H, z = tw_up h16 q19 (.inl (d.2 2, 2, .inl (fun _ => 0))) := ⟨_, rfl⟩
  rw [← eh25]
  have sp26 : tw_sp d τ (tw_rm h x) g τ11 h25 := by rw [eh25]; exact sp17.mk hq20
  have f27 : h25 x = some (.inr (11, [.int 0, .int 0, .ref q1, .null, .null])) := by rw [eh25, tw_up_n ne24]; exact f18
  have f28 : h25 q19 = some (.inl (d.2 2, 2, .inl (fun _ => 0))) := by rw [eh25]; exact tw_up_s
  obtain ⟨τ29, eτ29⟩ : ∃ z : tw_K, z = tw_ku τ11 q19 32 := ⟨_, rfl⟩
  have le30 : tw_le τ11 τ29 := by rw [eτ29]; exact tw_ku_le z23
  have k31 : τ29 q1 = 31 := le30.k k14 (by decide)
  have sp32 : tw_sp d τ (tw_rm h x) g τ29 h25 := by rw [eτ29]; exact sp26.ty n22 z23 f28 (by rw [← eτ29]; exact ⟨_, rfl, fun _ => Or.inl rfl⟩)
  have k33 : τ29 q19 = 32 := by rw [eτ29]; exact tw_ku_s
  have z34 : τ29 x = 0 := by rw [eτ29, tw_ku_n ne24]; exact z15
  refine tw_dup dX7_init_15 rfl ?_
  refine tw_iconst (v := 0) dX7_init_16 (by decide) ?_
  refine tw_iconst (v := 1) dX7_init_17 (by decide) ?_
  obtain ⟨e35, f36, F37, rfl, k38⟩ := sp32.1 q19 32 k33 (by decide)
  refine tw_zast dX7_init_18 f36 (vp_in_nI (n := 0) (by decide) (by decide)) ?_
  obtain ⟨h39, eh39⟩ : ∃ z : tw_H, z = tw_up h25 q19 (.inl (d.2 2, 2, .inl (upd F37 (0 : Int32).toNatClampNeg (vp_nar .boolean 1)))) := ⟨_, rfl⟩
  rw [← eh39]
  have sp40 : tw_sp d τ (tw_rm h x) g τ29 h39 := by rw [eh39]; exact sp32.set k33 (by decide) ⟨_, rfl, tw_01up k38 (tw_vp01 (by unfold tw_01; decide))⟩
  have f41 : h39 x = some (.inr (11, [.int 0, .int 0, .ref q1, .null, .null])) := by rw [eh39, tw_up_n ne24]; exact f27
  refine tw_dup dX7_init_19 rfl ?_
  refine tw_iconst (v := 1) dX7_init_20 (by decide) ?_
  refine tw_iconst (v := 1) dX7_init_21 (by decide) ?_
  obtain ⟨e42, f43, F44, rfl, k45⟩ := sp40.1 q19 32 k33 (by decide)
  refine tw_zast dX7_init_22 f43 (vp_in_nI (n := 1) (by decide) (by decide)) ?_
  obtain ⟨h46, eh46⟩ : ∃ z : tw_H, z = tw_up h39 q19 (.inl (d.2 2, 2, .inl (upd F44 (1 : Int32).toNatClampNeg (vp_nar .boolean 1)))) := ⟨_, rfl⟩
  rw [← eh46]
  have sp47 : tw_sp d τ (tw_rm h x) g τ29 h46 := by rw [eh46]; exact sp40.set k33 (by decide) ⟨_, rfl, tw_01up k45 (tw_vp01 (by unfold tw_01; decide))⟩
  have f48 : h46 x = some (.inr (11, [.int 0, .int 0, .ref q1, .null, .null])) := by rw [eh46, tw_up_n ne24]; exact f41
  refine tw_put rfl in_11 tyX7 tyX7_ok nmX7 3 dX7_init_23 w_1222 rfl (by decide) f48 rfl rfl rfl rfl (Nat.le_of_ble_eq_true rfl) [.int 0, .int 0, .ref q1, .ref q19, .null] rfl ?_
  obtain ⟨h49, eh49⟩ : ∃ z : tw_H, z = tw_up h46 x (.inr (11, [.int 0, .int 0, .ref q1, .ref q19, .null])) := ⟨_, rfl⟩
  rw [← eh49]
  have sp50 : tw_sp d τ (tw_rm h x) g τ29 h49 := by rw [eh49]; exact sp47.wl tw_rm_s z34
  have f51 : h49 x = some (.inr (11, [.int 0, .int 0, .ref q1, .ref q19, .null])) := by rw [eh49]; exact tw_up_s
  refine tw_aload_n 0 dX7_init_26 rfl rfl ?_
  refine tw_iconst (v := 5) dX7_init_27 (by decide) ?_
  refine tw_newa (a0 := (5, .inl (fun _ => 0))) 0 rfl dX7_init_28 rfl w_500 (fun _ => rfl) (by decide) (by decide) (by decide) 0 0 (Nat.le_of_ble_eq_true rfl) (Nat.le_of_ble_eq_true rfl) (fun q52 hq53 hA54 => ?_)
  have n55 := sp50.nn hq53
  have z56 := sp50.1.none hq53
  have ne57 := tw_neF f51 hq53
  obtain ⟨h58, eh58⟩ : ∃ z : tw_H, z = tw_up h49 q52 (.inl (d.2 0, 5, .inl (fun _ => 0))) := ⟨_, rfl⟩
  rw [← eh58]
  have sp59 : tw_sp d τ (tw_rm h x) g τ29 h58 := by rw [eh58]; exact sp50.mk hq53
  have f60 : h58 x = some (.inr (11, [.int 0, .int 0, .ref q1, .ref q19, .null])) := by rw [eh58, tw_up_n ne57]; exact f51
  have f61 : h58 q52 = some (.inl (d.2 0, 5, .inl (fun _ => 0))) := by rw [eh58]; exact tw_up_s
  obtain ⟨τ62, eτ62⟩ : ∃ z : tw_K, z = tw_ku τ29 q52 33 := ⟨_, rfl⟩
  have le63 : tw_le τ29 τ62 := by rw [eτ62]; exact tw_ku_le z56
  have k64 : τ62 q1 = 31 := le63.k k31 (by decide)
  have k65 : τ62 q19 = 32 := le63.k k33 (by decide)
  have sp66 : tw_sp d τ (tw_rm h x) g τ62 h58 := by rw [eτ62]; exact sp59.ty n55 z56 f61 (by rw [← eτ62]; exact ⟨_, rfl, fun _ => by decide⟩)
  have k67 : τ62 q52 = 33 := by rw [eτ62]; exact tw_ku_s
  have z68 : τ62 x = 0 := by rw [eτ62, tw_ku_n ne57]; exact z34
  refine tw_put rfl in_11 tyX7 tyX7_ok nmX7 4 dX7_init_30 w_1224 rfl (by decide) f60 rfl rfl rfl rfl (Nat.le_of_ble_eq_true rfl) [.int 0, .int 0, .ref q1, .ref q19, .ref q52] rfl ?_
  obtain ⟨h69, eh69⟩ : ∃ z : tw_H, z = tw_up h58 x (.inr (11, [.int 0, .int 0, .ref q1, .ref q19, .ref q52])) := ⟨_, rfl⟩
  rw [← eh69]
  have sp70 : tw_sp d τ (tw_rm h x) g τ62 h69 := by rw [eh69]; exact sp66.wl tw_rm_s z68
  have f71 : h69 x = some (.inr (11, [.int 0, .int 0, .ref q1, .ref q19, .ref q52])) := by rw [eh69]; exact tw_up_s
  exact tw_vret dX7_init_33 rfl (Or.inl ⟨rfl, _, q1, q19, q52, sp70, f71, z68, k64, k65, k67⟩)

set_option maxHeartbeats 4000000 in
set_option maxRecDepth 100000 in
theorem c_X9_init (d : tw_D) (g : tw_G) (τ : tw_K) (h : tw_H) (hw : tw_wt d g τ h) (x : Nat) (hz : τ x = 0) (hx : h x = some (.inr (13, [.int 0, .int 0, .int 0, .null]))) : tw_Ct d mX9_init 1 2 [.ref x] h (tw_qv (fun h1 => ∃ (τ1 : tw_K) (p : Nat), tw_sp d τ (tw_rm h x) g τ1 h1 ∧ h1 x = some (.inr (13, [.int 0, .int (-1), .int (-1), .ref p])) ∧ τ1 x = 0 ∧ τ1 p = 31) tw_nx) := by
  refine tw_of (by decide +kernel) (Nat.le_of_ble_eq_true rfl) ?_
  show tw_W d mX9_init _ 0 [(0, .ref x)] [] h 1 2
  have sp0 := tw_sp.rm hw x
  refine tw_aload_n 0 dX9_init_0 rfl rfl ?_
  refine tw_objInit dX9_init_1 w_1341 w_117 w_118 ⟨by decide, Nat.le_of_ble_eq_true rfl⟩ ?_
  refine tw_aload_n 0 dX9_init_4 rfl rfl ?_
  refine tw_iconst (v := -1) dX9_init_5 (by decide) ?_
  refine tw_put rfl in_13 tyX9 tyX9_ok nmX9 1 dX9_init_6 w_1343 rfl (by decide) hx rfl rfl rfl rfl (Nat.le_of_ble_eq_true rfl) [.int 0, .int (-1), .int 0, .null] rfl ?_
  obtain ⟨h1, eh1⟩ : ∃ z : tw_H, z = tw_up h x (.inr (13, [.int 0, .int (-1), .int 0, .null])) := ⟨_, rfl⟩
  rw [← eh1]
  have sp2 : tw_sp d τ (tw_rm h x) g τ h1 := by rw [eh1]; exact sp0.wl tw_rm_s hz
  have f3 : h1 x = some (.inr (13, [.int 0, .int (-1), .int 0, .null])) := by rw [eh1]; exact tw_up_s
  refine tw_aload_n 0 dX9_init_9 rfl rfl ?_
  refine tw_iconst (v := -1) dX9_init_10 (by decide) ?_
  refine tw_put rfl in_13 tyX9 tyX9_ok nmX9 2 dX9_init_11 w_1345 rfl (by decide) f3 rfl rfl rfl rfl (Nat.le_of_ble_eq_true rfl) [.int 0, .int (-1), .int (-1), .null] rfl ?_
  obtain ⟨h4, eh4⟩ : ∃ z : tw_H, z = tw_up h1 x (.inr (13, [.int 0, .int (-1), .int (-1), .null])) := ⟨_, rfl⟩
  rw [← eh4]
  have sp5 : tw_sp d τ (tw_rm h x) g τ h4 := by rw [eh4]; exact sp2.wl tw_rm_s hz
  have f6 : h4 x = some (.inr (13, [.int 0, .int (-1), .int (-1), .null])) := by rw [eh4]; exact tw_up_s
  refine tw_aload_n 0 dX9_init_14 rfl rfl ?_
  refine tw_iconst (v := 2) dX9_init_15 (by decide) ?_
  refine tw_newa (a0 := (2, .inr (.inl (fun _ => 0)))) 1 rfl dX9_init_16 rfl w_1150 (fun _ => rfl) (by decide) (by decide) (by decide) 0 0 (Nat.le_of_ble_eq_true rfl) (Nat.le_of_ble_eq_true rfl) (fun q7 hq8 hA9 => ?_)
  have n10 := sp5.nn hq8
  have z11 := sp5.1.none hq8
  have ne12 := tw_neF f6 hq8
  obtain ⟨h13, eh13⟩ : ∃ z : tw_H, z = tw_up h4 q7 (.inl (d.2 1, 2, .inr (.inl (fun _ => 0)))) := ⟨_, rfl⟩
  rw [← eh13]
  have sp14 : tw_sp d τ (tw_rm h x) g τ h13 := by rw [eh13]; exact sp5.mk hq8
  have f15 : h13 x = some (.inr (13, [.int 0, .int (-1), .int (-1), .null])) := by rw [eh13, tw_up_n ne12]; exact f6
  have f16 : h13 q7 = some (.inl (d.2 1, 2, .inr (.inl (fun _ => 0)))) := by rw [eh13]; exact tw_up_s
  obtain ⟨τ17, eτ17⟩ : ∃ z : tw_K, z = tw_ku τ q7 31 := ⟨_, rfl⟩
  have le18 : tw_le τ τ17 := by rw [eτ17]; exact tw_ku_le z11
  have sp19 : tw_sp d τ (tw_rm h x) g τ17 h13 := by rw [eτ17]; exact sp14.ty n10 z11 f16 (by rw [← eτ17]; exact ⟨_, rfl⟩)
  have k20 : τ17 q7 = 31 := by rw [eτ17]; exact tw_ku_s
  have z21 : τ17 x = 0 := by rw [eτ17, tw_ku_n ne12]; exact hz
  refine tw_put rfl in_13 tyX9 tyX9_ok nmX9 3 dX9_init_18 w_1347 rfl (by decide) f15 rfl rfl rfl rfl (Nat.le_of_ble_eq_true rfl) [.int 0, .int (-1), .int (-1), .ref q7] rfl ?_
  obtain ⟨h22, eh22⟩ : ∃ z : tw_H, z = tw_up h13 x (.inr (13, [.int 0, .int (-1), .int (-1), .ref q7])) := ⟨_, rfl⟩
  rw [← eh22]
  have sp23 : tw_sp d τ (tw_rm h x) g τ17 h22 := by rw [eh22]; exact sp19.wl tw_rm_s z21
  have f24 : h22 x = some (.inr (13, [.int 0, .int (-1), .int (-1), .ref q7])) := by rw [eh22]; exact tw_up_s
  exact tw_vret dX9_init_21 rfl (Or.inl ⟨rfl, _, q7, sp23, f24, z21, k20⟩)

set_option maxHeartbeats 4000000 in
set_option maxRecDepth 100000 in
theorem c_X8_init (d : tw_D) (g : tw_G) (τ : tw_K) (h : tw_H) (hw : tw_wt d g τ h) (x : Nat) (hz : τ x = 0) (hx : h x = some (.inr (12, [.int 0, .int 0, .int 0, .int 0, .int 0]))) : tw_Ct d mX8_init 0 0 [.ref x] h (tw_qv (fun h1 => ∃ (τ1 : tw_K), tw_sp d τ (tw_rm h x) g τ1 h1 ∧ h1 x = some (.inr (12, [.int 0, .int 0, .int 0, .int 0, .int 0])) ∧ τ1 x = 0) tw_nx) := by
  refine tw_of (by decide +kernel) (Nat.le_of_ble_eq_true rfl) ?_
  show tw_W d mX8_init _ 0 [(0, .ref x)] [] h 0 0
  have sp0 := tw_sp.rm hw x
  refine tw_aload_n 0 dX8_init_0 rfl rfl ?_
  refine tw_objInit dX8_init_1 w_1442 w_117 w_118 ⟨by decide, Nat.le_of_ble_eq_true rfl⟩ ?_
  exact tw_vret dX8_init_4 rfl (Or.inl ⟨rfl, _, sp0, hx, hz⟩)

set_option maxHeartbeats 4000000 in
set_option maxRecDepth 100000 in
theorem c_X10_country (d : tw_D) (g : tw_G) (τ : tw_K) (h : tw_H) (hw : tw_wt d g τ h) (x : Nat) (kx : τ x = 36) (r : Int32) (ct : Int32) (go : Int32) (si : Int32) : tw_Ct d mX10_country 10 60 [.ref x, .int r, .int ct, .int go, .int si] h (tw_qi (fun r h1 => ∃ g1 τ1, tw_ga g g1 ∧ tw_sp d τ h g1 τ1 h1) tw_nx) := by
  refine tw_of (by decide +kernel) (Nat.le_of_ble_eq_true rfl) ?_
  show tw_W d mX10_country _ 0 [(0, .ref x), (1, .int r), (2, .int ct), (3, .int go), (4, .int si)] [] h 10 60
  have sp0 := tw_sp.rf hw
  refine tw_aload_n 0 dX10_country_0 rfl rfl ?_
  refine tw_iload_n 1 dX10_country_1 rfl rfl ?_
  refine tw_bipush (v := 100) dX10_country_2 (by decide) ?_
  refine tw_sipush (v := 200) dX10_country_4 (by decide) ?_
  refine tw_bi (tw_callS (M := mX10_country) (pc := 7) okX10_isIn dX10_country_7 w_1196 [.int r, .int 100, .int 200] [.ref x] rfl rfl ⟨by decide, by decide⟩ (Nat.le_of_ble_eq_true rfl) (c_X10_isIn d g τ h sp0.1 r 100 200) 10 60 (Nat.le_of_ble_eq_true rfl) (Nat.le_of_ble_eq_true rfl)) (fun r3 h2 q1 => ?_) (fun E h1 q => q.elim)
  obtain ⟨q1e, q1d⟩ := q1
  rw [q1e]
  rcases q1d with ⟨q1r, q1n⟩ | ⟨q1r, q1a, q1b⟩
  · rw [q1r]
    refine tw_if_eq 44 dX10_country_10 (by decide) (fun _ => ?_) (fun c4 => absurd (by decide) c4)
    refine tw_iconst (v := 1) dX10_country_44 (by decide) ?_
    refine tw_goto 49 dX10_country_45 (by decide) ?_
    refine tw_iconst (v := 1) dX10_country_49 (by decide) ?_
    obtain ⟨e5, f6, th_7, td_8, ds_9, fr_10, ca_11, us_12, wo_13, cm_14, lc_15, lh_16, ld_17, rfl, k18, k19, k20, k21, k22, k23, k24, k25, k26, k27, k28, k29, k30, k31, k32, k33⟩ := sp0.1 x 36 kx (by decide)
    refine tw_bi (tw_callV (M := mX10_country) (pc := 50) okX10_start dX10_country_50 w_1200 rfl f6 [.int 1, .int 1] [] rfl rfl ⟨by decide, by decide⟩ (Nat.le_of_ble_eq_true rfl) (c_X10_start d g τ h sp0.1 x kx 1 1 (by decide)) 10 60 (Nat.le_of_ble_eq_true rfl) (Nat.le_of_ble_eq_true rfl)) (fun r36 h35 q34 => ?_) (fun E h1 q => q.elim)
    obtain ⟨e37, he38, hs39, hr40, h341⟩ := q34
    have sp42 : tw_sp d τ h g τ h35 := by rw [he38]; exact sp0.set kx (by decide) hs39
    rcases hr40 with ei43 | ⟨ei43, ei43b⟩
    · rw [ei43]
      refine tw_if_ne 80 dX10_country_53 (by decide) (fun _ => ?_) (fun c44 => absurd c44 (by decide))
      refine tw_iconst (v := 0) dX10_country_80 (by decide) ?_
      exact tw_iret dX10_country_81 rfl (Or.inl ⟨_, rfl, ⟨_, _, ⟨rfl, rfl⟩, sp42⟩⟩)
    · exact absurd ei43b (by decide)
  · rw [q1r]
    refine tw_if_eq 44 dX10_country_10 (by decide) (fun c45 => absurd c45 (by decide)) (fun _ => ?_)
    refine tw_iload_n 2 dX10_country_13 rfl rfl ?_
    refine tw_iconst (v := 0) dX10_country_14 (by decide) ?_
    refine tw_bipush (v := 50) dX10_country_15 (by decide) ?_
    refine tw_bi (tw_callS (M := mX10_country) (pc := 17) okX10_isIn dX10_country_17 w_1196 [.int ct, .int 0, .int 50] [.ref x] rfl rfl ⟨by decide, by decide⟩ (Nat.le_of_ble_eq_true rfl) (c_X10_isIn d g τ h sp0.1 ct 0 50) 10 60 (Nat.le_of_ble_eq_true rfl) (Nat.le_of_ble_eq_true rfl)) (fun r48 h47 q46 => ?_) (fun E h1 q => q.elim)
    obtain ⟨q46e, q46d⟩ := q46
    rw [q46e]
    rcases q46d with ⟨q46r, q46n⟩ | ⟨q46r, q46a, q46b⟩
    · rw [q46r]
      refine tw_if_eq 44 dX10_country_20 (by decide) (fun _ => ?_) (fun c49 => absurd (by decide) c49)
      refine tw_iconst (v := 1) dX10_country_44 (by decide) ?_
      refine tw_goto 49 dX10_country_45 (by decide) ?_
      refine tw_iconst (v := 1) dX10_country_49 (by decide) ?_
      obtain ⟨e50, f51, th_52, td_53, ds_54, fr_55, ca_56, us_57, wo_58, cm_59, lc_60, lh_61, ld_62, rfl, k63, k64, k65, k66, k67, k68, k69, k70, k71, k72, k73, k74, k75, k76, k77, k78⟩ := sp0.1 x 36 kx (by decide)
      refine tw_bi (tw_callV (M := mX10_country) (pc := 50) okX10_start dX10_country_50 w_1200 rfl f51 [.int 1, .int 1] [] rfl rfl ⟨by decide, by decide⟩ (Nat.le_of_ble_eq_true rfl) (c_X10_start d g τ h sp0.1 x kx 1 1 (by decide)) 10 60 (Nat.le_of_ble_eq_true rfl) (Nat.le_of_ble_eq_true rfl)) (fun r81 h80 q79 => ?_) (fun E h1 q => q.elim)
      obtain ⟨e82, he83, hs84, hr85, h386⟩ := q79
      have sp87 : tw_sp d τ h g τ h80 := by rw [he83]; exact sp0.set kx (by decide) hs84
      rcases hr85 with ei88 | ⟨ei88, ei88b⟩
      · rw [ei88]
        refine tw_if_ne 80 dX10_country_53 (by decide) (fun _ => ?_) (fun c89 => absurd c89 (by decide))
        refine tw_iconst (v := 0) dX10_country_80 (by decide) ?_
        exact tw_iret dX10_country_81 rfl (Or.inl ⟨_, rfl, ⟨_, _, ⟨rfl, rfl⟩, sp87⟩⟩)
      · exact absurd ei88b (by decide)
    · rw [q46r]
      refine tw_if_eq 44 dX10_country_20 (by decide) (fun c90 => absurd c90 (by decide)) (fun _ => ?_)
      refine tw_iload_n 3 dX10_country_23 rfl rfl ?_
      refine tw_iconst (v := 0) dX10_country_24 (by decide) ?_
      refine tw_ldc (v := 99999) dX10_country_25 w_1199 ?_
      refine tw_bi (tw_callS (M := mX10_country) (pc := 27) okX10_isIn dX10_country_27 w_1196 [.int go, .int 0, .int 99999] [.ref x] rfl rfl ⟨by decide, by decide⟩ (Nat.le_of_ble_eq_true rfl) (c_X10_isIn d g τ h sp0.1 go 0 99999) 10 60 (Nat.le_of_ble_eq_true rfl) (Nat.le_of_ble_eq_true rfl)) (fun r93 h92 q91 => ?_) (fun E h1 q => q.elim)
      obtain ⟨q91e, q91d⟩ := q91
      rw [q91e]
      rcases q91d with ⟨q91r, q91n⟩ | ⟨q91r, q91a, q91b⟩
      · rw [q91r]
        refine tw_if_eq 44 dX10_country_30 (by decide) (fun _ => ?_) (fun c94 => absurd (by decide) c94)
        refine tw_iconst (v := 1) dX10_country_44 (by decide) ?_
        refine tw_goto 49 dX10_country_45 (by decide) ?_
        refine tw_iconst (v := 1) dX10_country_49 (by decide) ?_
        obtain ⟨e95, f96, th_97, td_98, ds_99, fr_100, ca_101, us_102, wo_103, cm_104, lc_105, lh_106, ld_107, rfl, k108, k109, k110, k111, k112, k113, k114, k115, k116, k117, k118, k119, k120, k121, k122, k123⟩ := sp0.1 x 36 kx (by decide)
        refine tw_bi (tw_callV (M := mX10_country) (pc := 50) okX10_start dX10_country_50 w_1200 rfl f96 [.int 1, .int 1] [] rfl rfl ⟨by decide, by decide⟩ (Nat.le_of_ble_eq_true rfl) (c_X10_start d g τ h sp0.1 x kx 1 1 (by decide)) 10 60 (Nat.le_of_ble_eq_true rfl) (Nat.le_of_ble_eq_true rfl)) (fun r126 h125 q124 => ?_) (fun E h1 q => q.elim)
        obtain ⟨e127, he128, hs129, hr130, h3131⟩ := q124
        have sp132 : tw_sp d τ h g τ h125 := by rw [he128]; exact sp0.set kx (by decide) hs129
        rcases hr130 with ei133 | ⟨ei133, ei133b⟩
        · rw [ei133]
          refine tw_if_ne 80 dX10_country_53 (by decide) (fun _ => ?_) (fun c134 => absurd c134 (by decide))
          refine tw_iconst (v := 0) dX10_country_80 (by decide) ?_
          exact tw_iret dX10_country_81 rfl (Or.inl ⟨_, rfl, ⟨_, _, ⟨rfl, rfl⟩, sp132⟩⟩)
        · exact absurd ei133b (by decide)
      · rw [q91r]
        refine tw_if_eq 44 dX10_country_30 (by decide) (fun c135 => absurd c135 (by decide)) (fun _ => ?_)
        refine tw_iload 4 dX10_country_33 rfl ?_
        refine tw_iconst (v := 0) dX10_country_35 (by decide) ?_
        refine tw_ldc (v := 99999) dX10_country_36 w_1199 ?_
        refine tw_bi (tw_callS (M := mX10_country) (pc := 38) okX10_isIn dX10_country_38 w_1196 [.int si, .int 0, .int 99999] [.ref x] rfl rfl ⟨by decide, by decide⟩ (Nat.le_of_ble_eq_true rfl) (c_X10_isIn d g τ h sp0.1 si 0 99999) 10 60 (Nat.le_of_ble_eq_true rfl) (Nat.le_of_ble_eq_true rfl)) (fun r138 h137 q136 => ?_) (fun E h1 q => q.elim)
        obtain ⟨q136e, q136d⟩ := q136
        rw [q136e]
        rcases q136d with ⟨q136r, q136n⟩ | ⟨q136r, q136a, q136b⟩
        · rw [q136r]
          refine tw_if_ne 48 dX10_country_41 (by decide) (fun c139 => absurd (by decide) c139) (fun _ => ?_)
          refine tw_iconst (v := 1) dX10_country_44 (by decide) ?_
          refine tw_goto 49 dX10_country_45 (by decide) ?_
          refine tw_iconst (v := 1) dX10_country_49 (by decide) ?_
          obtain ⟨e140, f141, th_142, td_143, ds_144, fr_145, ca_146, us_147, wo_148, cm_149, lc_150, lh_151, ld_152, rfl, k153, k154, k155, k156, k157, k158, k159, k160, k161, k162, k163, k164, k165, k166, k167, k168⟩ := sp0.1 x 36 kx (by decide)
          refine tw_bi (tw_callV (M := mX10_country) (pc := 50) okX10_start dX10_country_50 w_1200 rfl f141 [.int 1, .int 1] [] rfl rfl ⟨by decide, by decide⟩ (Nat.le_of_ble_eq_true rfl) (c_X10_start d g τ h sp0.1 x kx 1 1 (by decide)) 10 60 (Nat.le_of_ble_eq_true rfl) (Nat.le_of_ble_eq_true rfl)) (fun r171 h170 q169 => ?_) (fun E h1 q => q.elim)
          obtain ⟨e172, he173, hs174, hr175, h3176⟩ := q169
          have sp177 : tw_sp d τ h g τ h170 := by rw [he173]; exact sp0.set kx (by decide) hs174
          rcases hr175 with ei178 | ⟨ei178, ei178b⟩
          · rw [ei178]
            refine tw_if_ne 80 dX10_country_53 (by decide) (fun _ => ?_) (fun c179 => absurd c179 (by decide))
            refine tw_iconst (v := 0) dX10_country_80 (by decide) ?_
            exact tw_iret dX10_country_81 rfl (Or.inl ⟨_, rfl, ⟨_, _, ⟨rfl, rfl⟩, sp177⟩⟩)
          · exact absurd ei178b (by decide)
        · rw [q136r]
          refine tw_if_ne 48 dX10_country_41 (by decide) (fun _ => ?_) (fun c180 => absurd c180 (by decide))
          refine tw_iconst (v := 0) dX10_country_48 (by decide) ?_
          refine tw_iconst (v := 1) dX10_country_49 (by decide) ?_
          obtain ⟨e181, f182, th_183, td_184, ds_185, fr_186, ca_187, us_188, wo_189, cm_190, lc_191, lh_192, ld_193, rfl, k194, k195, k196, k197, k198, k199, k200, k201, k202, k203, k204, k205, k206, k207, k208, k209⟩ := sp0.1 x 36 kx (by decide)
          refine tw_bi (tw_callV (M := mX10_country) (pc := 50) okX10_start dX10_country_50 w_1200 rfl f182 [.int 0, .int 1] [] rfl rfl ⟨by decide, by decide⟩ (Nat.le_of_ble_eq_true rfl) (c_X10_start d g τ h sp0.1 x kx 0 1 (by decide)) 10 60 (Nat.le_of_ble_eq_true rfl) (Nat.le_of_ble_eq_true rfl)) (fun r212 h211 q210 => ?_) (fun E h1 q => q.elim)
          obtain ⟨e213, he214, hs215, hr216, h3217⟩ := q210
          have sp218 : tw_sp d τ h g τ h211 := by rw [he214]; exact sp0.set kx (by decide) hs215
          rcases hr216 with ei219 | ⟨ei219, ei219b⟩
          · rw [ei219]
            refine tw_if_ne 80 dX10_country_53 (by decide) (fun _ => ?_) (fun c220 => absurd c220 (by decide))
            refine tw_iconst (v := 0) dX10_country_80 (by decide) ?_
            exact tw_iret dX10_country_81 rfl (Or.inl ⟨_, rfl, ⟨_, _, ⟨rfl, rfl⟩, sp218⟩⟩)
          · rw [ei219]
            refine tw_if_ne 80 dX10_country_53 (by decide) (fun c221 => absurd (by decide) c221) (fun _ => ?_)
            refine tw_aload_n 0 dX10_country_56 rfl rfl ?_
            refine tw_aload_n 0 dX10_country_57 rfl rfl ?_
            obtain ⟨e222, f223, th_224, td_225, ds_226, fr_227, ca_228, us_229, wo_230, cm_231, lc_232, lh_233, ld_234, rfl, k235, k236, k237, k238, k239, k240, k241, k242, k243, k244, k245, k246, k247, k248, k249, k250⟩ := sp218.1 x 36 kx (by decide)
            refine tw_get (v := .ref lc_232) rfl in_14 9 dX10_country_58 w_1160 rfl (by decide) f223 rfl ?_
            obtain ⟨e251, f252, ⟨el253, rfl, k254⟩, k255⟩ := sp218.1 lc_232 24 k241 (by decide)
            refine tw_bi (tw_callV (M := mX10_country) (pc := 61) okJx4a65c_size_8abf5 dX10_country_61 w_1208 rfl f252 [] [.ref x] rfl rfl ⟨by decide, by decide⟩ (Nat.le_of_ble_eq_true rfl) (c24_size d g τ h211 sp218.1 lc_232 k241) 10 60 (Nat.le_of_ble_eq_true rfl) (Nat.le_of_ble_eq_true rfl)) (fun r258 h257 q256 => ?_) (fun E h1 q => q.elim)
            obtain ⟨q256e, q256r⟩ := q256
            rw [q256e, q256r]
            refine tw_iconst (v := 4) dX10_country_64 (by decide) ?_
            refine tw_icmp_ne 72 dX10_country_65 (by decide) (fun c259 => ?_) (fun c259 => ?_)
            · refine tw_iconst (v := 0) dX10_country_72 (by decide) ?_
              refine tw_iconst (v := 2) dX10_country_73 (by decide) ?_
              refine tw_bi (tw_callV (M := mX10_country) (pc := 74) okX10_refuse dX10_country_74 w_1204 rfl f223 [.int 0, .int 2] [] rfl rfl ⟨by decide, by decide⟩ (Nat.le_of_ble_eq_true rfl) (c_X10_refuse d g τ h211 sp218.1 x kx 0 2 (by decide)) 10 60 (Nat.le_of_ble_eq_true rfl) (Nat.le_of_ble_eq_true rfl)) (fun r262 h261 q260 => ?_) (fun E h1 q => q.elim)
              obtain ⟨e263, he264, hs265, hr266, h3267⟩ := q260
              have sp268 : tw_sp d τ h g τ h261 := by rw [he264]; exact sp218.set kx (by decide) hs265
              have f269 : h261 lc_232 = some (.inr (3, [.int (g.1 3), .ref el253, .int (nI (g.2 3))])) := by rw [he264, tw_up_n (fun q => absurd (k241) (by rw [q, kx]; decide))]; exact f252
              rcases hr266 with ei270 | ⟨ei270, ei270b⟩
              · rw [ei270]
                refine tw_if_eq 82 dX10_country_77 (by decide) (fun c271 => absurd c271 (by decide)) (fun _ => ?_)
                refine tw_iconst (v := 0) dX10_country_80 (by decide) ?_
                exact tw_iret dX10_country_81 rfl (Or.inl ⟨_, rfl, ⟨_, _, ⟨rfl, rfl⟩, sp268⟩⟩)
              · rw [ei270]
                refine tw_if_eq 82 dX10_country_77 (by decide) (fun _ => ?_) (fun c272 => absurd (by decide) c272)
                refine tw_new (ci := 11) rfl in_11 tyX7 tyX7_ok dX10_country_82 w_1212 w_1213 w_91 (fs := [.int 0, .int 0, .null, .null, .null]) (fun j hj => by rcases (show j = 0 ∨ j = 1 ∨ j = 2 ∨ j = 3 ∨ j = 4 by omega) with rfl | rfl | rfl | rfl | rfl <;> rfl) 9 55 (Nat.le_of_ble_eq_true rfl) (Nat.le_of_ble_eq_true rfl) (fun q273 hq274 hA275 => ?_)
                have n276 := sp268.nn hq274
                have z277 := sp268.1.none hq274
                obtain ⟨h278, eh278⟩ : ∃ z : tw_H, z = tw_up h261 q273 (.inr (11, [.int 0, .int 0, .null, .null, .null])) := ⟨_, rfl⟩
                rw [← eh278]
                have sp279 : tw_sp d τ h g τ h278 := by rw [eh278]; exact sp268.mk hq274
                have f280 : h278 q273 = some (.inr (11, [.int 0, .int 0, .null, .null, .null])) := by rw [eh278]; exact tw_up_s
                refine tw_dup dX10_country_85 rfl ?_
                refine tw_bv (tw_callIN (M := mX10_country) (pc := 86) okX7_init dX10_country_86 w_1214 rfl [] [.ref q273] rfl rfl ⟨by decide, by decide⟩ (Nat.le_of_ble_eq_true rfl) (c_X7_init d g τ h278 sp279.1 q273 z277 f280) 6 46 (Nat.le_of_ble_eq_true rfl) (Nat.le_of_ble_eq_true rfl)) (fun h282 q281 => ?_) (fun E h1 q => q.elim)
                obtain ⟨τ283, v284, o285, t286, q281s, f287, z288, k289, k290, k291⟩ := q281
                have sp292 := sp279.trm n276 q281s
                have k293 : τ283 x = 36 := q281s.2.1.k kx (by decide)
                have k294 : τ283 ds_185 = 34 := q281s.2.1.k k194 (by decide)
                have k295 : τ283 fr_186 = 34 := q281s.2.1.k k195 (by decide)
                have k296 : τ283 ca_187 = 31 := q281s.2.1.k k196 (by decide)
                have k297 : τ283 us_188 = 31 := q281s.2.1.k k197 (by decide)
                have k298 : τ283 wo_189 = 31 := q281s.2.1.k k198 (by decide)
                have k299 : τ283 cm_190 = 31 := q281s.2.1.k k199 (by decide)
                have k300 : τ283 lc_191 = 24 := q281s.2.1.k k200 (by decide)
                have k301 : τ283 lh_192 = 25 := q281s.2.1.k k201 (by decide)
                have k302 : τ283 ld_193 = 26 := q281s.2.1.k k202 (by decide)
                have k303 : τ283 ds_226 = 34 := q281s.2.1.k k235 (by decide)
                have k304 : τ283 fr_227 = 34 := q281s.2.1.k k236 (by decide)
                have k305 : τ283 ca_228 = 31 := q281s.2.1.k k237 (by decide)
                have k306 : τ283 us_229 = 31 := q281s.2.1.k k238 (by decide)
                have k307 : τ283 wo_230 = 31 := q281s.2.1.k k239 (by decide)
                have k308 : τ283 cm_231 = 31 := q281s.2.1.k k240 (by decide)
                have k309 : τ283 lc_232 = 24 := q281s.2.1.k k241 (by decide)
                have k310 : τ283 lh_233 = 25 := q281s.2.1.k k242 (by decide)
                have k311 : τ283 ld_234 = 26 := q281s.2.1.k k243 (by decide)
                refine tw_astore [(5, .ref q273), (0, .ref x), (1, .int r), (2, .int ct), (3, .int go), (4, .int si)] dX10_country_89 (by decide) rfl ?_
                refine tw_aload 0 dX10_country_91 rfl ?_
                refine tw_iload_n 2 dX10_country_93 rfl rfl ?_
                refine tw_put rfl in_11 tyX7 tyX7_ok nmX7 0 dX10_country_94 w_1218 rfl (by decide) f287 rfl rfl rfl rfl (Nat.le_of_ble_eq_true rfl) [.int r, .int 0, .ref v284, .ref o285, .ref t286] rfl ?_
                obtain ⟨h312, eh312⟩ : ∃ z : tw_H, z = tw_up h282 q273 (.inr (11, [.int r, .int 0, .ref v284, .ref o285, .ref t286])) := ⟨_, rfl⟩
                rw [← eh312]
                have sp313 : tw_sp d τ h g τ283 h312 := by rw [eh312]; exact sp292.wl n276 z288
                have f314 : h312 q273 = some (.inr (11, [.int r, .int 0, .ref v284, .ref o285, .ref t286])) := by rw [eh312]; exact tw_up_s
                refine tw_aload 0 dX10_country_97 rfl ?_
                refine tw_iload_n 3 dX10_country_99 rfl rfl ?_
                refine tw_put rfl in_11 tyX7 tyX7_ok nmX7 1 dX10_country_100 w_1219 rfl (by decide) f314 rfl rfl rfl rfl (Nat.le_of_ble_eq_true rfl) [.int r, .int ct, .ref v284, .ref o285, .ref t286] rfl ?_
                obtain ⟨h315, eh315⟩ : ∃ z : tw_H, z = tw_up h312 q273 (.inr (11, [.int r, .int ct, .ref v284, .ref o285, .ref t286])) := ⟨_, rfl⟩
                rw [← eh315]
                have sp316 : tw_sp d τ h g τ283 h315 := by rw [eh315]; exact sp313.wl n276 z288
                have f317 : h315 q273 = some (.inr (11, [.int r, .int ct, .ref v284, .ref o285, .ref t286])) := by rw [eh315]; exact tw_up_s
                refine tw_aload 0 dX10_country_103 rfl ?_
                refine tw_get (v := .ref v284) rfl in_11 2 dX10_country_105 w_1221 rfl (by decide) f317 rfl ?_
                refine tw_iconst (v := 0) dX10_country_108 (by decide) ?_
                refine tw_iload_n 4 dX10_country_109 rfl rfl ?_
                refine tw_i2l dX10_country_110 ?_
                refine tw_nml (fun v318 ev318 => ?_)
                obtain ⟨e319, f320, F321, rfl⟩ := sp316.1 v284 31 k289 (by decide)
                refine tw_last dX10_country_111 f320 (vp_in_nI (n := 0) (by decide) (by decide)) ?_
                obtain ⟨h322, eh322⟩ : ∃ z : tw_H, z = tw_up h315 v284 (.inl (d.2 1, 2, .inr (.inl (vp_updL F321 (0 : Int32).toNatClampNeg v318)))) := ⟨_, rfl⟩
                rw [← eh322]
                have sp323 : tw_sp d τ h g τ283 h322 := by rw [eh322]; exact sp316.set k289 (by decide) ⟨_, rfl⟩
                have f324 : h322 q273 = some (.inr (11, [.int r, .int ct, .ref v284, .ref o285, .ref t286])) := by rw [eh322, tw_up_n (fun q => absurd (z288) (by rw [q, k289]; decide))]; exact f317
                refine tw_aload 0 dX10_country_112 rfl ?_
                refine tw_get (v := .ref v284) rfl in_11 2 dX10_country_114 w_1221 rfl (by decide) f324 rfl ?_
                refine tw_iconst (v := 1) dX10_country_117 (by decide) ?_
                refine tw_iload 5 dX10_country_118 rfl ?_
                refine tw_i2l dX10_country_120 ?_
                refine tw_nml (fun v325 ev325 => ?_)
                obtain ⟨e326, f327, F328, rfl⟩ := sp323.1 v284 31 k289 (by decide)
                refine tw_last dX10_country_121 f327 (vp_in_nI (n := 1) (by decide) (by decide)) ?_
                obtain ⟨h329, eh329⟩ : ∃ z : tw_H, z = tw_up h322 v284 (.inl (d.2 1, 2, .inr (.inl (vp_updL F328 (1 : Int32).toNatClampNeg v325)))) := ⟨_, rfl⟩
                rw [← eh329]
                have sp330 : tw_sp d τ h g τ283 h329 := by rw [eh329]; exact sp323.set k289 (by decide) ⟨_, rfl⟩
                have f331 : h329 q273 = some (.inr (11, [.int r, .int ct, .ref v284, .ref o285, .ref t286])) := by rw [eh329, tw_up_n (fun q => absurd (z288) (by rw [q, k289]; decide))]; exact f324
                refine tw_aload_n 1 dX10_country_122 rfl rfl ?_
                obtain ⟨e332, f333, th_334, td_335, ds_336, fr_337, ca_338, us_339, wo_340, cm_341, lc_342, lh_343, ld_344, rfl, k345, k346, k347, k348, k349, k350, k351, k352, k353, k354, k355, k356, k357, k358, k359, k360⟩ := sp330.1 x 36 k293 (by decide)
                refine tw_get (v := .ref cm_341) rfl in_14 8 dX10_country_123 w_1159 rfl (by decide) f333 rfl ?_
                refine tw_iconst (v := 0) dX10_country_126 (by decide) ?_
                refine tw_dup2 dX10_country_127 rfl rfl ?_
                obtain ⟨e361, f362, F363, rfl⟩ := sp330.1 cm_341 31 k350 (by decide)
                obtain ⟨v364, ev364⟩ : ∃ y : Int64, F363 (0 : Int32).toNatClampNeg = y := ⟨_, rfl⟩
                refine tw_lald (v := v364) dX10_country_128 f362 (vp_in_nI (n := 0) (by decide) (by decide)) ev364 ?_
                refine tw_iload_n 4 dX10_country_129 rfl rfl ?_
                refine tw_i2l dX10_country_130 ?_
                refine tw_nml (fun v365 ev365 => ?_)
                refine tw_ladd dX10_country_131 ?_
                refine tw_nml (fun v366 ev366 => ?_)
                refine tw_last dX10_country_132 f362 (vp_in_nI (n := 0) (by decide) (by decide)) ?_
                obtain ⟨h367, eh367⟩ : ∃ z : tw_H, z = tw_up h329 cm_341 (.inl (d.2 1, 2, .inr (.inl (vp_updL F363 (0 : Int32).toNatClampNeg v366)))) := ⟨_, rfl⟩
                rw [← eh367]
                have sp368 : tw_sp d τ h g τ283 h367 := by rw [eh367]; exact sp330.set k350 (by decide) ⟨_, rfl⟩
                have f369 : h367 q273 = some (.inr (11, [.int r, .int ct, .ref v284, .ref o285, .ref t286])) := by rw [eh367, tw_up_n (fun q => absurd (z288) (by rw [q, k350]; decide))]; exact f331
                refine tw_aload_n 1 dX10_country_133 rfl rfl ?_
                obtain ⟨e370, f371, th_372, td_373, ds_374, fr_375, ca_376, us_377, wo_378, cm_379, lc_380, lh_381, ld_382, rfl, k383, k384, k385, k386, k387, k388, k389, k390, k391, k392, k393, k394, k395, k396, k397, k398⟩ := sp368.1 x 36 k293 (by decide)
                refine tw_get (v := .ref cm_379) rfl in_14 8 dX10_country_134 w_1159 rfl (by decide) f371 rfl ?_
                refine tw_iconst (v := 1) dX10_country_137 (by decide) ?_
                refine tw_dup2 dX10_country_138 rfl rfl ?_
                obtain ⟨e399, f400, F401, rfl⟩ := sp368.1 cm_379 31 k388 (by decide)
                obtain ⟨v402, ev402⟩ : ∃ y : Int64, F401 (1 : Int32).toNatClampNeg = y := ⟨_, rfl⟩
                refine tw_lald (v := v402) dX10_country_139 f400 (vp_in_nI (n := 1) (by decide) (by decide)) ev402 ?_
                refine tw_iload 5 dX10_country_140 rfl ?_
                refine tw_i2l dX10_country_142 ?_
                refine tw_nml (fun v403 ev403 => ?_)
                refine tw_ladd dX10_country_143 ?_
                refine tw_nml (fun v404 ev404 => ?_)
                refine tw_last dX10_country_144 f400 (vp_in_nI (n := 1) (by decide) (by decide)) ?_
                obtain ⟨h405, eh405⟩ : ∃ z : tw_H, z = tw_up h367 cm_379 (.inl (d.2 1, 2, .inr (.inl (vp_updL F401 (1 : Int32).toNatClampNeg v404)))) := ⟨_, rfl⟩
                rw [← eh405]
                have sp406 : tw_sp d τ h g τ283 h405 := by rw [eh405]; exact sp368.set k388 (by decide) ⟨_, rfl⟩
                have f407 : h405 q273 = some (.inr (11, [.int r, .int ct, .ref v284, .ref o285, .ref t286])) := by rw [eh405, tw_up_n (fun q => absurd (z288) (by rw [q, k388]; decide))]; exact f369
                refine tw_aload_n 1 dX10_country_145 rfl rfl ?_
                obtain ⟨e408, f409, th_410, td_411, ds_412, fr_413, ca_414, us_415, wo_416, cm_417, lc_418, lh_419, ld_420, rfl, k421, k422, k423, k424, k425, k426, k427, k428, k429, k430, k431, k432, k433, k434, k435, k436⟩ := sp406.1 x 36 k293 (by decide)
                refine tw_get (v := .ref lc_418) rfl in_14 9 dX10_country_146 w_1160 rfl (by decide) f409 rfl ?_
                refine tw_aload 0 dX10_country_149 rfl ?_
                obtain ⟨τ437, eτ437⟩ : ∃ z : tw_K, z = tw_ku τ283 q273 21 := ⟨_, rfl⟩
                have le438 : tw_le τ283 τ437 := by rw [eτ437]; exact tw_ku_le z288
                have k439 : τ437 x = 36 := le438.k k293 (by decide)
                have k440 : τ437 ds_185 = 34 := le438.k k294 (by decide)
                have k441 : τ437 fr_186 = 34 := le438.k k295 (by decide)
                have k442 : τ437 ca_187 = 31 := le438.k k296 (by decide)
                have k443 : τ437 us_188 = 31 := le438.k k297 (by decide)
                have k444 : τ437 wo_189 = 31 := le438.k k298 (by decide)
                have k445 : τ437 cm_190 = 31 := le438.k k299 (by decide)
                have k446 : τ437 lc_191 = 24 := le438.k k300 (by decide)
                have k447 : τ437 lh_192 = 25 := le438.k k301 (by decide)
                have k448 : τ437 ld_193 = 26 := le438.k k302 (by decide)
                have k449 : τ437 ds_226 = 34 := le438.k k303 (by decide)
                have k450 : τ437 fr_227 = 34 := le438.k k304 (by decide)
                have k451 : τ437 ca_228 = 31 := le438.k k305 (by decide)
                have k452 : τ437 us_229 = 31 := le438.k k306 (by decide)
                have k453 : τ437 wo_230 = 31 := le438.k k307 (by decide)
                have k454 : τ437 cm_231 = 31 := le438.k k308 (by decide)
                have k455 : τ437 lc_232 = 24 := le438.k k309 (by decide)
                have k456 : τ437 lh_233 = 25 := le438.k k310 (by decide)
                have k457 : τ437 ld_234 = 26 := le438.k k311 (by decide)
                have k458 : τ437 v284 = 31 := le438.k k289 (by decide)
                have k459 : τ437 o285 = 32 := le438.k k290 (by decide)
                have k460 : τ437 t286 = 33 := le438.k k291 (by decide)
                have k461 : τ437 ds_336 = 34 := le438.k k345 (by decide)
                have k462 : τ437 fr_337 = 34 := le438.k k346 (by decide)
                have k463 : τ437 ca_338 = 31 := le438.k k347 (by decide)
                have k464 : τ437 us_339 = 31 := le438.k k348 (by decide)
                have k465 : τ437 wo_340 = 31 := le438.k k349 (by decide)
                have k466 : τ437 cm_341 = 31 := le438.k k350 (by decide)
                have k467 : τ437 lc_342 = 24 := le438.k k351 (by decide)
                have k468 : τ437 lh_343 = 25 := le438.k k352 (by decide)
                have k469 : τ437 ld_344 = 26 := le438.k k353 (by decide)
                have k470 : τ437 ds_374 = 34 := le438.k k383 (by decide)
                have k471 : τ437 fr_375 = 34 := le438.k k384 (by decide)
                have k472 : τ437 ca_376 = 31 := le438.k k385 (by decide)
                have k473 : τ437 us_377 = 31 := le438.k k386 (by decide)
                have k474 : τ437 wo_378 = 31 := le438.k k387 (by decide)
                have k475 : τ437 cm_379 = 31 := le438.k k388 (by decide)
                have k476 : τ437 lc_380 = 24 := le438.k k389 (by decide)
                have k477 : τ437 lh_381 = 25 := le438.k k390 (by decide)
                have k478 : τ437 ld_382 = 26 := le438.k k391 (by decide)
                have k479 : τ437 ds_412 = 34 := le438.k k421 (by decide)
                have k480 : τ437 fr_413 = 34 := le438.k k422 (by decide)
                have k481 : τ437 ca_414 = 31 := le438.k k423 (by decide)
                have k482 : τ437 us_415 = 31 := le438.k k424 (by decide)
                have k483 : τ437 wo_416 = 31 := le438.k k425 (by decide)
                have k484 : τ437 cm_417 = 31 := le438.k k426 (by decide)
                have k485 : τ437 lc_418 = 24 := le438.k k427 (by decide)
                have k486 : τ437 lh_419 = 25 := le438.k k428 (by decide)
                have k487 : τ437 ld_420 = 26 := le438.k k429 (by decide)
                have sp488 : tw_sp d τ h g τ437 h405 := by rw [eτ437]; exact sp406.ty n276 z288 f407 (by rw [← eτ437]; exact ⟨r, ct, v284, o285, t286, rfl, k458, k459, k460, q1a, q1b⟩)
                have k489 : τ437 q273 = 21 := by rw [eτ437]; exact tw_ku_s
                obtain ⟨e490, f491, ⟨el492, rfl, k493⟩, k494⟩ := sp488.1 lc_418 24 k485 (by decide)
                have hb9 : g.2 3 + 1 ≤ 4 := (tw_n4 c259 k430 (by decide))
                rcases k493 with k493p | k493p
                · obtain ⟨pa, pn, pf⟩ := k493p
                  subst pa
                  have f9 : h405 lc_418 = some (.inr (3, [.int (g.1 3), .ref (d.2 102), .int (nI 0)])) := by have z := f491; rw [pn] at z; exact z
                  refine tw_bi (tw_callV (M := mX10_country) (pc := 151) okJx4a65c_add_9ea2d dX10_country_151 w_1238 rfl f491 [.ref q273] [] rfl rfl ⟨by decide, by decide⟩ (Nat.le_of_ble_eq_true rfl) (c_add_new d h405 lc_418 (g.1 3) f9 q273 11 _ _ rfl (ng_11) f407 (by decide)) 5 36 (Nat.le_of_ble_eq_true rfl) (Nat.le_of_ble_eq_true rfl)) (fun r9 h495 q9 => ?_) (fun E h1 q => q.elim)
                  obtain ⟨r8, hr8, q1, q2, q3⟩ := q9
                  obtain ⟨g9, τ9, ⟨hga, hg1⟩, sp9⟩ := tw_gadd24 (F := fun _ => none) sp488.1 k485 k489 hb9 (fun j hj => by rw [pn] at hj; exact absurd hj (Nat.not_lt_zero _)) (Or.inr ⟨hr8, pf⟩) (by rw [pn]; exact q1) (by rw [pn]; exact q2) q3
                  have sp496 := sp488.tr sp9
                  have k497 : τ9 x = 36 := sp9.2.1.k k439 (by decide)
                  have k498 : τ9 ds_185 = 34 := sp9.2.1.k k440 (by decide)
                  have k499 : τ9 fr_186 = 34 := sp9.2.1.k k441 (by decide)
                  have k500 : τ9 ca_187 = 31 := sp9.2.1.k k442 (by decide)
                  have k501 : τ9 us_188 = 31 := sp9.2.1.k k443 (by decide)
                  have k502 : τ9 wo_189 = 31 := sp9.2.1.k k444 (by decide)
                  have k503 : τ9 cm_190 = 31 := sp9.2.1.k k445 (by decide)
                  have k504 : τ9 lc_191 = 24 := sp9.2.1.k k446 (by decide)
                  have k505 : τ9 lh_192 = 25 := sp9.2.1.k k447 (by decide)
                  have k506 : τ9 ld_193 = 26 := sp9.2.1.k k448 (by decide)
                  have k507 : τ9 ds_226 = 34 := sp9.2.1.k k449 (by decide)
                  have k508 : τ9 fr_227 = 34 := sp9.2.1.k k450 (by decide)
                  have k509 : τ9 ca_228 = 31 := sp9.2.1.k k451 (by decide)
                  have k510 : τ9 us_229 = 31 := sp9.2.1.k k452 (by decide)
                  have k511 : τ9 wo_230 = 31 := sp9.2.1.k k453 (by decide)
                  have k512 : τ9 cm_231 = 31 := sp9.2.1.k k454 (by decide)
                  have k513 : τ9 lc_232 = 24 := sp9.2.1.k k455 (by decide)
                  have k514 : τ9 lh_233 = 25 := sp9.2.1.k k456 (by decide)
                  have k515 : τ9 ld_234 = 26 := sp9.2.1.k k457 (by decide)
                  have k516 : τ9 v284 = 31 := sp9.2.1.k k458 (by decide)
                  have k517 : τ9 o285 = 32 := sp9.2.1.k k459 (by decide)
                  have k518 : τ9 t286 = 33 := sp9.2.1.k k460 (by decide)
                  have k519 : τ9 ds_336 = 34 := sp9.2.1.k k461 (by decide)
                  have k520 : τ9 fr_337 = 34 := sp9.2.1.k k462 (by decide)
                  have k521 : τ9 ca_338 = 31 := sp9.2.1.k k463 (by decide)
                  have k522 : τ9 us_339 = 31 := sp9.2.1.k k464 (by decide)
                  have k523 : τ9 wo_340 = 31 := sp9.2.1.k k465 (by decide)
                  have k524 : τ9 cm_341 = 31 := sp9.2.1.k k466 (by decide)
                  have k525 : τ9 lc_342 = 24 := sp9.2.1.k k467 (by decide)
                  have k526 : τ9 lh_343 = 25 := sp9.2.1.k k468 (by decide)
                  have k527 : τ9 ld_344 = 26 := sp9.2.1.k k469 (by decide)
                  have k528 : τ9 ds_374 = 34 := sp9.2.1.k k470 (by decide)
                  have k529 : τ9 fr_375 = 34 := sp9.2.1.k k471 (by decide)
                  have k530 : τ9 ca_376 = 31 := sp9.2.1.k k472 (by decide)
                  have k531 : τ9 us_377 = 31 := sp9.2.1.k k473 (by decide)
                  have k532 : τ9 wo_378 = 31 := sp9.2.1.k k474 (by decide)
                  have k533 : τ9 cm_379 = 31 := sp9.2.1.k k475 (by decide)
                  have k534 : τ9 lc_380 = 24 := sp9.2.1.k k476 (by decide)
                  have k535 : τ9 lh_381 = 25 := sp9.2.1.k k477 (by decide)
                  have k536 : τ9 ld_382 = 26 := sp9.2.1.k k478 (by decide)
                  have k537 : τ9 ds_412 = 34 := sp9.2.1.k k479 (by decide)
                  have k538 : τ9 fr_413 = 34 := sp9.2.1.k k480 (by decide)
                  have k539 : τ9 ca_414 = 31 := sp9.2.1.k k481 (by decide)
                  have k540 : τ9 us_415 = 31 := sp9.2.1.k k482 (by decide)
                  have k541 : τ9 wo_416 = 31 := sp9.2.1.k k483 (by decide)
                  have k542 : τ9 cm_417 = 31 := sp9.2.1.k k484 (by decide)
                  have k543 : τ9 lc_418 = 24 := sp9.2.1.k k485 (by decide)
                  have k544 : τ9 lh_419 = 25 := sp9.2.1.k k486 (by decide)
                  have k545 : τ9 ld_420 = 26 := sp9.2.1.k k487 (by decide)
                  have k546 : τ9 q273 = 21 := sp9.2.1.k k489 (by decide)
                  refine tw_pop dX10_country_154 rfl ?_
                  refine tw_aload_n 1 dX10_country_155 rfl rfl ?_
                  obtain ⟨e547, f548, th_549, td_550, ds_551, fr_552, ca_553, us_554, wo_555, cm_556, lc_557, lh_558, ld_559, rfl, k560, k561, k562, k563, k564, k565, k566, k567, k568, k569, k570, k571, k572, k573, k574, k575⟩ := sp496.1 x 36 k497 (by decide)
                  refine tw_get (v := .ref lc_557) rfl in_14 9 dX10_country_156 w_1160 rfl (by decide) f548 rfl ?_
                  obtain ⟨e576, f577, ⟨el578, rfl, k579⟩, k580⟩ := sp496.1 lc_557 24 k566 (by decide)
                  refine tw_bi (tw_callV (M := mX10_country) (pc := 159) okJx4a65c_size_8abf5 dX10_country_159 w_1208 rfl f577 [] [] rfl rfl ⟨by decide, by decide⟩ (Nat.le_of_ble_eq_true rfl) (c24_size d g9 τ9 h495 sp496.1 lc_557 k566) 5 36 (Nat.le_of_ble_eq_true rfl) (Nat.le_of_ble_eq_true rfl)) (fun r583 h582 q581 => ?_) (fun E h1 q => q.elim)
                  obtain ⟨q581e, q581r⟩ := q581
                  rw [q581e, q581r]
                  refine tw_iconst (v := 1) dX10_country_162 (by decide) ?_
                  refine tw_isub dX10_country_163 ?_
                  refine tw_nmi (fun v584 ev584 => ?_)
                  exact tw_iret dX10_country_164 rfl (Or.inl ⟨_, rfl, ⟨_, _, hga, sp496⟩⟩)
                · obtain ⟨e9, fa9, ⟨F9, rfl, hc9, h49⟩, un9⟩ := sp488.1 el492 27 k493p (by decide)
                  refine tw_bi (tw_callV (M := mX10_country) (pc := 151) okJx4a65c_add_9ea2d dX10_country_151 w_1238 rfl f491 [.ref q273] [] rfl rfl ⟨by decide, by decide⟩ (Nat.le_of_ble_eq_true rfl) (c_add_old d h405 lc_418 el492 (g.2 3) F9 (g.1 3) (by omega) f491 fa9 q273 11 _ _ rfl (ng_11) f407 (by decide)) 5 36 (Nat.le_of_ble_eq_true rfl) (Nat.le_of_ble_eq_true rfl)) (fun r9 h585 q9 => ?_) (fun E h1 q => q.elim)
                  obtain ⟨q1, q2, q3⟩ := q9
                  obtain ⟨g9, τ9, ⟨hga, hg1⟩, sp9⟩ := tw_gadd24 sp488.1 k485 k489 hb9 h49 (Or.inl k493p) q1 q2 q3
                  have sp586 := sp488.tr sp9
                  have k587 : τ9 x = 36 := sp9.2.1.k k439 (by decide)
                  have k588 : τ9 ds_185 = 34 := sp9.2.1.k k440 (by decide)
                  have k589 : τ9 fr_186 = 34 := sp9.2.1.k k441 (by decide)
                  have k590 : τ9 ca_187 = 31 := sp9.2.1.k k442 (by decide)
                  have k591 : τ9 us_188 = 31 := sp9.2.1.k k443 (by decide)
                  have k592 : τ9 wo_189 = 31 := sp9.2.1.k k444 (by decide)
                  have k593 : τ9 cm_190 = 31 := sp9.2.1.k k445 (by decide)
                  have k594 : τ9 lc_191 = 24 := sp9.2.1.k k446 (by decide)
                  have k595 : τ9 lh_192 = 25 := sp9.2.1.k k447 (by decide)
                  have k596 : τ9 ld_193 = 26 := sp9.2.1.k k448 (by decide)
                  have k597 : τ9 ds_226 = 34 := sp9.2.1.k k449 (by decide)
                  have k598 : τ9 fr_227 = 34 := sp9.2.1.k k450 (by decide)
                  have k599 : τ9 ca_228 = 31 := sp9.2.1.k k451 (by decide)
                  have k600 : τ9 us_229 = 31 := sp9.2.1.k k452 (by decide)
                  have k601 : τ9 wo_230 = 31 := sp9.2.1.k k453 (by decide)
                  have k602 : τ9 cm_231 = 31 := sp9.2.1.k k454 (by decide)
                  have k603 : τ9 lc_232 = 24 := sp9.2.1.k k455 (by decide)
                  have k604 : τ9 lh_233 = 25 := sp9.2.1.k k456 (by decide)
                  have k605 : τ9 ld_234 = 26 := sp9.2.1.k k457 (by decide)
                  have k606 : τ9 v284 = 31 := sp9.2.1.k k458 (by decide)
                  have k607 : τ9 o285 = 32 := sp9.2.1.k k459 (by decide)
                  have k608 : τ9 t286 = 33 := sp9.2.1.k k460 (by decide)
                  have k609 : τ9 ds_336 = 34 := sp9.2.1.k k461 (by decide)
                  have k610 : τ9 fr_337 = 34 := sp9.2.1.k k462 (by decide)
                  have k611 : τ9 ca_338 = 31 := sp9.2.1.k k463 (by decide)
                  have k612 : τ9 us_339 = 31 := sp9.2.1.k k464 (by decide)
                  have k613 : τ9 wo_340 = 31 := sp9.2.1.k k465 (by decide)
                  have k614 : τ9 cm_341 = 31 := sp9.2.1.k k466 (by decide)
                  have k615 : τ9 lc_342 = 24 := sp9.2.1.k k467 (by decide)
                  have k616 : τ9 lh_343 = 25 := sp9.2.1.k k468 (by decide)
                  have k617 : τ9 ld_344 = 26 := sp9.2.1.k k469 (by decide)
                  have k618 : τ9 ds_374 = 34 := sp9.2.1.k k470 (by decide)
                  have k619 : τ9 fr_375 = 34 := sp9.2.1.k k471 (by decide)
                  have k620 : τ9 ca_376 = 31 := sp9.2.1.k k472 (by decide)
                  have k621 : τ9 us_377 = 31 := sp9.2.1.k k473 (by decide)
                  have k622 : τ9 wo_378 = 31 := sp9.2.1.k k474 (by decide)
                  have k623 : τ9 cm_379 = 31 := sp9.2.1.k k475 (by decide)
                  have k624 : τ9 lc_380 = 24 := sp9.2.1.k k476 (by decide)
                  have k625 : τ9 lh_381 = 25 := sp9.2.1.k k477 (by decide)
                  have k626 : τ9 ld_382 = 26 := sp9.2.1.k k478 (by decide)
                  have k627 : τ9 ds_412 = 34 := sp9.2.1.k k479 (by decide)
                  have k628 : τ9 fr_413 = 34 := sp9.2.1.k k480 (by decide)
                  have k629 : τ9 ca_414 = 31 := sp9.2.1.k k481 (by decide)
                  have k630 : τ9 us_415 = 31 := sp9.2.1.k k482 (by decide)
                  have k631 : τ9 wo_416 = 31 := sp9.2.1.k k483 (by decide)
                  have k632 : τ9 cm_417 = 31 := sp9.2.1.k k484 (by decide)
                  have k633 : τ9 lc_418 = 24 := sp9.2.1.k k485 (by decide)
                  have k634 : τ9 lh_419 = 25 := sp9.2.1.k k486 (by decide)
                  have k635 : τ9 ld_420 = 26 := sp9.2.1.k k487 (by decide)
                  have k636 : τ9 q273 = 21 := sp9.2.1.k k489 (by decide)
                  refine tw_pop dX10_country_154 rfl ?_
                  refine tw_aload_n 1 dX10_country_155 rfl rfl ?_
                  obtain ⟨e637, f638, th_639, td_640, ds_641, fr_642, ca_643, us_644, wo_645, cm_646, lc_647, lh_648, ld_649, rfl, k650, k651, k652, k653, k654, k655, k656, k657, k658, k659, k660, k661, k662, k663, k664, k665⟩ := sp586.1 x 36 k587 (by decide)
                  refine tw_get (v := .ref lc_647) rfl in_14 9 dX10_country_156 w_1160 rfl (by decide) f638 rfl ?_
                  obtain ⟨e666, f667, ⟨el668, rfl, k669⟩, k670⟩ := sp586.1 lc_647 24 k656 (by decide)
                  refine tw_bi (tw_callV (M := mX10_country) (pc := 159) okJx4a65c_size_8abf5 dX10_country_159 w_1208 rfl f667 [] [] rfl rfl ⟨by decide, by decide⟩ (Nat.le_of_ble_eq_true rfl) (c24_size d g9 τ9 h585 sp586.1 lc_647 k656) 5 36 (Nat.le_of_ble_eq_true rfl) (Nat.le_of_ble_eq_true rfl)) (fun r673 h672 q671 => ?_) (fun E h1 q => q.elim)
                  obtain ⟨q671e, q671r⟩ := q671
                  rw [q671e, q671r]
                  refine tw_iconst (v := 1) dX10_country_162 (by decide) ?_
                  refine tw_isub dX10_country_163 ?_
                  refine tw_nmi (fun v674 ev674 => ?_)
                  exact tw_iret dX10_country_164 rfl (Or.inl ⟨_, rfl, ⟨_, _, hga, sp586⟩⟩)
            · refine tw_iconst (v := 1) dX10_country_68 (by decide) ?_
              refine tw_goto 73 dX10_country_69 (by decide) ?_
              refine tw_iconst (v := 2) dX10_country_73 (by decide) ?_
              refine tw_bi (tw_callV (M := mX10_country) (pc := 74) okX10_refuse dX10_country_74 w_1204 rfl f223 [.int 1, .int 2] [] rfl rfl ⟨by decide, by decide⟩ (Nat.le_of_ble_eq_true rfl) (c_X10_refuse d g τ h211 sp218.1 x kx 1 2 (by decide)) 10 60 (Nat.le_of_ble_eq_true rfl) (Nat.le_of_ble_eq_true rfl)) (fun r677 h676 q675 => ?_) (fun E h1 q => q.elim)
              obtain ⟨e678, he679, hs680, hr681, h3682⟩ := q675
              have sp683 : tw_sp d τ h g τ h676 := by rw [he679]; exact sp218.set kx (by decide) hs680
              have f684 : h676 lc_232 = some (.inr (3, [.int (g.1 3), .ref el253, .int (nI (g.2 3))])) := by rw [he679, tw_up_n (fun q => absurd (k241) (by rw [q, kx]; decide))]; exact f252
              rcases hr681 with ei685 | ⟨ei685, ei685b⟩
              · rw [ei685]
                refine tw_if_eq 82 dX10_country_77 (by decide) (fun c686 => absurd c686 (by decide)) (fun _ => ?_)
                refine tw_iconst (v := 0) dX10_country_80 (by decide) ?_
                exact tw_iret dX10_country_81 rfl (Or.inl ⟨_, rfl, ⟨_, _, ⟨rfl, rfl⟩, sp683⟩⟩)
              · exact absurd ei685b (by decide)

set_option maxHeartbeats 4000000 in
set_option maxRecDepth 100000 in
theorem c_X10_house (d : tw_D) (g : tw_G) (τ : tw_K) (h : tw_H) (hw : tw_wt d g τ h) (x : Nat) (kx : τ x = 36) (a : Int32) (go : Int32) (si : Int32) : tw_Ct d mX10_house 10 60 [.ref x, .int a, .int go, .int si] h (tw_qi (fun r h1 => ∃ g1 τ1, tw_ga g g1 ∧ tw_sp d τ h g1 τ1 h1) tw_nx) := by
  refine tw_of (by decide +kernel) (Nat.le_of_ble_eq_true rfl) ?_
  show tw_W d mX10_house _ 0 [(0, .ref x), (1, .int a), (2, .int go), (3, .int si)] [] h 10 60
  have sp0 := tw_sp.rf hw
  refine tw_aload_n 0 dX10_house_0 rfl rfl ?_
  refine tw_aload_n 0 dX10_house_1 rfl rfl ?_
  refine tw_iload_n 1 dX10_house_2 rfl rfl ?_
  obtain ⟨e1, f2, th_3, td_4, ds_5, fr_6, ca_7, us_8, wo_9, cm_10, lc_11, lh_12, ld_13, rfl, k14, k15, k16, k17, k18, k19, k20, k21, k22, k23, k24, k25, k26, k27, k28, k29⟩ := sp0.1 x 36 kx (by decide)
  refine tw_bi (tw_callV (M := mX10_house) (pc := 3) okX10_isNoCountry dX10_house_3 w_1292 rfl f2 [.int a] [.ref x] rfl rfl ⟨by decide, by decide⟩ (Nat.le_of_ble_eq_true rfl) (c_X10_isNoCountry d g τ h sp0.1 x kx a) 10 60 (Nat.le_of_ble_eq_true rfl) (Nat.le_of_ble_eq_true rfl)) (fun r32 h31 q30 => ?_) (fun E h1 q => q.elim)
  obtain ⟨q30e, q30d⟩ := q30
  rw [q30e]
  rcases q30d with q30r | ⟨q30r, j33, q30j, q30k⟩
  · rw [q30r]
    refine tw_iconst (v := 1) dX10_house_6 (by decide) ?_
    refine tw_bi (tw_callV (M := mX10_house) (pc := 7) okX10_start dX10_house_7 w_1200 rfl f2 [.int 1, .int 1] [] rfl rfl ⟨by decide, by decide⟩ (Nat.le_of_ble_eq_true rfl) (c_X10_start d g τ h sp0.1 x kx 1 1 (by decide)) 10 60 (Nat.le_of_ble_eq_true rfl) (Nat.le_of_ble_eq_true rfl)) (fun r36 h35 q34 => ?_) (fun E h1 q => q.elim)
    obtain ⟨e37, he38, hs39, hr40, h341⟩ := q34
    have sp42 : tw_sp d τ h g τ h35 := by rw [he38]; exact sp0.set kx (by decide) hs39
    rcases hr40 with ei43 | ⟨ei43, ei43b⟩
    · rw [ei43]
      refine tw_if_ne 71 dX10_house_10 (by decide) (fun _ => ?_) (fun c44 => absurd c44 (by decide))
      refine tw_iconst (v := 0) dX10_house_71 (by decide) ?_
      exact tw_iret dX10_house_72 rfl (Or.inl ⟨_, rfl, ⟨_, _, ⟨rfl, rfl⟩, sp42⟩⟩)
    · exact absurd ei43b (by decide)
  · rw [q30r]
    subst q30k
    refine tw_iconst (v := 1) dX10_house_6 (by decide) ?_
    refine tw_bi (tw_callV (M := mX10_house) (pc := 7) okX10_start dX10_house_7 w_1200 rfl f2 [.int 0, .int 1] [] rfl rfl ⟨by decide, by decide⟩ (Nat.le_of_ble_eq_true rfl) (c_X10_start d g τ h sp0.1 x kx 0 1 (by decide)) 10 60 (Nat.le_of_ble_eq_true rfl) (Nat.le_of_ble_eq_true rfl)) (fun r47 h46 q45 => ?_) (fun E h1 q => q.elim)
    obtain ⟨e48, he49, hs50, hr51, h352⟩ := q45
    have sp53 : tw_sp d τ h g τ h46 := by rw [he49]; exact sp0.set kx (by decide) hs50
    rcases hr51 with ei54 | ⟨ei54, ei54b⟩
    · rw [ei54]
      refine tw_if_ne 71 dX10_house_10 (by decide) (fun _ => ?_) (fun c55 => absurd c55 (by decide))
      refine tw_iconst (v := 0) dX10_house_71 (by decide) ?_
      exact tw_iret dX10_house_72 rfl (Or.inl ⟨_, rfl, ⟨_, _, ⟨rfl, rfl⟩, sp53⟩⟩)
    · rw [ei54]
      refine tw_if_ne 71 dX10_house_10 (by decide) (fun c56 => absurd (by decide) c56) (fun _ => ?_)
      refine tw_aload_n 0 dX10_house_13 rfl rfl ?_
      refine tw_iload_n 2 dX10_house_14 rfl rfl ?_
      refine tw_iconst (v := 0) dX10_house_15 (by decide) ?_
      refine tw_ldc (v := 99999) dX10_house_16 w_1199 ?_
      refine tw_bi (tw_callS (M := mX10_house) (pc := 18) okX10_isIn dX10_house_18 w_1196 [.int go, .int 0, .int 99999] [.ref x] rfl rfl ⟨by decide, by decide⟩ (Nat.le_of_ble_eq_true rfl) (c_X10_isIn d g τ h46 sp53.1 go 0 99999) 10 60 (Nat.le_of_ble_eq_true rfl) (Nat.le_of_ble_eq_true rfl)) (fun r59 h58 q57 => ?_) (fun E h1 q => q.elim)
      obtain ⟨q57e, q57d⟩ := q57
      rw [q57e]
      rcases q57d with ⟨q57r, q57n⟩ | ⟨q57r, q57a, q57b⟩
      · rw [q57r]
        refine tw_if_eq 34 dX10_house_21 (by decide) (fun _ => ?_) (fun c60 => absurd (by decide) c60)
        refine tw_iconst (v := 1) dX10_house_34 (by decide) ?_
        refine tw_goto 39 dX10_house_35 (by decide) ?_
        refine tw_iconst (v := 2) dX10_house_39 (by decide) ?_
        obtain ⟨e61, f62, th_63, td_64, ds_65, fr_66, ca_67, us_68, wo_69, cm_70, lc_71, lh_72, ld_73, rfl, k74, k75, k76, k77, k78, k79, k80, k81, k82, k83, k84, k85, k86, k87, k88, k89⟩ := sp53.1 x 36 kx (by decide)
        refine tw_bi (tw_callV (M := mX10_house) (pc := 40) okX10_refuse dX10_house_40 w_1204 rfl f62 [.int 1, .int 2] [] rfl rfl ⟨by decide, by decide⟩ (Nat.le_of_ble_eq_true rfl) (c_X10_refuse d g τ h46 sp53.1 x kx 1 2 (by decide)) 10 60 (Nat.le_of_ble_eq_true rfl) (Nat.le_of_ble_eq_true rfl)) (fun r92 h91 q90 => ?_) (fun E h1 q => q.elim)
        obtain ⟨e93, he94, hs95, hr96, h397⟩ := q90
        have sp98 : tw_sp d τ h g τ h91 := by rw [he94]; exact sp53.set kx (by decide) hs95
        rcases hr96 with ei99 | ⟨ei99, ei99b⟩
        · rw [ei99]
          refine tw_if_ne 71 dX10_house_43 (by decide) (fun _ => ?_) (fun c100 => absurd c100 (by decide))
          refine tw_iconst (v := 0) dX10_house_71 (by decide) ?_
          exact tw_iret dX10_house_72 rfl (Or.inl ⟨_, rfl, ⟨_, _, ⟨rfl, rfl⟩, sp98⟩⟩)
        · exact absurd ei99b (by decide)
      · rw [q57r]
        refine tw_if_eq 34 dX10_house_21 (by decide) (fun c101 => absurd c101 (by decide)) (fun _ => ?_)
        refine tw_iload_n 3 dX10_house_24 rfl rfl ?_
        refine tw_iconst (v := 0) dX10_house_25 (by decide) ?_
        refine tw_ldc (v := 99999) dX10_house_26 w_1199 ?_
        refine tw_bi (tw_callS (M := mX10_house) (pc := 28) okX10_isIn dX10_house_28 w_1196 [.int si, .int 0, .int 99999] [.ref x] rfl rfl ⟨by decide, by decide⟩ (Nat.le_of_ble_eq_true rfl) (c_X10_isIn d g τ h46 sp53.1 si 0 99999) 10 60 (Nat.le_of_ble_eq_true rfl) (Nat.le_of_ble_eq_true rfl)) (fun r104 h103 q102 => ?_) (fun E h1 q => q.elim)
        obtain ⟨q102e, q102d⟩ := q102
        rw [q102e]
        rcases q102d with ⟨q102r, q102n⟩ | ⟨q102r, q102a, q102b⟩
        · rw [q102r]
          refine tw_if_ne 38 dX10_house_31 (by decide) (fun c105 => absurd (by decide) c105) (fun _ => ?_)
          refine tw_iconst (v := 1) dX10_house_34 (by decide) ?_
          refine tw_goto 39 dX10_house_35 (by decide) ?_
          refine tw_iconst (v := 2) dX10_house_39 (by decide) ?_
          obtain ⟨e106, f107, th_108, td_109, ds_110, fr_111, ca_112, us_113, wo_114, cm_115, lc_116, lh_117, ld_118, rfl, k119, k120, k121, k122, k123, k124, k125, k126, k127, k128, k129, k130, k131, k132, k133, k134⟩ := sp53.1 x 36 kx (by decide)
          refine tw_bi (tw_callV (M := mX10_house) (pc := 40) okX10_refuse dX10_house_40 w_1204 rfl f107 [.int 1, .int 2] [] rfl rfl ⟨by decide, by decide⟩ (Nat.le_of_ble_eq_true rfl) (c_X10_refuse d g τ h46 sp53.1 x kx 1 2 (by decide)) 10 60 (Nat.le_of_ble_eq_true rfl) (Nat.le_of_ble_eq_true rfl)) (fun r137 h136 q135 => ?_) (fun E h1 q => q.elim)
          obtain ⟨e138, he139, hs140, hr141, h3142⟩ := q135
          have sp143 : tw_sp d τ h g τ h136 := by rw [he139]; exact sp53.set kx (by decide) hs140
          rcases hr141 with ei144 | ⟨ei144, ei144b⟩
          · rw [ei144]
            refine tw_if_ne 71 dX10_house_43 (by decide) (fun _ => ?_) (fun c145 => absurd c145 (by decide))
            refine tw_iconst (v := 0) dX10_house_71 (by decide) ?_
            exact tw_iret dX10_house_72 rfl (Or.inl ⟨_, rfl, ⟨_, _, ⟨rfl, rfl⟩, sp143⟩⟩)
          · exact absurd ei144b (by decide)
        · rw [q102r]
          refine tw_if_ne 38 dX10_house_31 (by decide) (fun _ => ?_) (fun c146 => absurd c146 (by decide))
          refine tw_iconst (v := 0) dX10_house_38 (by decide) ?_
          refine tw_iconst (v := 2) dX10_house_39 (by decide) ?_
          obtain ⟨e147, f148, th_149, td_150, ds_151, fr_152, ca_153, us_154, wo_155, cm_156, lc_157, lh_158, ld_159, rfl, k160, k161, k162, k163, k164, k165, k166, k167, k168, k169, k170, k171, k172, k173, k174, k175⟩ := sp53.1 x 36 kx (by decide)
          refine tw_bi (tw_callV (M := mX10_house) (pc := 40) okX10_refuse dX10_house_40 w_1204 rfl f148 [.int 0, .int 2] [] rfl rfl ⟨by decide, by decide⟩ (Nat.le_of_ble_eq_true rfl) (c_X10_refuse d g τ h46 sp53.1 x kx 0 2 (by decide)) 10 60 (Nat.le_of_ble_eq_true rfl) (Nat.le_of_ble_eq_true rfl)) (fun r178 h177 q176 => ?_) (fun E h1 q => q.elim)
          obtain ⟨e179, he180, hs181, hr182, h3183⟩ := q176
          have sp184 : tw_sp d τ h g τ h177 := by rw [he180]; exact sp53.set kx (by decide) hs181
          rcases hr182 with ei185 | ⟨ei185, ei185b⟩
          · rw [ei185]
            refine tw_if_ne 71 dX10_house_43 (by decide) (fun _ => ?_) (fun c186 => absurd c186 (by decide))
            refine tw_iconst (v := 0) dX10_house_71 (by decide) ?_
            exact tw_iret dX10_house_72 rfl (Or.inl ⟨_, rfl, ⟨_, _, ⟨rfl, rfl⟩, sp184⟩⟩)
          · rw [ei185]
            refine tw_if_ne 71 dX10_house_43 (by decide) (fun c187 => absurd (by decide) c187) (fun _ => ?_)
            refine tw_aload_n 0 dX10_house_46 rfl rfl ?_
            refine tw_aload_n 0 dX10_house_47 rfl rfl ?_
            obtain ⟨e188, f189, th_190, td_191, ds_192, fr_193, ca_194, us_195, wo_196, cm_197, lc_198, lh_199, ld_200, rfl, k201, k202, k203, k204, k205, k206, k207, k208, k209, k210, k211, k212, k213, k214, k215, k216⟩ := sp184.1 x 36 kx (by decide)
            refine tw_get (v := .ref lh_199) rfl in_14 10 dX10_house_48 w_1161 rfl (by decide) f189 rfl ?_
            obtain ⟨e217, f218, ⟨el219, rfl, k220⟩, k221⟩ := sp184.1 lh_199 25 k208 (by decide)
            refine tw_bi (tw_callV (M := mX10_house) (pc := 51) okJx4a65c_size_8abf5 dX10_house_51 w_1208 rfl f218 [] [.ref x] rfl rfl ⟨by decide, by decide⟩ (Nat.le_of_ble_eq_true rfl) (c25_size d g τ h177 sp184.1 lh_199 k208) 10 60 (Nat.le_of_ble_eq_true rfl) (Nat.le_of_ble_eq_true rfl)) (fun r224 h223 q222 => ?_) (fun E h1 q => q.elim)
            obtain ⟨q222e, q222r⟩ := q222
            rw [q222e, q222r]
            refine tw_bipush (v := 6) dX10_house_54 (by decide) ?_
            refine tw_icmp_ne 63 dX10_house_56 (by decide) (fun c225 => ?_) (fun c225 => ?_)
            · refine tw_iconst (v := 0) dX10_house_63 (by decide) ?_
              refine tw_iconst (v := 3) dX10_house_64 (by decide) ?_
              refine tw_bi (tw_callV (M := mX10_house) (pc := 65) okX10_refuse dX10_house_65 w_1204 rfl f189 [.int 0, .int 3] [] rfl rfl ⟨by decide, by decide⟩ (Nat.le_of_ble_eq_true rfl) (c_X10_refuse d g τ h177 sp184.1 x kx 0 3 (by decide)) 10 60 (Nat.le_of_ble_eq_true rfl) (Nat.le_of_ble_eq_true rfl)) (fun r228 h227 q226 => ?_) (fun E h1 q => q.elim)
              obtain ⟨e229, he230, hs231, hr232, h3233⟩ := q226
              have sp234 : tw_sp d τ h g τ h227 := by rw [he230]; exact sp184.set kx (by decide) hs231
              have f235 : h227 lh_199 = some (.inr (3, [.int (g.1 4), .ref el219, .int (nI (g.2 4))])) := by rw [he230, tw_up_n (fun q => absurd (k208) (by rw [q, kx]; decide))]; exact f218
              rcases hr232 with ei236 | ⟨ei236, ei236b⟩
              · rw [ei236]
                refine tw_if_eq 73 dX10_house_68 (by decide) (fun c237 => absurd c237 (by decide)) (fun _ => ?_)
                refine tw_iconst (v := 0) dX10_house_71 (by decide) ?_
                exact tw_iret dX10_house_72 rfl (Or.inl ⟨_, rfl, ⟨_, _, ⟨rfl, rfl⟩, sp234⟩⟩)
              · rw [ei236]
                refine tw_if_eq 73 dX10_house_68 (by decide) (fun _ => ?_) (fun c238 => absurd (by decide) c238)
                refine tw_new (ci := 13) rfl in_13 tyX9 tyX9_ok dX10_house_73 w_1336 w_1337 w_100 (fs := [.int 0, .int 0, .int 0, .null]) (fun j hj => by rcases (show j = 0 ∨ j = 1 ∨ j = 2 ∨ j = 3 by omega) with rfl | rfl | rfl | rfl <;> rfl) 9 56 (Nat.le_of_ble_eq_true rfl) (Nat.le_of_ble_eq_true rfl) (fun q239 hq240 hA241 => ?_)
                have n242 := sp234.nn hq240
                have z243 := sp234.1.none hq240
                obtain ⟨h244, eh244⟩ : ∃ z : tw_H, z = tw_up h227 q239 (.inr (13, [.int 0, .int 0, .int 0, .null])) := ⟨_, rfl⟩
                rw [← eh244]
                have sp245 : tw_sp d τ h g τ h244 := by rw [eh244]; exact sp234.mk hq240
                have f246 : h244 q239 = some (.inr (13, [.int 0, .int 0, .int 0, .null])) := by rw [eh244]; exact tw_up_s
                refine tw_dup dX10_house_76 rfl ?_
                refine tw_bv (tw_callIN (M := mX10_house) (pc := 77) okX9_init dX10_house_77 w_1338 rfl [] [.ref q239] rfl rfl ⟨by decide, by decide⟩ (Nat.le_of_ble_eq_true rfl) (c_X9_init d g τ h244 sp245.1 q239 z243 f246) 8 54 (Nat.le_of_ble_eq_true rfl) (Nat.le_of_ble_eq_true rfl)) (fun h248 q247 => ?_) (fun E h1 q => q.elim)
                obtain ⟨τ249, p250, q247s, f251, z252, k253⟩ := q247
                have sp254 := sp245.trm n242 q247s
                have k255 : τ249 x = 36 := q247s.2.1.k kx (by decide)
                have k256 : τ249 ds_5 = 34 := q247s.2.1.k k14 (by decide)
                have k257 : τ249 fr_6 = 34 := q247s.2.1.k k15 (by decide)
                have k258 : τ249 ca_7 = 31 := q247s.2.1.k k16 (by decide)
                have k259 : τ249 us_8 = 31 := q247s.2.1.k k17 (by decide)
                have k260 : τ249 wo_9 = 31 := q247s.2.1.k k18 (by decide)
                have k261 : τ249 cm_10 = 31 := q247s.2.1.k k19 (by decide)
                have k262 : τ249 lc_11 = 24 := q247s.2.1.k k20 (by decide)
                have k263 : τ249 lh_12 = 25 := q247s.2.1.k k21 (by decide)
                have k264 : τ249 ld_13 = 26 := q247s.2.1.k k22 (by decide)
                have k265 : τ249 ds_151 = 34 := q247s.2.1.k k160 (by decide)
                have k266 : τ249 fr_152 = 34 := q247s.2.1.k k161 (by decide)
                have k267 : τ249 ca_153 = 31 := q247s.2.1.k k162 (by decide)
                have k268 : τ249 us_154 = 31 := q247s.2.1.k k163 (by decide)
                have k269 : τ249 wo_155 = 31 := q247s.2.1.k k164 (by decide)
                have k270 : τ249 cm_156 = 31 := q247s.2.1.k k165 (by decide)
                have k271 : τ249 lc_157 = 24 := q247s.2.1.k k166 (by decide)
                have k272 : τ249 lh_158 = 25 := q247s.2.1.k k167 (by decide)
                have k273 : τ249 ld_159 = 26 := q247s.2.1.k k168 (by decide)
                have k274 : τ249 ds_192 = 34 := q247s.2.1.k k201 (by decide)
                have k275 : τ249 fr_193 = 34 := q247s.2.1.k k202 (by decide)
                have k276 : τ249 ca_194 = 31 := q247s.2.1.k k203 (by decide)
                have k277 : τ249 us_195 = 31 := q247s.2.1.k k204 (by decide)
                have k278 : τ249 wo_196 = 31 := q247s.2.1.k k205 (by decide)
                have k279 : τ249 cm_197 = 31 := q247s.2.1.k k206 (by decide)
                have k280 : τ249 lc_198 = 24 := q247s.2.1.k k207 (by decide)
                have k281 : τ249 lh_199 = 25 := q247s.2.1.k k208 (by decide)
                have k282 : τ249 ld_200 = 26 := q247s.2.1.k k209 (by decide)
                refine tw_astore [(4, .ref q239), (0, .ref x), (1, .int (nI j33)), (2, .int go), (3, .int si)] dX10_house_80 (by decide) rfl ?_
                refine tw_aload 0 dX10_house_82 rfl ?_
                refine tw_iload_n 2 dX10_house_84 rfl rfl ?_
                refine tw_put rfl in_13 tyX9 tyX9_ok nmX9 0 dX10_house_85 w_1342 rfl (by decide) f251 rfl rfl rfl rfl (Nat.le_of_ble_eq_true rfl) [.int (nI j33), .int (-1), .int (-1), .ref p250] rfl ?_
                obtain ⟨h283, eh283⟩ : ∃ z : tw_H, z = tw_up h248 q239 (.inr (13, [.int (nI j33), .int (-1), .int (-1), .ref p250])) := ⟨_, rfl⟩
                rw [← eh283]
                have sp284 : tw_sp d τ h g τ249 h283 := by rw [eh283]; exact sp254.wl n242 z252
                have f285 : h283 q239 = some (.inr (13, [.int (nI j33), .int (-1), .int (-1), .ref p250])) := by rw [eh283]; exact tw_up_s
                refine tw_aload 0 dX10_house_88 rfl ?_
                refine tw_get (v := .ref p250) rfl in_13 3 dX10_house_90 w_1348 rfl (by decide) f285 rfl ?_
                refine tw_iconst (v := 0) dX10_house_93 (by decide) ?_
                refine tw_iload_n 3 dX10_house_94 rfl rfl ?_
                refine tw_i2l dX10_house_95 ?_
                refine tw_nml (fun v286 ev286 => ?_)
                obtain ⟨e287, f288, F289, rfl⟩ := sp284.1 p250 31 k253 (by decide)
                refine tw_last dX10_house_96 f288 (vp_in_nI (n := 0) (by decide) (by decide)) ?_
                obtain ⟨h290, eh290⟩ : ∃ z : tw_H, z = tw_up h283 p250 (.inl (d.2 1, 2, .inr (.inl (vp_updL F289 (0 : Int32).toNatClampNeg v286)))) := ⟨_, rfl⟩
                rw [← eh290]
                have sp291 : tw_sp d τ h g τ249 h290 := by rw [eh290]; exact sp284.set k253 (by decide) ⟨_, rfl⟩
                have f292 : h290 q239 = some (.inr (13, [.int (nI j33), .int (-1), .int (-1), .ref p250])) := by rw [eh290, tw_up_n (fun q => absurd (z252) (by rw [q, k253]; decide))]; exact f285
                refine tw_aload 0 dX10_house_97 rfl ?_
                refine tw_get (v := .ref p250) rfl in_13 3 dX10_house_99 w_1348 rfl (by decide) f292 rfl ?_
                refine tw_iconst (v := 1) dX10_house_102 (by decide) ?_
                refine tw_iload_n 4 dX10_house_103 rfl rfl ?_
                refine tw_i2l dX10_house_104 ?_
                refine tw_nml (fun v293 ev293 => ?_)
                obtain ⟨e294, f295, F296, rfl⟩ := sp291.1 p250 31 k253 (by decide)
                refine tw_last dX10_house_105 f295 (vp_in_nI (n := 1) (by decide) (by decide)) ?_
                obtain ⟨h297, eh297⟩ : ∃ z : tw_H, z = tw_up h290 p250 (.inl (d.2 1, 2, .inr (.inl (vp_updL F296 (1 : Int32).toNatClampNeg v293)))) := ⟨_, rfl⟩
                rw [← eh297]
                have sp298 : tw_sp d τ h g τ249 h297 := by rw [eh297]; exact sp291.set k253 (by decide) ⟨_, rfl⟩
                have f299 : h297 q239 = some (.inr (13, [.int (nI j33), .int (-1), .int (-1), .ref p250])) := by rw [eh297, tw_up_n (fun q => absurd (z252) (by rw [q, k253]; decide))]; exact f292
                refine tw_aload_n 1 dX10_house_106 rfl rfl ?_
                obtain ⟨e300, f301, th_302, td_303, ds_304, fr_305, ca_306, us_307, wo_308, cm_309, lc_310, lh_311, ld_312, rfl, k313, k314, k315, k316, k317, k318, k319, k320, k321, k322, k323, k324, k325, k326, k327, k328⟩ := sp298.1 x 36 k255 (by decide)
                refine tw_get (v := .ref cm_309) rfl in_14 8 dX10_house_107 w_1159 rfl (by decide) f301 rfl ?_
                refine tw_iconst (v := 0) dX10_house_110 (by decide) ?_
                refine tw_dup2 dX10_house_111 rfl rfl ?_
                obtain ⟨e329, f330, F331, rfl⟩ := sp298.1 cm_309 31 k318 (by decide)
                obtain ⟨v332, ev332⟩ : ∃ y : Int64, F331 (0 : Int32).toNatClampNeg = y := ⟨_, rfl⟩
                refine tw_lald (v := v332) dX10_house_112 f330 (vp_in_nI (n := 0) (by decide) (by decide)) ev332 ?_
                refine tw_iload_n 3 dX10_house_113 rfl rfl ?_
                refine tw_i2l dX10_house_114 ?_
                refine tw_nml (fun v333 ev333 => ?_)
                refine tw_ladd dX10_house_115 ?_
                refine tw_nml (fun v334 ev334 => ?_)
                refine tw_last dX10_house_116 f330 (vp_in_nI (n := 0) (by decide) (by decide)) ?_
                obtain ⟨h335, eh335⟩ : ∃ z : tw_H, z = tw_up h297 cm_309 (.inl (d.2 1, 2, .inr (.inl (vp_updL F331 (0 : Int32).toNatClampNeg v334)))) := ⟨_, rfl⟩
                rw [← eh335]
                have sp336 : tw_sp d τ h g τ249 h335 := by rw [eh335]; exact sp298.set k318 (by decide) ⟨_, rfl⟩
                have f337 : h335 q239 = some (.inr (13, [.int (nI j33), .int (-1), .int (-1), .ref p250])) := by rw [eh335, tw_up_n (fun q => absurd (z252) (by rw [q, k318]; decide))]; exact f299
                refine tw_aload_n 1 dX10_house_117 rfl rfl ?_
                obtain ⟨e338, f339, th_340, td_341, ds_342, fr_343, ca_344, us_345, wo_346, cm_347, lc_348, lh_349, ld_350, rfl, k351, k352, k353, k354, k355, k356, k357, k358, k359, k360, k361, k362, k363, k364, k365, k366⟩ := sp336.1 x 36 k255 (by decide)
                refine tw_get (v := .ref cm_347) rfl in_14 8 dX10_house_118 w_1159 rfl (by decide) f339 rfl ?_
                refine tw_iconst (v := 1) dX10_house_121 (by decide) ?_
                refine tw_dup2 dX10_house_122 rfl rfl ?_
                obtain ⟨e367, f368, F369, rfl⟩ := sp336.1 cm_347 31 k356 (by decide)
                obtain ⟨v370, ev370⟩ : ∃ y : Int64, F369 (1 : Int32).toNatClampNeg = y := ⟨_, rfl⟩
                refine tw_lald (v := v370) dX10_house_123 f368 (vp_in_nI (n := 1) (by decide) (by decide)) ev370 ?_
                refine tw_iload_n 4 dX10_house_124 rfl rfl ?_
                refine tw_i2l dX10_house_125 ?_
                refine tw_nml (fun v371 ev371 => ?_)
                refine tw_ladd dX10_house_126 ?_
                refine tw_nml (fun v372 ev372 => ?_)
                refine tw_last dX10_house_127 f368 (vp_in_nI (n := 1) (by decide) (by decide)) ?_
                obtain ⟨h373, eh373⟩ : ∃ z : tw_H, z = tw_up h335 cm_347 (.inl (d.2 1, 2, .inr (.inl (vp_updL F369 (1 : Int32).toNatClampNeg v372)))) := ⟨_, rfl⟩
                rw [← eh373]
                have sp374 : tw_sp d τ h g τ249 h373 := by rw [eh373]; exact sp336.set k356 (by decide) ⟨_, rfl⟩
                have f375 : h373 q239 = some (.inr (13, [.int (nI j33), .int (-1), .int (-1), .ref p250])) := by rw [eh373, tw_up_n (fun q => absurd (z252) (by rw [q, k356]; decide))]; exact f337
                refine tw_aload_n 1 dX10_house_128 rfl rfl ?_
                obtain ⟨e376, f377, th_378, td_379, ds_380, fr_381, ca_382, us_383, wo_384, cm_385, lc_386, lh_387, ld_388, rfl, k389, k390, k391, k392, k393, k394, k395, k396, k397, k398, k399, k400, k401, k402, k403, k404⟩ := sp374.1 x 36 k255 (by decide)
                refine tw_get (v := .ref lh_387) rfl in_14 10 dX10_house_129 w_1161 rfl (by decide) f377 rfl ?_
                refine tw_aload 0 dX10_house_132 rfl ?_
                obtain ⟨τ405, eτ405⟩ : ∃ z : tw_K, z = tw_ku τ249 q239 23 := ⟨_, rfl⟩
                have le406 : tw_le τ249 τ405 := by rw [eτ405]; exact tw_ku_le z252
                have k407 : τ405 x = 36 := le406.k k255 (by decide)
                have k408 : τ405 ds_5 = 34 := le406.k k256 (by decide)
                have k409 : τ405 fr_6 = 34 := le406.k k257 (by decide)
                have k410 : τ405 ca_7 = 31 := le406.k k258 (by decide)
                have k411 : τ405 us_8 = 31 := le406.k k259 (by decide)
                have k412 : τ405 wo_9 = 31 := le406.k k260 (by decide)
                have k413 : τ405 cm_10 = 31 := le406.k k261 (by decide)
                have k414 : τ405 lc_11 = 24 := le406.k k262 (by decide)
                have k415 : τ405 lh_12 = 25 := le406.k k263 (by decide)
                have k416 : τ405 ld_13 = 26 := le406.k k264 (by decide)
                have k417 : τ405 ds_151 = 34 := le406.k k265 (by decide)
                have k418 : τ405 fr_152 = 34 := le406.k k266 (by decide)
                have k419 : τ405 ca_153 = 31 := le406.k k267 (by decide)
                have k420 : τ405 us_154 = 31 := le406.k k268 (by decide)
                have k421 : τ405 wo_155 = 31 := le406.k k269 (by decide)
                have k422 : τ405 cm_156 = 31 := le406.k k270 (by decide)
                have k423 : τ405 lc_157 = 24 := le406.k k271 (by decide)
                have k424 : τ405 lh_158 = 25 := le406.k k272 (by decide)
                have k425 : τ405 ld_159 = 26 := le406.k k273 (by decide)
                have k426 : τ405 ds_192 = 34 := le406.k k274 (by decide)
                have k427 : τ405 fr_193 = 34 := le406.k k275 (by decide)
                have k428 : τ405 ca_194 = 31 := le406.k k276 (by decide)
                have k429 : τ405 us_195 = 31 := le406.k k277 (by decide)
                have k430 : τ405 wo_196 = 31 := le406.k k278 (by decide)
                have k431 : τ405 cm_197 = 31 := le406.k k279 (by decide)
                have k432 : τ405 lc_198 = 24 := le406.k k280 (by decide)
                have k433 : τ405 lh_199 = 25 := le406.k k281 (by decide)
                have k434 : τ405 ld_200 = 26 := le406.k k282 (by decide)
                have k435 : τ405 p250 = 31 := le406.k k253 (by decide)
                have k436 : τ405 ds_304 = 34 := le406.k k313 (by decide)
                have k437 : τ405 fr_305 = 34 := le406.k k314 (by decide)
                have k438 : τ405 ca_306 = 31 := le406.k k315 (by decide)
                have k439 : τ405 us_307 = 31 := le406.k k316 (by decide)
                have k440 : τ405 wo_308 = 31 := le406.k k317 (by decide)
                have k441 : τ405 cm_309 = 31 := le406.k k318 (by decide)
                have k442 : τ405 lc_310 = 24 := le406.k k319 (by decide)
                have k443 : τ405 lh_311 = 25 := le406.k k320 (by decide)
                have k444 : τ405 ld_312 = 26 := le406.k k321 (by decide)
                have k445 : τ405 ds_342 = 34 := le406.k k351 (by decide)
                have k446 : τ405 fr_343 = 34 := le406.k k352 (by decide)
                have k447 : τ405 ca_344 = 31 := le406.k k353 (by decide)
                have k448 : τ405 us_345 = 31 := le406.k k354 (by decide)
                have k449 : τ405 wo_346 = 31 := le406.k k355 (by decide)
                have k450 : τ405 cm_347 = 31 := le406.k k356 (by decide)
                have k451 : τ405 lc_348 = 24 := le406.k k357 (by decide)
                have k452 : τ405 lh_349 = 25 := le406.k k358 (by decide)
                have k453 : τ405 ld_350 = 26 := le406.k k359 (by decide)
                have k454 : τ405 ds_380 = 34 := le406.k k389 (by decide)
                have k455 : τ405 fr_381 = 34 := le406.k k390 (by decide)
                have k456 : τ405 ca_382 = 31 := le406.k k391 (by decide)
                have k457 : τ405 us_383 = 31 := le406.k k392 (by decide)
                have k458 : τ405 wo_384 = 31 := le406.k k393 (by decide)
                have k459 : τ405 cm_385 = 31 := le406.k k394 (by decide)
                have k460 : τ405 lc_386 = 24 := le406.k k395 (by decide)
                have k461 : τ405 lh_387 = 25 := le406.k k396 (by decide)
                have k462 : τ405 ld_388 = 26 := le406.k k397 (by decide)
                have sp463 : tw_sp d τ h g τ405 h373 := by rw [eτ405]; exact sp374.ty n242 z252 f375 (by rw [← eτ405]; exact ⟨(nI j33), (-1), (-1), p250, rfl, k435, (Or.inr ⟨_, (by omega), rfl⟩), (Or.inl rfl)⟩)
                have k464 : τ405 q239 = 23 := by rw [eτ405]; exact tw_ku_s
                obtain ⟨e465, f466, ⟨el467, rfl, k468⟩, k469⟩ := sp463.1 lh_387 25 k461 (by decide)
                have hb9 : g.2 4 + 1 ≤ 6 := (tw_n4 c225 k399 (by decide))
                rcases k468 with k468p | k468p
                · obtain ⟨pa, pn, pf⟩ := k468p
                  subst pa
                  have f9 : h373 lh_387 = some (.inr (3, [.int (g.1 4), .ref (d.2 102), .int (nI 0)])) := by have z := f466; rw [pn] at z; exact z
                  refine tw_bi (tw_callV (M := mX10_house) (pc := 134) okJx4a65c_add_9ea2d dX10_house_134 w_1238 rfl f466 [.ref q239] [] rfl rfl ⟨by decide, by decide⟩ (Nat.le_of_ble_eq_true rfl) (c_add_new d h373 lh_387 (g.1 4) f9 q239 13 _ _ rfl (ng_13) f375 (by decide)) 7 44 (Nat.le_of_ble_eq_true rfl) (Nat.le_of_ble_eq_true rfl)) (fun r9 h470 q9 => ?_) (fun E h1 q => q.elim)
                  obtain ⟨r8, hr8, q1, q2, q3⟩ := q9
                  obtain ⟨g9, τ9, ⟨hga, hg1⟩, sp9⟩ := tw_gadd25 (F := fun _ => none) sp463.1 k461 k464 hb9 (fun j hj => by rw [pn] at hj; exact absurd hj (Nat.not_lt_zero _)) (Or.inr ⟨hr8, pf⟩) (by rw [pn]; exact q1) (by rw [pn]; exact q2) q3
                  have sp471 := sp463.tr sp9
                  have k472 : τ9 x = 36 := sp9.2.1.k k407 (by decide)
                  have k473 : τ9 ds_5 = 34 := sp9.2.1.k k408 (by decide)
                  have k474 : τ9 fr_6 = 34 := sp9.2.1.k k409 (by decide)
                  have k475 : τ9 ca_7 = 31 := sp9.2.1.k k410 (by decide)
                  have k476 : τ9 us_8 = 31 := sp9.2.1.k k411 (by decide)
                  have k477 : τ9 wo_9 = 31 := sp9.2.1.k k412 (by decide)
                  have k478 : τ9 cm_10 = 31 := sp9.2.1.k k413 (by decide)
                  have k479 : τ9 lc_11 = 24 := sp9.2.1.k k414 (by decide)
                  have k480 : τ9 lh_12 = 25 := sp9.2.1.k k415 (by decide)
                  have k481 : τ9 ld_13 = 26 := sp9.2.1.k k416 (by decide)
                  have k482 : τ9 ds_151 = 34 := sp9.2.1.k k417 (by decide)
                  have k483 : τ9 fr_152 = 34 := sp9.2.1.k k418 (by decide)
                  have k484 : τ9 ca_153 = 31 := sp9.2.1.k k419 (by decide)
                  have k485 : τ9 us_154 = 31 := sp9.2.1.k k420 (by decide)
                  have k486 : τ9 wo_155 = 31 := sp9.2.1.k k421 (by decide)
                  have k487 : τ9 cm_156 = 31 := sp9.2.1.k k422 (by decide)
                  have k488 : τ9 lc_157 = 24 := sp9.2.1.k k423 (by decide)
                  have k489 : τ9 lh_158 = 25 := sp9.2.1.k k424 (by decide)
                  have k490 : τ9 ld_159 = 26 := sp9.2.1.k k425 (by decide)
                  have k491 : τ9 ds_192 = 34 := sp9.2.1.k k426 (by decide)
                  have k492 : τ9 fr_193 = 34 := sp9.2.1.k k427 (by decide)
                  have k493 : τ9 ca_194 = 31 := sp9.2.1.k k428 (by decide)
                  have k494 : τ9 us_195 = 31 := sp9.2.1.k k429 (by decide)
                  have k495 : τ9 wo_196 = 31 := sp9.2.1.k k430 (by decide)
                  have k496 : τ9 cm_197 = 31 := sp9.2.1.k k431 (by decide)
                  have k497 : τ9 lc_198 = 24 := sp9.2.1.k k432 (by decide)
                  have k498 : τ9 lh_199 = 25 := sp9.2.1.k k433 (by decide)
                  have k499 : τ9 ld_200 = 26 := sp9.2.1.k k434 (by decide)
                  have k500 : τ9 p250 = 31 := sp9.2.1.k k435 (by decide)
                  have k501 : τ9 ds_304 = 34 := sp9.2.1.k k436 (by decide)
                  have k502 : τ9 fr_305 = 34 := sp9.2.1.k k437 (by decide)
                  have k503 : τ9 ca_306 = 31 := sp9.2.1.k k438 (by decide)
                  have k504 : τ9 us_307 = 31 := sp9.2.1.k k439 (by decide)
                  have k505 : τ9 wo_308 = 31 := sp9.2.1.k k440 (by decide)
                  have k506 : τ9 cm_309 = 31 := sp9.2.1.k k441 (by decide)
                  have k507 : τ9 lc_310 = 24 := sp9.2.1.k k442 (by decide)
                  have k508 : τ9 lh_311 = 25 := sp9.2.1.k k443 (by decide)
                  have k509 : τ9 ld_312 = 26 := sp9.2.1.k k444 (by decide)
                  have k510 : τ9 ds_342 = 34 := sp9.2.1.k k445 (by decide)
                  have k511 : τ9 fr_343 = 34 := sp9.2.1.k k446 (by decide)
                  have k512 : τ9 ca_344 = 31 := sp9.2.1.k k447 (by decide)
                  have k513 : τ9 us_345 = 31 := sp9.2.1.k k448 (by decide)
                  have k514 : τ9 wo_346 = 31 := sp9.2.1.k k449 (by decide)
                  have k515 : τ9 cm_347 = 31 := sp9.2.1.k k450 (by decide)
                  have k516 : τ9 lc_348 = 24 := sp9.2.1.k k451 (by decide)
                  have k517 : τ9 lh_349 = 25 := sp9.2.1.k k452 (by decide)
                  have k518 : τ9 ld_350 = 26 := sp9.2.1.k k453 (by decide)
                  have k519 : τ9 ds_380 = 34 := sp9.2.1.k k454 (by decide)
                  have k520 : τ9 fr_381 = 34 := sp9.2.1.k k455 (by decide)
                  have k521 : τ9 ca_382 = 31 := sp9.2.1.k k456 (by decide)
                  have k522 : τ9 us_383 = 31 := sp9.2.1.k k457 (by decide)
                  have k523 : τ9 wo_384 = 31 := sp9.2.1.k k458 (by decide)
                  have k524 : τ9 cm_385 = 31 := sp9.2.1.k k459 (by decide)
                  have k525 : τ9 lc_386 = 24 := sp9.2.1.k k460 (by decide)
                  have k526 : τ9 lh_387 = 25 := sp9.2.1.k k461 (by decide)
                  have k527 : τ9 ld_388 = 26 := sp9.2.1.k k462 (by decide)
                  have k528 : τ9 q239 = 23 := sp9.2.1.k k464 (by decide)
                  refine tw_pop dX10_house_137 rfl ?_
                  refine tw_aload_n 1 dX10_house_138 rfl rfl ?_
                  obtain ⟨e529, f530, th_531, td_532, ds_533, fr_534, ca_535, us_536, wo_537, cm_538, lc_539, lh_540, ld_541, rfl, k542, k543, k544, k545, k546, k547, k548, k549, k550, k551, k552, k553, k554, k555, k556, k557⟩ := sp471.1 x 36 k472 (by decide)
                  refine tw_get (v := .ref lh_540) rfl in_14 10 dX10_house_139 w_1161 rfl (by decide) f530 rfl ?_
                  obtain ⟨e558, f559, ⟨el560, rfl, k561⟩, k562⟩ := sp471.1 lh_540 25 k549 (by decide)
                  refine tw_bi (tw_callV (M := mX10_house) (pc := 142) okJx4a65c_size_8abf5 dX10_house_142 w_1208 rfl f559 [] [] rfl rfl ⟨by decide, by decide⟩ (Nat.le_of_ble_eq_true rfl) (c25_size d g9 τ9 h470 sp471.1 lh_540 k549) 7 44 (Nat.le_of_ble_eq_true rfl) (Nat.le_of_ble_eq_true rfl)) (fun r565 h564 q563 => ?_) (fun E h1 q => q.elim)
                  obtain ⟨q563e, q563r⟩ := q563
                  rw [q563e, q563r]
                  refine tw_iconst (v := 1) dX10_house_145 (by decide) ?_
                  refine tw_isub dX10_house_146 ?_
                  refine tw_nmi (fun v566 ev566 => ?_)
                  exact tw_iret dX10_house_147 rfl (Or.inl ⟨_, rfl, ⟨_, _, hga, sp471⟩⟩)
                · obtain ⟨e9, fa9, ⟨F9, rfl, hc9, h49⟩, un9⟩ := sp463.1 el467 28 k468p (by decide)
                  refine tw_bi (tw_callV (M := mX10_house) (pc := 134) okJx4a65c_add_9ea2d dX10_house_134 w_1238 rfl f466 [.ref q239] [] rfl rfl ⟨by decide, by decide⟩ (Nat.le_of_ble_eq_true rfl) (c_add_old d h373 lh_387 el467 (g.2 4) F9 (g.1 4) (by omega) f466 fa9 q239 13 _ _ rfl (ng_13) f375 (by decide)) 7 44 (Nat.le_of_ble_eq_true rfl) (Nat.le_of_ble_eq_true rfl)) (fun r9 h567 q9 => ?_) (fun E h1 q => q.elim)
                  obtain ⟨q1, q2, q3⟩ := q9
                  obtain ⟨g9, τ9, ⟨hga, hg1⟩, sp9⟩ := tw_gadd25 sp463.1 k461 k464 hb9 h49 (Or.inl k468p) q1 q2 q3
                  have sp568 := sp463.tr sp9
                  have k569 : τ9 x = 36 := sp9.2.1.k k407 (by decide)
                  have k570 : τ9 ds_5 = 34 := sp9.2.1.k k408 (by decide)
                  have k571 : τ9 fr_6 = 34 := sp9.2.1.k k409 (by decide)
                  have k572 : τ9 ca_7 = 31 := sp9.2.1.k k410 (by decide)
                  have k573 : τ9 us_8 = 31 := sp9.2.1.k k411 (by decide)
                  have k574 : τ9 wo_9 = 31 := sp9.2.1.k k412 (by decide)
                  have k575 : τ9 cm_10 = 31 := sp9.2.1.k k413 (by decide)
                  have k576 : τ9 lc_11 = 24 := sp9.2.1.k k414 (by decide)
                  have k577 : τ9 lh_12 = 25 := sp9.2.1.k k415 (by decide)
                  have k578 : τ9 ld_13 = 26 := sp9.2.1.k k416 (by decide)
                  have k579 : τ9 ds_151 = 34 := sp9.2.1.k k417 (by decide)
                  have k580 : τ9 fr_152 = 34 := sp9.2.1.k k418 (by decide)
                  have k581 : τ9 ca_153 = 31 := sp9.2.1.k k419 (by decide)
                  have k582 : τ9 us_154 = 31 := sp9.2.1.k k420 (by decide)
                  have k583 : τ9 wo_155 = 31 := sp9.2.1.k k421 (by decide)
                  have k584 : τ9 cm_156 = 31 := sp9.2.1.k k422 (by decide)
                  have k585 : τ9 lc_157 = 24 := sp9.2.1.k k423 (by decide)
                  have k586 : τ9 lh_158 = 25 := sp9.2.1.k k424 (by decide)
                  have k587 : τ9 ld_159 = 26 := sp9.2.1.k k425 (by decide)
                  have k588 : τ9 ds_192 = 34 := sp9.2.1.k k426 (by decide)
                  have k589 : τ9 fr_193 = 34 := sp9.2.1.k k427 (by decide)
                  have k590 : τ9 ca_194 = 31 := sp9.2.1.k k428 (by decide)
                  have k591 : τ9 us_195 = 31 := sp9.2.1.k k429 (by decide)
                  have k592 : τ9 wo_196 = 31 := sp9.2.1.k k430 (by decide)
                  have k593 : τ9 cm_197 = 31 := sp9.2.1.k k431 (by decide)
                  have k594 : τ9 lc_198 = 24 := sp9.2.1.k k432 (by decide)
                  have k595 : τ9 lh_199 = 25 := sp9.2.1.k k433 (by decide)
                  have k596 : τ9 ld_200 = 26 := sp9.2.1.k k434 (by decide)
                  have k597 : τ9 p250 = 31 := sp9.2.1.k k435 (by decide)
                  have k598 : τ9 ds_304 = 34 := sp9.2.1.k k436 (by decide)
                  have k599 : τ9 fr_305 = 34 := sp9.2.1.k k437 (by decide)
                  have k600 : τ9 ca_306 = 31 := sp9.2.1.k k438 (by decide)
                  have k601 : τ9 us_307 = 31 := sp9.2.1.k k439 (by decide)
                  have k602 : τ9 wo_308 = 31 := sp9.2.1.k k440 (by decide)
                  have k603 : τ9 cm_309 = 31 := sp9.2.1.k k441 (by decide)
                  have k604 : τ9 lc_310 = 24 := sp9.2.1.k k442 (by decide)
                  have k605 : τ9 lh_311 = 25 := sp9.2.1.k k443 (by decide)
                  have k606 : τ9 ld_312 = 26 := sp9.2.1.k k444 (by decide)
                  have k607 : τ9 ds_342 = 34 := sp9.2.1.k k445 (by decide)
                  have k608 : τ9 fr_343 = 34 := sp9.2.1.k k446 (by decide)
                  have k609 : τ9 ca_344 = 31 := sp9.2.1.k k447 (by decide)
                  have k610 : τ9 us_345 = 31 := sp9.2.1.k k448 (by decide)
                  have k611 : τ9 wo_346 = 31 := sp9.2.1.k k449 (by decide)
                  have k612 : τ9 cm_347 = 31 := sp9.2.1.k k450 (by decide)
                  have k613 : τ9 lc_348 = 24 := sp9.2.1.k k451 (by decide)
                  have k614 : τ9 lh_349 = 25 := sp9.2.1.k k452 (by decide)
                  have k615 : τ9 ld_350 = 26 := sp9.2.1.k k453 (by decide)
                  have k616 : τ9 ds_380 = 34 := sp9.2.1.k k454 (by decide)
                  have k617 : τ9 fr_381 = 34 := sp9.2.1.k k455 (by decide)
                  have k618 : τ9 ca_382 = 31 := sp9.2.1.k k456 (by decide)
                  have k619 : τ9 us_383 = 31 := sp9.2.1.k k457 (by decide)
                  have k620 : τ9 wo_384 = 31 := sp9.2.1.k k458 (by decide)
                  have k621 : τ9 cm_385 = 31 := sp9.2.1.k k459 (by decide)
                  have k622 : τ9 lc_386 = 24 := sp9.2.1.k k460 (by decide)
                  have k623 : τ9 lh_387 = 25 := sp9.2.1.k k461 (by decide)
                  have k624 : τ9 ld_388 = 26 := sp9.2.1.k k462 (by decide)
                  have k625 : τ9 q239 = 23 := sp9.2.1.k k464 (by decide)
                  refine tw_pop dX10_house_137 rfl ?_
                  refine tw_aload_n 1 dX10_house_138 rfl rfl ?_
                  obtain ⟨e626, f627, th_628, td_629, ds_630, fr_631, ca_632, us_633, wo_634, cm_635, lc_636, lh_637, ld_638, rfl, k639, k640, k641, k642, k643, k644, k645, k646, k647, k648, k649, k650, k651, k652, k653, k654⟩ := sp568.1 x 36 k569 (by decide)
                  refine tw_get (v := .ref lh_637) rfl in_14 10 dX10_house_139 w_1161 rfl (by decide) f627 rfl ?_
                  obtain ⟨e655, f656, ⟨el657, rfl, k658⟩, k659⟩ := sp568.1 lh_637 25 k646 (by decide)
                  refine tw_bi (tw_callV (M := mX10_house) (pc := 142) okJx4a65c_size_8abf5 dX10_house_142 w_1208 rfl f656 [] [] rfl rfl ⟨by decide, by decide⟩ (Nat.le_of_ble_eq_true rfl) (c25_size d g9 τ9 h567 sp568.1 lh_637 k646) 7 44 (Nat.le_of_ble_eq_true rfl) (Nat.le_of_ble_eq_true rfl)) (fun r662 h661 q660 => ?_) (fun E h1 q => q.elim)
                  obtain ⟨q660e, q660r⟩ := q660
                  rw [q660e, q660r]
                  refine tw_iconst (v := 1) dX10_house_145 (by decide) ?_
                  refine tw_isub dX10_house_146 ?_
                  refine tw_nmi (fun v663 ev663 => ?_)
                  exact tw_iret dX10_house_147 rfl (Or.inl ⟨_, rfl, ⟨_, _, hga, sp568⟩⟩)
            · refine tw_iconst (v := 1) dX10_house_59 (by decide) ?_
              refine tw_goto 64 dX10_house_60 (by decide) ?_
              refine tw_iconst (v := 3) dX10_house_64 (by decide) ?_
              refine tw_bi (tw_callV (M := mX10_house) (pc := 65) okX10_refuse dX10_house_65 w_1204 rfl f189 [.int 1, .int 3] [] rfl rfl ⟨by decide, by decide⟩ (Nat.le_of_ble_eq_true rfl) (c_X10_refuse d g τ h177 sp184.1 x kx 1 3 (by decide)) 10 60 (Nat.le_of_ble_eq_true rfl) (Nat.le_of_ble_eq_true rfl)) (fun r666 h665 q664 => ?_) (fun E h1 q => q.elim)
              obtain ⟨e667, he668, hs669, hr670, h3671⟩ := q664
              have sp672 : tw_sp d τ h g τ h665 := by rw [he668]; exact sp184.set kx (by decide) hs669
              have f673 : h665 lh_199 = some (.inr (3, [.int (g.1 4), .ref el219, .int (nI (g.2 4))])) := by rw [he668, tw_up_n (fun q => absurd (k208) (by rw [q, kx]; decide))]; exact f218
              rcases hr670 with ei674 | ⟨ei674, ei674b⟩
              · rw [ei674]
                refine tw_if_eq 73 dX10_house_68 (by decide) (fun c675 => absurd c675 (by decide)) (fun _ => ?_)
                refine tw_iconst (v := 0) dX10_house_71 (by decide) ?_
                exact tw_iret dX10_house_72 rfl (Or.inl ⟨_, rfl, ⟨_, _, ⟨rfl, rfl⟩, sp672⟩⟩)
              · exact absurd ei674b (by decide)

set_option maxHeartbeats 4000000 in
set_option maxRecDepth 100000 in
theorem c_X10_owe (d : tw_D) (g : tw_G) (τ : tw_K) (h : tw_H) (hw : tw_wt d g τ h) (x : Nat) (kx : τ x = 36) (a : Int32) (b : Int32) (v : Int32) (dy : Int32) : tw_Ct d mX10_owe 10 60 [.ref x, .int a, .int b, .int v, .int dy] h (tw_qi (fun r h1 => ∃ g1 τ1, tw_ga g g1 ∧ tw_sp d τ h g1 τ1 h1) tw_nx) := by
  refine tw_of (by decide +kernel) (Nat.le_of_ble_eq_true rfl) ?_
  show tw_W d mX10_owe _ 0 [(0, .ref x), (1, .int a), (2, .int b), (3, .int v), (4, .int dy)] [] h 10 60
  have sp0 := tw_sp.rf hw
  refine tw_aload_n 0 dX10_owe_0 rfl rfl ?_
  refine tw_aload_n 0 dX10_owe_1 rfl rfl ?_
  refine tw_iload_n 1 dX10_owe_2 rfl rfl ?_
  obtain ⟨e1, f2, th_3, td_4, ds_5, fr_6, ca_7, us_8, wo_9, cm_10, lc_11, lh_12, ld_13, rfl, k14, k15, k16, k17, k18, k19, k20, k21, k22, k23, k24, k25, k26, k27, k28, k29⟩ := sp0.1 x 36 kx (by decide)
  refine tw_bi (tw_callV (M := mX10_owe) (pc := 3) okX10_isNoHouse dX10_owe_3 w_1362 rfl f2 [.int a] [.ref x] rfl rfl ⟨by decide, by decide⟩ (Nat.le_of_ble_eq_true rfl) (c_X10_isNoHouse d g τ h sp0.1 x kx a) 10 60 (Nat.le_of_ble_eq_true rfl) (Nat.le_of_ble_eq_true rfl)) (fun r32 h31 q30 => ?_) (fun E h1 q => q.elim)
  obtain ⟨q30e, q30d⟩ := q30
  rw [q30e]
  rcases q30d with q30r | ⟨q30r, j33, q30j, q30k⟩
  · rw [q30r]
    refine tw_if_ne 17 dX10_owe_6 (by decide) (fun _ => ?_) (fun c34 => absurd c34 (by decide))
    refine tw_iconst (v := 1) dX10_owe_17 (by decide) ?_
    refine tw_goto 22 dX10_owe_18 (by decide) ?_
    refine tw_iconst (v := 1) dX10_owe_22 (by decide) ?_
    refine tw_bi (tw_callV (M := mX10_owe) (pc := 23) okX10_start dX10_owe_23 w_1200 rfl f2 [.int 1, .int 1] [] rfl rfl ⟨by decide, by decide⟩ (Nat.le_of_ble_eq_true rfl) (c_X10_start d g τ h sp0.1 x kx 1 1 (by decide)) 10 60 (Nat.le_of_ble_eq_true rfl) (Nat.le_of_ble_eq_true rfl)) (fun r37 h36 q35 => ?_) (fun E h1 q => q.elim)
    obtain ⟨e38, he39, hs40, hr41, h342⟩ := q35
    have sp43 : tw_sp d τ h g τ h36 := by rw [he39]; exact sp0.set kx (by decide) hs40
    rcases hr41 with ei44 | ⟨ei44, ei44b⟩
    · rw [ei44]
      refine tw_if_ne 95 dX10_owe_26 (by decide) (fun _ => ?_) (fun c45 => absurd c45 (by decide))
      refine tw_iconst (v := 0) dX10_owe_95 (by decide) ?_
      exact tw_iret dX10_owe_96 rfl (Or.inl ⟨_, rfl, ⟨_, _, ⟨rfl, rfl⟩, sp43⟩⟩)
    · exact absurd ei44b (by decide)
  · rw [q30r]
    subst q30k
    refine tw_if_ne 17 dX10_owe_6 (by decide) (fun c46 => absurd (by decide) c46) (fun _ => ?_)
    refine tw_aload_n 0 dX10_owe_9 rfl rfl ?_
    refine tw_iload_n 2 dX10_owe_10 rfl rfl ?_
    refine tw_bi (tw_callV (M := mX10_owe) (pc := 11) okX10_isNoHouse dX10_owe_11 w_1362 rfl f2 [.int b] [.ref x] rfl rfl ⟨by decide, by decide⟩ (Nat.le_of_ble_eq_true rfl) (c_X10_isNoHouse d g τ h sp0.1 x kx b) 10 60 (Nat.le_of_ble_eq_true rfl) (Nat.le_of_ble_eq_true rfl)) (fun r49 h48 q47 => ?_) (fun E h1 q => q.elim)
    obtain ⟨q47e, q47d⟩ := q47
    rw [q47e]
    rcases q47d with q47r | ⟨q47r, j50, q47j, q47k⟩
    · rw [q47r]
      refine tw_if_eq 21 dX10_owe_14 (by decide) (fun c51 => absurd c51 (by decide)) (fun _ => ?_)
      refine tw_iconst (v := 1) dX10_owe_17 (by decide) ?_
      refine tw_goto 22 dX10_owe_18 (by decide) ?_
      refine tw_iconst (v := 1) dX10_owe_22 (by decide) ?_
      refine tw_bi (tw_callV (M := mX10_owe) (pc := 23) okX10_start dX10_owe_23 w_1200 rfl f2 [.int 1, .int 1] [] rfl rfl ⟨by decide, by decide⟩ (Nat.le_of_ble_eq_true rfl) (c_X10_start d g τ h sp0.1 x kx 1 1 (by decide)) 10 60 (Nat.le_of_ble_eq_true rfl) (Nat.le_of_ble_eq_true rfl)) (fun r54 h53 q52 => ?_) (fun E h1 q => q.elim)
      obtain ⟨e55, he56, hs57, hr58, h359⟩ := q52
      have sp60 : tw_sp d τ h g τ h53 := by rw [he56]; exact sp0.set kx (by decide) hs57
      rcases hr58 with ei61 | ⟨ei61, ei61b⟩
      · rw [ei61]
        refine tw_if_ne 95 dX10_owe_26 (by decide) (fun _ => ?_) (fun c62 => absurd c62 (by decide))
        refine tw_iconst (v := 0) dX10_owe_95 (by decide) ?_
        exact tw_iret dX10_owe_96 rfl (Or.inl ⟨_, rfl, ⟨_, _, ⟨rfl, rfl⟩, sp60⟩⟩)
      · exact absurd ei61b (by decide)
    · rw [q47r]
      subst q47k
      refine tw_if_eq 21 dX10_owe_14 (by decide) (fun _ => ?_) (fun c63 => absurd (by decide) c63)
      refine tw_iconst (v := 0) dX10_owe_21 (by decide) ?_
      refine tw_iconst (v := 1) dX10_owe_22 (by decide) ?_
      refine tw_bi (tw_callV (M := mX10_owe) (pc := 23) okX10_start dX10_owe_23 w_1200 rfl f2 [.int 0, .int 1] [] rfl rfl ⟨by decide, by decide⟩ (Nat.le_of_ble_eq_true rfl) (c_X10_start d g τ h sp0.1 x kx 0 1 (by decide)) 10 60 (Nat.le_of_ble_eq_true rfl) (Nat.le_of_ble_eq_true rfl)) (fun r66 h65 q64 => ?_) (fun E h1 q => q.elim)
      obtain ⟨e67, he68, hs69, hr70, h371⟩ := q64
      have sp72 : tw_sp d τ h g τ h65 := by rw [he68]; exact sp0.set kx (by decide) hs69
      rcases hr70 with ei73 | ⟨ei73, ei73b⟩
      · rw [ei73]
        refine tw_if_ne 95 dX10_owe_26 (by decide) (fun _ => ?_) (fun c74 => absurd c74 (by decide))
        refine tw_iconst (v := 0) dX10_owe_95 (by decide) ?_
        exact tw_iret dX10_owe_96 rfl (Or.inl ⟨_, rfl, ⟨_, _, ⟨rfl, rfl⟩, sp72⟩⟩)
      · rw [ei73]
        refine tw_if_ne 95 dX10_owe_26 (by decide) (fun c75 => absurd (by decide) c75) (fun _ => ?_)
        refine tw_aload_n 0 dX10_owe_29 rfl rfl ?_
        refine tw_iload_n 1 dX10_owe_30 rfl rfl ?_
        refine tw_iload_n 2 dX10_owe_31 rfl rfl ?_
        refine tw_icmp_eq 58 dX10_owe_32 (by decide) (fun c76 => ?_) (fun c76 => ?_)
        · refine tw_iconst (v := 1) dX10_owe_58 (by decide) ?_
          refine tw_goto 63 dX10_owe_59 (by decide) ?_
          refine tw_iconst (v := 2) dX10_owe_63 (by decide) ?_
          obtain ⟨e77, f78, th_79, td_80, ds_81, fr_82, ca_83, us_84, wo_85, cm_86, lc_87, lh_88, ld_89, rfl, k90, k91, k92, k93, k94, k95, k96, k97, k98, k99, k100, k101, k102, k103, k104, k105⟩ := sp72.1 x 36 kx (by decide)
          refine tw_bi (tw_callV (M := mX10_owe) (pc := 64) okX10_refuse dX10_owe_64 w_1204 rfl f78 [.int 1, .int 2] [] rfl rfl ⟨by decide, by decide⟩ (Nat.le_of_ble_eq_true rfl) (c_X10_refuse d g τ h65 sp72.1 x kx 1 2 (by decide)) 10 60 (Nat.le_of_ble_eq_true rfl) (Nat.le_of_ble_eq_true rfl)) (fun r108 h107 q106 => ?_) (fun E h1 q => q.elim)
          obtain ⟨e109, he110, hs111, hr112, h3113⟩ := q106
          have sp114 : tw_sp d τ h g τ h107 := by rw [he110]; exact sp72.set kx (by decide) hs111
          rcases hr112 with ei115 | ⟨ei115, ei115b⟩
          · rw [ei115]
            refine tw_if_ne 95 dX10_owe_67 (by decide) (fun _ => ?_) (fun c116 => absurd c116 (by decide))
            refine tw_iconst (v := 0) dX10_owe_95 (by decide) ?_
            exact tw_iret dX10_owe_96 rfl (Or.inl ⟨_, rfl, ⟨_, _, ⟨rfl, rfl⟩, sp114⟩⟩)
          · exact absurd ei115b (by decide)
        · refine tw_iload_n 3 dX10_owe_35 rfl rfl ?_
          refine tw_iconst (v := 1) dX10_owe_36 (by decide) ?_
          refine tw_sipush (v := 9999) dX10_owe_37 (by decide) ?_
          refine tw_bi (tw_callS (M := mX10_owe) (pc := 40) okX10_isIn dX10_owe_40 w_1196 [.int v, .int 1, .int 9999] [.ref x] rfl rfl ⟨by decide, by decide⟩ (Nat.le_of_ble_eq_true rfl) (c_X10_isIn d g τ h65 sp72.1 v 1 9999) 10 60 (Nat.le_of_ble_eq_true rfl) (Nat.le_of_ble_eq_true rfl)) (fun r119 h118 q117 => ?_) (fun E h1 q => q.elim)
          obtain ⟨q117e, q117d⟩ := q117
          rw [q117e]
          rcases q117d with ⟨q117r, q117n⟩ | ⟨q117r, q117a, q117b⟩
          · rw [q117r]
            refine tw_if_eq 58 dX10_owe_43 (by decide) (fun _ => ?_) (fun c120 => absurd (by decide) c120)
            refine tw_iconst (v := 1) dX10_owe_58 (by decide) ?_
            refine tw_goto 63 dX10_owe_59 (by decide) ?_
            refine tw_iconst (v := 2) dX10_owe_63 (by decide) ?_
            obtain ⟨e121, f122, th_123, td_124, ds_125, fr_126, ca_127, us_128, wo_129, cm_130, lc_131, lh_132, ld_133, rfl, k134, k135, k136, k137, k138, k139, k140, k141, k142, k143, k144, k145, k146, k147, k148, k149⟩ := sp72.1 x 36 kx (by decide)
            refine tw_bi (tw_callV (M := mX10_owe) (pc := 64) okX10_refuse dX10_owe_64 w_1204 rfl f122 [.int 1, .int 2] [] rfl rfl ⟨by decide, by decide⟩ (Nat.le_of_ble_eq_true rfl) (c_X10_refuse d g τ h65 sp72.1 x kx 1 2 (by decide)) 10 60 (Nat.le_of_ble_eq_true rfl) (Nat.le_of_ble_eq_true rfl)) (fun r152 h151 q150 => ?_) (fun E h1 q => q.elim)
            obtain ⟨e153, he154, hs155, hr156, h3157⟩ := q150
            have sp158 : tw_sp d τ h g τ h151 := by rw [he154]; exact sp72.set kx (by decide) hs155
            rcases hr156 with ei159 | ⟨ei159, ei159b⟩
            · rw [ei159]
              refine tw_if_ne 95 dX10_owe_67 (by decide) (fun _ => ?_) (fun c160 => absurd c160 (by decide))
              refine tw_iconst (v := 0) dX10_owe_95 (by decide) ?_
              exact tw_iret dX10_owe_96 rfl (Or.inl ⟨_, rfl, ⟨_, _, ⟨rfl, rfl⟩, sp158⟩⟩)
            · exact absurd ei159b (by decide)
          · rw [q117r]
            refine tw_if_eq 58 dX10_owe_43 (by decide) (fun c161 => absurd c161 (by decide)) (fun _ => ?_)
            refine tw_iload 4 dX10_owe_46 rfl ?_
            refine tw_iconst (v := 0) dX10_owe_48 (by decide) ?_
            refine tw_sipush (v := 1000) dX10_owe_49 (by decide) ?_
            refine tw_bi (tw_callS (M := mX10_owe) (pc := 52) okX10_isIn dX10_owe_52 w_1196 [.int dy, .int 0, .int 1000] [.ref x] rfl rfl ⟨by decide, by decide⟩ (Nat.le_of_ble_eq_true rfl) (c_X10_isIn d g τ h65 sp72.1 dy 0 1000) 10 60 (Nat.le_of_ble_eq_true rfl) (Nat.le_of_ble_eq_true rfl)) (fun r164 h163 q162 => ?_) (fun E h1 q => q.elim)
            obtain ⟨q162e, q162d⟩ := q162
            rw [q162e]
            rcases q162d with ⟨q162r, q162n⟩ | ⟨q162r, q162a, q162b⟩
            · rw [q162r]
              refine tw_if_ne 62 dX10_owe_55 (by decide) (fun c165 => absurd (by decide) c165) (fun _ => ?_)
              refine tw_iconst (v := 1) dX10_owe_58 (by decide) ?_
              refine tw_goto 63 dX10_owe_59 (by decide) ?_
              refine tw_iconst (v := 2) dX10_owe_63 (by decide) ?_
              obtain ⟨e166, f167, th_168, td_169, ds_170, fr_171, ca_172, us_173, wo_174, cm_175, lc_176, lh_177, ld_178, rfl, k179, k180, k181, k182, k183, k184, k185, k186, k187, k188, k189, k190, k191, k192, k193, k194⟩ := sp72.1 x 36 kx (by decide)
              refine tw_bi (tw_callV (M := mX10_owe) (pc := 64) okX10_refuse dX10_owe_64 w_1204 rfl f167 [.int 1, .int 2] [] rfl rfl ⟨by decide, by decide⟩ (Nat.le_of_ble_eq_true rfl) (c_X10_refuse d g τ h65 sp72.1 x kx 1 2 (by decide)) 10 60 (Nat.le_of_ble_eq_true rfl) (Nat.le_of_ble_eq_true rfl)) (fun r197 h196 q195 => ?_) (fun E h1 q => q.elim)
              obtain ⟨e198, he199, hs200, hr201, h3202⟩ := q195
              have sp203 : tw_sp d τ h g τ h196 := by rw [he199]; exact sp72.set kx (by decide) hs200
              rcases hr201 with ei204 | ⟨ei204, ei204b⟩
              · rw [ei204]
                refine tw_if_ne 95 dX10_owe_67 (by decide) (fun _ => ?_) (fun c205 => absurd c205 (by decide))
                refine tw_iconst (v := 0) dX10_owe_95 (by decide) ?_
                exact tw_iret dX10_owe_96 rfl (Or.inl ⟨_, rfl, ⟨_, _, ⟨rfl, rfl⟩, sp203⟩⟩)
              · exact absurd ei204b (by decide)
            · rw [q162r]
              refine tw_if_ne 62 dX10_owe_55 (by decide) (fun _ => ?_) (fun c206 => absurd c206 (by decide))
              refine tw_iconst (v := 0) dX10_owe_62 (by decide) ?_
              refine tw_iconst (v := 2) dX10_owe_63 (by decide) ?_
              obtain ⟨e207, f208, th_209, td_210, ds_211, fr_212, ca_213, us_214, wo_215, cm_216, lc_217, lh_218, ld_219, rfl, k220, k221, k222, k223, k224, k225, k226, k227, k228, k229, k230, k231, k232, k233, k234, k235⟩ := sp72.1 x 36 kx (by decide)
              refine tw_bi (tw_callV (M := mX10_owe) (pc := 64) okX10_refuse dX10_owe_64 w_1204 rfl f208 [.int 0, .int 2] [] rfl rfl ⟨by decide, by decide⟩ (Nat.le_of_ble_eq_true rfl) (c_X10_refuse d g τ h65 sp72.1 x kx 0 2 (by decide)) 10 60 (Nat.le_of_ble_eq_true rfl) (Nat.le_of_ble_eq_true rfl)) (fun r238 h237 q236 => ?_) (fun E h1 q => q.elim)
              obtain ⟨e239, he240, hs241, hr242, h3243⟩ := q236
              have sp244 : tw_sp d τ h g τ h237 := by rw [he240]; exact sp72.set kx (by decide) hs241
              rcases hr242 with ei245 | ⟨ei245, ei245b⟩
              · rw [ei245]
                refine tw_if_ne 95 dX10_owe_67 (by decide) (fun _ => ?_) (fun c246 => absurd c246 (by decide))
                refine tw_iconst (v := 0) dX10_owe_95 (by decide) ?_
                exact tw_iret dX10_owe_96 rfl (Or.inl ⟨_, rfl, ⟨_, _, ⟨rfl, rfl⟩, sp244⟩⟩)
              · rw [ei245]
                refine tw_if_ne 95 dX10_owe_67 (by decide) (fun c247 => absurd (by decide) c247) (fun _ => ?_)
                refine tw_aload_n 0 dX10_owe_70 rfl rfl ?_
                refine tw_aload_n 0 dX10_owe_71 rfl rfl ?_
                obtain ⟨e248, f249, th_250, td_251, ds_252, fr_253, ca_254, us_255, wo_256, cm_257, lc_258, lh_259, ld_260, rfl, k261, k262, k263, k264, k265, k266, k267, k268, k269, k270, k271, k272, k273, k274, k275, k276⟩ := sp244.1 x 36 kx (by decide)
                refine tw_get (v := .ref ld_260) rfl in_14 11 dX10_owe_72 w_1162 rfl (by decide) f249 rfl ?_
                obtain ⟨e277, f278, ⟨el279, rfl, k280⟩, k281⟩ := sp244.1 ld_260 26 k269 (by decide)
                refine tw_bi (tw_callV (M := mX10_owe) (pc := 75) okJx4a65c_size_8abf5 dX10_owe_75 w_1208 rfl f278 [] [.ref x] rfl rfl ⟨by decide, by decide⟩ (Nat.le_of_ble_eq_true rfl) (c26_size d g τ h237 sp244.1 ld_260 k269) 10 60 (Nat.le_of_ble_eq_true rfl) (Nat.le_of_ble_eq_true rfl)) (fun r284 h283 q282 => ?_) (fun E h1 q => q.elim)
                obtain ⟨q282e, q282r⟩ := q282
                rw [q282e, q282r]
                refine tw_bipush (v := 10) dX10_owe_78 (by decide) ?_
                refine tw_icmp_ne 87 dX10_owe_80 (by decide) (fun c285 => ?_) (fun c285 => ?_)
                · refine tw_iconst (v := 0) dX10_owe_87 (by decide) ?_
                  refine tw_iconst (v := 3) dX10_owe_88 (by decide) ?_
                  refine tw_bi (tw_callV (M := mX10_owe) (pc := 89) okX10_refuse dX10_owe_89 w_1204 rfl f249 [.int 0, .int 3] [] rfl rfl ⟨by decide, by decide⟩ (Nat.le_of_ble_eq_true rfl) (c_X10_refuse d g τ h237 sp244.1 x kx 0 3 (by decide)) 10 60 (Nat.le_of_ble_eq_true rfl) (Nat.le_of_ble_eq_true rfl)) (fun r288 h287 q286 => ?_) (fun E h1 q => q.elim)
                  obtain ⟨e289, he290, hs291, hr292, h3293⟩ := q286
                  have sp294 : tw_sp d τ h g τ h287 := by rw [he290]; exact sp244.set kx (by decide) hs291
                  have f295 : h287 ld_260 = some (.inr (3, [.int (g.1 5), .ref el279, .int (nI (g.2 5))])) := by rw [he290, tw_up_n (fun q => absurd (k269) (by rw [q, kx]; decide))]; exact f278
                  rcases hr292 with ei296 | ⟨ei296, ei296b⟩
                  · rw [ei296]
                    refine tw_if_eq 97 dX10_owe_92 (by decide) (fun c297 => absurd c297 (by decide)) (fun _ => ?_)
                    refine tw_iconst (v := 0) dX10_owe_95 (by decide) ?_
                    exact tw_iret dX10_owe_96 rfl (Or.inl ⟨_, rfl, ⟨_, _, ⟨rfl, rfl⟩, sp294⟩⟩)
                  · rw [ei296]
                    refine tw_if_eq 97 dX10_owe_92 (by decide) (fun _ => ?_) (fun c298 => absurd (by decide) c298)
                    refine tw_new (ci := 12) rfl in_12 tyX8 tyX8_ok dX10_owe_97 w_1437 w_1438 w_103 (fs := [.int 0, .int 0, .int 0, .int 0, .int 0]) (fun j hj => by rcases (show j = 0 ∨ j = 1 ∨ j = 2 ∨ j = 3 ∨ j = 4 by omega) with rfl | rfl | rfl | rfl | rfl <;> rfl) 9 55 (Nat.le_of_ble_eq_true rfl) (Nat.le_of_ble_eq_true rfl) (fun q299 hq300 hA301 => ?_)
                    have n302 := sp294.nn hq300
                    have z303 := sp294.1.none hq300
                    obtain ⟨h304, eh304⟩ : ∃ z : tw_H, z = tw_up h287 q299 (.inr (12, [.int 0, .int 0, .int 0, .int 0, .int 0])) := ⟨_, rfl⟩
                    rw [← eh304]
                    have sp305 : tw_sp d τ h g τ h304 := by rw [eh304]; exact sp294.mk hq300
                    have f306 : h304 q299 = some (.inr (12, [.int 0, .int 0, .int 0, .int 0, .int 0])) := by rw [eh304]; exact tw_up_s
                    refine tw_dup dX10_owe_100 rfl ?_
                    refine tw_bv (tw_callIN (M := mX10_owe) (pc := 101) okX8_init dX10_owe_101 w_1439 rfl [] [.ref q299] rfl rfl ⟨by decide, by decide⟩ (Nat.le_of_ble_eq_true rfl) (c_X8_init d g τ h304 sp305.1 q299 z303 f306) 9 55 (Nat.le_of_ble_eq_true rfl) (Nat.le_of_ble_eq_true rfl)) (fun h308 q307 => ?_) (fun E h1 q => q.elim)
                    obtain ⟨τ309, q307s, f310, z311⟩ := q307
                    have sp312 := sp305.trm n302 q307s
                    have k313 : τ309 x = 36 := q307s.2.1.k kx (by decide)
                    have k314 : τ309 ds_5 = 34 := q307s.2.1.k k14 (by decide)
                    have k315 : τ309 fr_6 = 34 := q307s.2.1.k k15 (by decide)
                    have k316 : τ309 ca_7 = 31 := q307s.2.1.k k16 (by decide)
                    have k317 : τ309 us_8 = 31 := q307s.2.1.k k17 (by decide)
                    have k318 : τ309 wo_9 = 31 := q307s.2.1.k k18 (by decide)
                    have k319 : τ309 cm_10 = 31 := q307s.2.1.k k19 (by decide)
                    have k320 : τ309 lc_11 = 24 := q307s.2.1.k k20 (by decide)
                    have k321 : τ309 lh_12 = 25 := q307s.2.1.k k21 (by decide)
                    have k322 : τ309 ld_13 = 26 := q307s.2.1.k k22 (by decide)
                    have k323 : τ309 ds_211 = 34 := q307s.2.1.k k220 (by decide)
                    have k324 : τ309 fr_212 = 34 := q307s.2.1.k k221 (by decide)
                    have k325 : τ309 ca_213 = 31 := q307s.2.1.k k222 (by decide)
                    have k326 : τ309 us_214 = 31 := q307s.2.1.k k223 (by decide)
                    have k327 : τ309 wo_215 = 31 := q307s.2.1.k k224 (by decide)
                    have k328 : τ309 cm_216 = 31 := q307s.2.1.k k225 (by decide)
                    have k329 : τ309 lc_217 = 24 := q307s.2.1.k k226 (by decide)
                    have k330 : τ309 lh_218 = 25 := q307s.2.1.k k227 (by decide)
                    have k331 : τ309 ld_219 = 26 := q307s.2.1.k k228 (by decide)
                    have k332 : τ309 ds_252 = 34 := q307s.2.1.k k261 (by decide)
                    have k333 : τ309 fr_253 = 34 := q307s.2.1.k k262 (by decide)
                    have k334 : τ309 ca_254 = 31 := q307s.2.1.k k263 (by decide)
                    have k335 : τ309 us_255 = 31 := q307s.2.1.k k264 (by decide)
                    have k336 : τ309 wo_256 = 31 := q307s.2.1.k k265 (by decide)
                    have k337 : τ309 cm_257 = 31 := q307s.2.1.k k266 (by decide)
                    have k338 : τ309 lc_258 = 24 := q307s.2.1.k k267 (by decide)
                    have k339 : τ309 lh_259 = 25 := q307s.2.1.k k268 (by decide)
                    have k340 : τ309 ld_260 = 26 := q307s.2.1.k k269 (by decide)
                    refine tw_astore [(5, .ref q299), (0, .ref x), (1, .int (nI j33)), (2, .int (nI j50)), (3, .int v), (4, .int dy)] dX10_owe_104 (by decide) rfl ?_
                    refine tw_aload 0 dX10_owe_106 rfl ?_
                    refine tw_iload_n 2 dX10_owe_108 rfl rfl ?_
                    refine tw_put rfl in_12 tyX8 tyX8_ok nmX8 0 dX10_owe_109 w_1443 rfl (by decide) f310 rfl rfl rfl rfl (Nat.le_of_ble_eq_true rfl) [.int (nI j33), .int 0, .int 0, .int 0, .int 0] rfl ?_
                    obtain ⟨h341, eh341⟩ : ∃ z : tw_H, z = tw_up h308 q299 (.inr (12, [.int (nI j33), .int 0, .int 0, .int 0, .int 0])) := ⟨_, rfl⟩
                    rw [← eh341]
                    have sp342 : tw_sp d τ h g τ309 h341 := by rw [eh341]; exact sp312.wl n302 z311
                    have f343 : h341 q299 = some (.inr (12, [.int (nI j33), .int 0, .int 0, .int 0, .int 0])) := by rw [eh341]; exact tw_up_s
                    refine tw_aload 0 dX10_owe_112 rfl ?_
                    refine tw_iload_n 3 dX10_owe_114 rfl rfl ?_
                    refine tw_put rfl in_12 tyX8 tyX8_ok nmX8 1 dX10_owe_115 w_1444 rfl (by decide) f343 rfl rfl rfl rfl (Nat.le_of_ble_eq_true rfl) [.int (nI j33), .int (nI j50), .int 0, .int 0, .int 0] rfl ?_
                    obtain ⟨h344, eh344⟩ : ∃ z : tw_H, z = tw_up h341 q299 (.inr (12, [.int (nI j33), .int (nI j50), .int 0, .int 0, .int 0])) := ⟨_, rfl⟩
                    rw [← eh344]
                    have sp345 : tw_sp d τ h g τ309 h344 := by rw [eh344]; exact sp342.wl n302 z311
                    have f346 : h344 q299 = some (.inr (12, [.int (nI j33), .int (nI j50), .int 0, .int 0, .int 0])) := by rw [eh344]; exact tw_up_s
                    refine tw_aload 0 dX10_owe_118 rfl ?_
                    refine tw_iload_n 4 dX10_owe_120 rfl rfl ?_
                    refine tw_put rfl in_12 tyX8 tyX8_ok nmX8 2 dX10_owe_121 w_1445 rfl (by decide) f346 rfl rfl rfl rfl (Nat.le_of_ble_eq_true rfl) [.int (nI j33), .int (nI j50), .int v, .int 0, .int 0] rfl ?_
                    obtain ⟨h347, eh347⟩ : ∃ z : tw_H, z = tw_up h344 q299 (.inr (12, [.int (nI j33), .int (nI j50), .int v, .int 0, .int 0])) := ⟨_, rfl⟩
                    rw [← eh347]
                    have sp348 : tw_sp d τ h g τ309 h347 := by rw [eh347]; exact sp345.wl n302 z311
                    have f349 : h347 q299 = some (.inr (12, [.int (nI j33), .int (nI j50), .int v, .int 0, .int 0])) := by rw [eh347]; exact tw_up_s
                    refine tw_aload 0 dX10_owe_124 rfl ?_
                    refine tw_aload_n 1 dX10_owe_126 rfl rfl ?_
                    obtain ⟨e350, f351, th_352, td_353, ds_354, fr_355, ca_356, us_357, wo_358, cm_359, lc_360, lh_361, ld_362, rfl, k363, k364, k365, k366, k367, k368, k369, k370, k371, k372, k373, k374, k375, k376, k377, k378⟩ := sp348.1 x 36 k313 (by decide)
                    refine tw_get (v := .int td_353) rfl in_14 1 dX10_owe_127 w_1152 rfl (by decide) f351 rfl ?_
                    refine tw_iload 5 dX10_owe_130 rfl ?_
                    refine tw_iadd dX10_owe_132 ?_
                    refine tw_nmi (fun v379 ev379 => ?_)
                    refine tw_put rfl in_12 tyX8 tyX8_ok nmX8 3 dX10_owe_133 w_1446 rfl (by decide) f349 rfl rfl rfl rfl (Nat.le_of_ble_eq_true rfl) [.int (nI j33), .int (nI j50), .int v, .int v379, .int 0] rfl ?_
                    obtain ⟨h380, eh380⟩ : ∃ z : tw_H, z = tw_up h347 q299 (.inr (12, [.int (nI j33), .int (nI j50), .int v, .int v379, .int 0])) := ⟨_, rfl⟩
                    rw [← eh380]
                    have sp381 : tw_sp d τ h g τ309 h380 := by rw [eh380]; exact sp348.wl n302 z311
                    have f382 : h380 q299 = some (.inr (12, [.int (nI j33), .int (nI j50), .int v, .int v379, .int 0])) := by rw [eh380]; exact tw_up_s
                    refine tw_aload_n 1 dX10_owe_136 rfl rfl ?_
                    obtain ⟨e383, f384, th_385, td_386, ds_387, fr_388, ca_389, us_390, wo_391, cm_392, lc_393, lh_394, ld_395, rfl, k396, k397, k398, k399, k400, k401, k402, k403, k404, k405, k406, k407, k408, k409, k410, k411⟩ := sp381.1 x 36 k313 (by decide)
                    refine tw_get (v := .ref ld_395) rfl in_14 11 dX10_owe_137 w_1162 rfl (by decide) f384 rfl ?_
                    refine tw_aload 0 dX10_owe_140 rfl ?_
                    obtain ⟨τ412, eτ412⟩ : ∃ z : tw_K, z = tw_ku τ309 q299 22 := ⟨_, rfl⟩
                    have le413 : tw_le τ309 τ412 := by rw [eτ412]; exact tw_ku_le z311
                    have k414 : τ412 x = 36 := le413.k k313 (by decide)
                    have k415 : τ412 ds_5 = 34 := le413.k k314 (by decide)
                    have k416 : τ412 fr_6 = 34 := le413.k k315 (by decide)
                    have k417 : τ412 ca_7 = 31 := le413.k k316 (by decide)
                    have k418 : τ412 us_8 = 31 := le413.k k317 (by decide)
                    have k419 : τ412 wo_9 = 31 := le413.k k318 (by decide)
                    have k420 : τ412 cm_10 = 31 := le413.k k319 (by decide)
                    have k421 : τ412 lc_11 = 24 := le413.k k320 (by decide)
                    have k422 : τ412 lh_12 = 25 := le413.k k321 (by decide)
                    have k423 : τ412 ld_13 = 26 := le413.k k322 (by decide)
                    have k424 : τ412 ds_211 = 34 := le413.k k323 (by decide)
                    have k425 : τ412 fr_212 = 34 := le413.k k324 (by decide)
                    have k426 : τ412 ca_213 = 31 := le413.k k325 (by decide)
                    have k427 : τ412 us_214 = 31 := le413.k k326 (by decide)
                    have k428 : τ412 wo_215 = 31 := le413.k k327 (by decide)
                    have k429 : τ412 cm_216 = 31 := le413.k k328 (by decide)
                    have k430 : τ412 lc_217 = 24 := le413.k k329 (by decide)
                    have k431 : τ412 lh_218 = 25 := le413.k k330 (by decide)
                    have k432 : τ412 ld_219 = 26 := le413.k k331 (by decide)
                    have k433 : τ412 ds_252 = 34 := le413.k k332 (by decide)
                    have k434 : τ412 fr_253 = 34 := le413.k k333 (by decide)
                    have k435 : τ412 ca_254 = 31 := le413.k k334 (by decide)
                    have k436 : τ412 us_255 = 31 := le413.k k335 (by decide)
                    have k437 : τ412 wo_256 = 31 := le413.k k336 (by decide)
                    have k438 : τ412 cm_257 = 31 := le413.k k337 (by decide)
                    have k439 : τ412 lc_258 = 24 := le413.k k338 (by decide)
                    have k440 : τ412 lh_259 = 25 := le413.k k339 (by decide)
                    have k441 : τ412 ld_260 = 26 := le413.k k340 (by decide)
                    have k442 : τ412 ds_354 = 34 := le413.k k363 (by decide)
                    have k443 : τ412 fr_355 = 34 := le413.k k364 (by decide)
                    have k444 : τ412 ca_356 = 31 := le413.k k365 (by decide)
                    have k445 : τ412 us_357 = 31 := le413.k k366 (by decide)
                    have k446 : τ412 wo_358 = 31 := le413.k k367 (by decide)
                    have k447 : τ412 cm_359 = 31 := le413.k k368 (by decide)
                    have k448 : τ412 lc_360 = 24 := le413.k k369 (by decide)
                    have k449 : τ412 lh_361 = 25 := le413.k k370 (by decide)
                    have k450 : τ412 ld_362 = 26 := le413.k k371 (by decide)
                    have k451 : τ412 ds_387 = 34 := le413.k k396 (by decide)
                    have k452 : τ412 fr_388 = 34 := le413.k k397 (by decide)
                    have k453 : τ412 ca_389 = 31 := le413.k k398 (by decide)
                    have k454 : τ412 us_390 = 31 := le413.k k399 (by decide)
                    have k455 : τ412 wo_391 = 31 := le413.k k400 (by decide)
                    have k456 : τ412 cm_392 = 31 := le413.k k401 (by decide)
                    have k457 : τ412 lc_393 = 24 := le413.k k402 (by decide)
                    have k458 : τ412 lh_394 = 25 := le413.k k403 (by decide)
                    have k459 : τ412 ld_395 = 26 := le413.k k404 (by decide)
                    have sp460 : tw_sp d τ h g τ412 h380 := by rw [eτ412]; exact sp381.ty n302 z311 f382 (by rw [← eτ412]; exact ⟨v, v379, 0, j33, j50, rfl, (by omega), (by omega), (by unfold tw_01; decide)⟩)
                    have k461 : τ412 q299 = 22 := by rw [eτ412]; exact tw_ku_s
                    obtain ⟨e462, f463, ⟨el464, rfl, k465⟩, k466⟩ := sp460.1 ld_395 26 k459 (by decide)
                    have hb9 : g.2 5 + 1 ≤ 10 := (tw_n4 c285 k407 (by decide))
                    rcases k465 with k465p | k465p
                    · obtain ⟨pa, pn, pf⟩ := k465p
                      subst pa
                      have f9 : h380 ld_395 = some (.inr (3, [.int (g.1 5), .ref (d.2 102), .int (nI 0)])) := by have z := f463; rw [pn] at z; exact z
                      refine tw_bi (tw_callV (M := mX10_owe) (pc := 142) okJx4a65c_add_9ea2d dX10_owe_142 w_1238 rfl f463 [.ref q299] [] rfl rfl ⟨by decide, by decide⟩ (Nat.le_of_ble_eq_true rfl) (c_add_new d h380 ld_395 (g.1 5) f9 q299 12 _ _ rfl (ng_12) f382 (by decide)) 8 45 (Nat.le_of_ble_eq_true rfl) (Nat.le_of_ble_eq_true rfl)) (fun r9 h467 q9 => ?_) (fun E h1 q => q.elim)
                      obtain ⟨r8, hr8, q1, q2, q3⟩ := q9
                      obtain ⟨g9, τ9, ⟨hga, hg1⟩, sp9⟩ := tw_gadd26 (F := fun _ => none) sp460.1 k459 k461 hb9 (fun j hj => by rw [pn] at hj; exact absurd hj (Nat.not_lt_zero _)) (Or.inr ⟨hr8, pf⟩) (by rw [pn]; exact q1) (by rw [pn]; exact q2) q3
                      have sp468 := sp460.tr sp9
                      have k469 : τ9 x = 36 := sp9.2.1.k k414 (by decide)
                      have k470 : τ9 ds_5 = 34 := sp9.2.1.k k415 (by decide)
                      have k471 : τ9 fr_6 = 34 := sp9.2.1.k k416 (by decide)
                      have k472 : τ9 ca_7 = 31 := sp9.2.1.k k417 (by decide)
                      have k473 : τ9 us_8 = 31 := sp9.2.1.k k418 (by decide)
                      have k474 : τ9 wo_9 = 31 := sp9.2.1.k k419 (by decide)
                      have k475 : τ9 cm_10 = 31 := sp9.2.1.k k420 (by decide)
                      have k476 : τ9 lc_11 = 24 := sp9.2.1.k k421 (by decide)
                      have k477 : τ9 lh_12 = 25 := sp9.2.1.k k422 (by decide)
                      have k478 : τ9 ld_13 = 26 := sp9.2.1.k k423 (by decide)
                      have k479 : τ9 ds_211 = 34 := sp9.2.1.k k424 (by decide)
                      have k480 : τ9 fr_212 = 34 := sp9.2.1.k k425 (by decide)
                      have k481 : τ9 ca_213 = 31 := sp9.2.1.k k426 (by decide)
                      have k482 : τ9 us_214 = 31 := sp9.2.1.k k427 (by decide)
                      have k483 : τ9 wo_215 = 31 := sp9.2.1.k k428 (by decide)
                      have k484 : τ9 cm_216 = 31 := sp9.2.1.k k429 (by decide)
                      have k485 : τ9 lc_217 = 24 := sp9.2.1.k k430 (by decide)
                      have k486 : τ9 lh_218 = 25 := sp9.2.1.k k431 (by decide)
                      have k487 : τ9 ld_219 = 26 := sp9.2.1.k k432 (by decide)
                      have k488 : τ9 ds_252 = 34 := sp9.2.1.k k433 (by decide)
                      have k489 : τ9 fr_253 = 34 := sp9.2.1.k k434 (by decide)
                      have k490 : τ9 ca_254 = 31 := sp9.2.1.k k435 (by decide)
                      have k491 : τ9 us_255 = 31 := sp9.2.1.k k436 (by decide)
                      have k492 : τ9 wo_256 = 31 := sp9.2.1.k k437 (by decide)
                      have k493 : τ9 cm_257 = 31 := sp9.2.1.k k438 (by decide)
                      have k494 : τ9 lc_258 = 24 := sp9.2.1.k k439 (by decide)
                      have k495 : τ9 lh_259 = 25 := sp9.2.1.k k440 (by decide)
                      have k496 : τ9 ld_260 = 26 := sp9.2.1.k k441 (by decide)
                      have k497 : τ9 ds_354 = 34 := sp9.2.1.k k442 (by decide)
                      have k498 : τ9 fr_355 = 34 := sp9.2.1.k k443 (by decide)
                      have k499 : τ9 ca_356 = 31 := sp9.2.1.k k444 (by decide)
                      have k500 : τ9 us_357 = 31 := sp9.2.1.k k445 (by decide)
                      have k501 : τ9 wo_358 = 31 := sp9.2.1.k k446 (by decide)
                      have k502 : τ9 cm_359 = 31 := sp9.2.1.k k447 (by decide)
                      have k503 : τ9 lc_360 = 24 := sp9.2.1.k k448 (by decide)
                      have k504 : τ9 lh_361 = 25 := sp9.2.1.k k449 (by decide)
                      have k505 : τ9 ld_362 = 26 := sp9.2.1.k k450 (by decide)
                      have k506 : τ9 ds_387 = 34 := sp9.2.1.k k451 (by decide)
                      have k507 : τ9 fr_388 = 34 := sp9.2.1.k k452 (by decide)
                      have k508 : τ9 ca_389 = 31 := sp9.2.1.k k453 (by decide)
                      have k509 : τ9 us_390 = 31 := sp9.2.1.k k454 (by decide)
                      have k510 : τ9 wo_391 = 31 := sp9.2.1.k k455 (by decide)
                      have k511 : τ9 cm_392 = 31 := sp9.2.1.k k456 (by decide)
                      have k512 : τ9 lc_393 = 24 := sp9.2.1.k k457 (by decide)
                      have k513 : τ9 lh_394 = 25 := sp9.2.1.k k458 (by decide)
                      have k514 : τ9 ld_395 = 26 := sp9.2.1.k k459 (by decide)
                      have k515 : τ9 q299 = 22 := sp9.2.1.k k461 (by decide)
                      refine tw_pop dX10_owe_145 rfl ?_
                      refine tw_aload_n 1 dX10_owe_146 rfl rfl ?_
                      obtain ⟨e516, f517, th_518, td_519, ds_520, fr_521, ca_522, us_523, wo_524, cm_525, lc_526, lh_527, ld_528, rfl, k529, k530, k531, k532, k533, k534, k535, k536, k537, k538, k539, k540, k541, k542, k543, k544⟩ := sp468.1 x 36 k469 (by decide)
                      refine tw_get (v := .ref ld_528) rfl in_14 11 dX10_owe_147 w_1162 rfl (by decide) f517 rfl ?_
                      obtain ⟨e545, f546, ⟨el547, rfl, k548⟩, k549⟩ := sp468.1 ld_528 26 k537 (by decide)
                      refine tw_bi (tw_callV (M := mX10_owe) (pc := 150) okJx4a65c_size_8abf5 dX10_owe_150 w_1208 rfl f546 [] [] rfl rfl ⟨by decide, by decide⟩ (Nat.le_of_ble_eq_true rfl) (c26_size d g9 τ9 h467 sp468.1 ld_528 k537) 8 45 (Nat.le_of_ble_eq_true rfl) (Nat.le_of_ble_eq_true rfl)) (fun r552 h551 q550 => ?_) (fun E h1 q => q.elim)
                      obtain ⟨q550e, q550r⟩ := q550
                      rw [q550e, q550r]
                      refine tw_iconst (v := 1) dX10_owe_153 (by decide) ?_
                      refine tw_isub dX10_owe_154 ?_
                      refine tw_nmi (fun v553 ev553 => ?_)
                      exact tw_iret dX10_owe_155 rfl (Or.inl ⟨_, rfl, ⟨_, _, hga, sp468⟩⟩)
                    · obtain ⟨e9, fa9, ⟨F9, rfl, hc9, h49⟩, un9⟩ := sp460.1 el464 29 k465p (by decide)
                      refine tw_bi (tw_callV (M := mX10_owe) (pc := 142) okJx4a65c_add_9ea2d dX10_owe_142 w_1238 rfl f463 [.ref q299] [] rfl rfl ⟨by decide, by decide⟩ (Nat.le_of_ble_eq_true rfl) (c_add_old d h380 ld_395 el464 (g.2 5) F9 (g.1 5) (by omega) f463 fa9 q299 12 _ _ rfl (ng_12) f382 (by decide)) 8 45 (Nat.le_of_ble_eq_true rfl) (Nat.le_of_ble_eq_true rfl)) (fun r9 h554 q9 => ?_) (fun E h1 q => q.elim)
                      obtain ⟨q1, q2, q3⟩ := q9
                      obtain ⟨g9, τ9, ⟨hga, hg1⟩, sp9⟩ := tw_gadd26 sp460.1 k459 k461 hb9 h49 (Or.inl k465p) q1 q2 q3
                      have sp555 := sp460.tr sp9
                      have k556 : τ9 x = 36 := sp9.2.1.k k414 (by decide)
                      have k557 : τ9 ds_5 = 34 := sp9.2.1.k k415 (by decide)
                      have k558 : τ9 fr_6 = 34 := sp9.2.1.k k416 (by decide)
                      have k559 : τ9 ca_7 = 31 := sp9.2.1.k k417 (by decide)
                      have k560 : τ9 us_8 = 31 := sp9.2.1.k k418 (by decide)
                      have k561 : τ9 wo_9 = 31 := sp9.2.1.k k419 (by decide)
                      have k562 : τ9 cm_10 = 31 := sp9.2.1.k k420 (by decide)
                      have k563 : τ9 lc_11 = 24 := sp9.2.1.k k421 (by decide)
                      have k564 : τ9 lh_12 = 25 := sp9.2.1.k k422 (by decide)
                      have k565 : τ9 ld_13 = 26 := sp9.2.1.k k423 (by decide)
                      have k566 : τ9 ds_211 = 34 := sp9.2.1.k k424 (by decide)
                      have k567 : τ9 fr_212 = 34 := sp9.2.1.k k425 (by decide)
                      have k568 : τ9 ca_213 = 31 := sp9.2.1.k k426 (by decide)
                      have k569 : τ9 us_214 = 31 := sp9.2.1.k k427 (by decide)
                      have k570 : τ9 wo_215 = 31 := sp9.2.1.k k428 (by decide)
                      have k571 : τ9 cm_216 = 31 := sp9.2.1.k k429 (by decide)
                      have k572 : τ9 lc_217 = 24 := sp9.2.1.k k430 (by decide)
                      have k573 : τ9 lh_218 = 25 := sp9.2.1.k k431 (by decide)
                      have k574 : τ9 ld_219 = 26 := sp9.2.1.k k432 (by decide)
                      have k575 : τ9 ds_252 = 34 := sp9.2.1.k k433 (by decide)
                      have k576 : τ9 fr_253 = 34 := sp9.2.1.k k434 (by decide)
                      have k577 : τ9 ca_254 = 31 := sp9.2.1.k k435 (by decide)
                      have k578 : τ9 us_255 = 31 := sp9.2.1.k k436 (by decide)
                      have k579 : τ9 wo_256 = 31 := sp9.2.1.k k437 (by decide)
                      have k580 : τ9 cm_257 = 31 := sp9.2.1.k k438 (by decide)
                      have k581 : τ9 lc_258 = 24 := sp9.2.1.k k439 (by decide)
                      have k582 : τ9 lh_259 = 25 := sp9.2.1.k k440 (by decide)
                      have k583 : τ9 ld_260 = 26 := sp9.2.1.k k441 (by decide)
                      have k584 : τ9 ds_354 = 34 := sp9.2.1.k k442 (by decide)
                      have k585 : τ9 fr_355 = 34 := sp9.2.1.k k443 (by decide)
                      have k586 : τ9 ca_356 = 31 := sp9.2.1.k k444 (by decide)
                      have k587 : τ9 us_357 = 31 := sp9.2.1.k k445 (by decide)
                      have k588 : τ9 wo_358 = 31 := sp9.2.1.k k446 (by decide)
                      have k589 : τ9 cm_359 = 31 := sp9.2.1.k k447 (by decide)
                      have k590 : τ9 lc_360 = 24 := sp9.2.1.k k448 (by decide)
                      have k591 : τ9 lh_361 = 25 := sp9.2.1.k k449 (by decide)
                      have k592 : τ9 ld_362 = 26 := sp9.2.1.k k450 (by decide)
                      have k593 : τ9 ds_387 = 34 := sp9.2.1.k k451 (by decide)
                      have k594 : τ9 fr_388 = 34 := sp9.2.1.k k452 (by decide)
                      have k595 : τ9 ca_389 = 31 := sp9.2.1.k k453 (by decide)
                      have k596 : τ9 us_390 = 31 := sp9.2.1.k k454 (by decide)
                      have k597 : τ9 wo_391 = 31 := sp9.2.1.k k455 (by decide)
                      have k598 : τ9 cm_392 = 31 := sp9.2.1.k k456 (by decide)
                      have k599 : τ9 lc_393 = 24 := sp9.2.1.k k457 (by decide)
                      have k600 : τ9 lh_394 = 25 := sp9.2.1.k k458 (by decide)
                      have k601 : τ9 ld_395 = 26 := sp9.2.1.k k459 (by decide)
                      have k602 : τ9 q299 = 22 := sp9.2.1.k k461 (by decide)
                      refine tw_pop dX10_owe_145 rfl ?_
                      refine tw_aload_n 1 dX10_owe_146 rfl rfl ?_
                      obtain ⟨e603, f604, th_605, td_606, ds_607, fr_608, ca_609, us_610, wo_611, cm_612, lc_613, lh_614, ld_615, rfl, k616, k617, k618, k619, k620, k621, k622, k623, k624, k625, k626, k627, k628, k629, k630, k631⟩ := sp555.1 x 36 k556 (by decide)
                      refine tw_get (v := .ref ld_615) rfl in_14 11 dX10_owe_147 w_1162 rfl (by decide) f604 rfl ?_
                      obtain ⟨e632, f633, ⟨el634, rfl, k635⟩, k636⟩ := sp555.1 ld_615 26 k624 (by decide)
                      refine tw_bi (tw_callV (M := mX10_owe) (pc := 150) okJx4a65c_size_8abf5 dX10_owe_150 w_1208 rfl f633 [] [] rfl rfl ⟨by decide, by decide⟩ (Nat.le_of_ble_eq_true rfl) (c26_size d g9 τ9 h554 sp555.1 ld_615 k624) 8 45 (Nat.le_of_ble_eq_true rfl) (Nat.le_of_ble_eq_true rfl)) (fun r639 h638 q637 => ?_) (fun E h1 q => q.elim)
                      obtain ⟨q637e, q637r⟩ := q637
                      rw [q637e, q637r]
                      refine tw_iconst (v := 1) dX10_owe_153 (by decide) ?_
                      refine tw_isub dX10_owe_154 ?_
                      refine tw_nmi (fun v640 ev640 => ?_)
                      exact tw_iret dX10_owe_155 rfl (Or.inl ⟨_, rfl, ⟨_, _, hga, sp555⟩⟩)
                · refine tw_iconst (v := 1) dX10_owe_83 (by decide) ?_
                  refine tw_goto 88 dX10_owe_84 (by decide) ?_
                  refine tw_iconst (v := 3) dX10_owe_88 (by decide) ?_
                  refine tw_bi (tw_callV (M := mX10_owe) (pc := 89) okX10_refuse dX10_owe_89 w_1204 rfl f249 [.int 1, .int 3] [] rfl rfl ⟨by decide, by decide⟩ (Nat.le_of_ble_eq_true rfl) (c_X10_refuse d g τ h237 sp244.1 x kx 1 3 (by decide)) 10 60 (Nat.le_of_ble_eq_true rfl) (Nat.le_of_ble_eq_true rfl)) (fun r643 h642 q641 => ?_) (fun E h1 q => q.elim)
                  obtain ⟨e644, he645, hs646, hr647, h3648⟩ := q641
                  have sp649 : tw_sp d τ h g τ h642 := by rw [he645]; exact sp244.set kx (by decide) hs646
                  have f650 : h642 ld_260 = some (.inr (3, [.int (g.1 5), .ref el279, .int (nI (g.2 5))])) := by rw [he645, tw_up_n (fun q => absurd (k269) (by rw [q, kx]; decide))]; exact f278
                  rcases hr647 with ei651 | ⟨ei651, ei651b⟩
                  · rw [ei651]
                    refine tw_if_eq 97 dX10_owe_92 (by decide) (fun c652 => absurd c652 (by decide)) (fun _ => ?_)
                    refine tw_iconst (v := 0) dX10_owe_95 (by decide) ?_
                    exact tw_iret dX10_owe_96 rfl (Or.inl ⟨_, rfl, ⟨_, _, ⟨rfl, rfl⟩, sp649⟩⟩)
                  · exact absurd ei651b (by decide)

set_option maxHeartbeats 4000000 in
set_option maxRecDepth 100000 in
theorem c_X10_market (d : tw_D) (g : tw_G) (τ : tw_K) (h : tw_H) (hw : tw_wt d g τ h) (x : Nat) (kx : τ x = 36) (m : Int32) : tw_Ct d mX10_market 0 0 [.ref x, .int m] h (tw_qi (fun r h1 => (∀ b, b ≠ x → h1 b = h b) ∧ (¬ (100 ≤ m ∧ m ≤ 200) ∧ tw_th (h1 x) = 1 ∧ tw_sp d τ h g τ h1 ∨ (100 ≤ m ∧ m ≤ 200) ∧ r = g.1 1 ∧ tw_th (h1 x) = 0 ∧ tw_sp d τ h (tw_g1 g 1 m) τ h1)) tw_nx) := by
  refine tw_of (by decide +kernel) (Nat.le_of_ble_eq_true rfl) ?_
  show tw_W d mX10_market _ 0 [(0, .ref x), (1, .int m)] [] h 0 0
  have sp0 := tw_sp.rf hw
  refine tw_aload_n 0 dX10_market_0 rfl rfl ?_
  refine tw_iload_n 1 dX10_market_1 rfl rfl ?_
  refine tw_bipush (v := 100) dX10_market_2 (by decide) ?_
  refine tw_sipush (v := 200) dX10_market_4 (by decide) ?_
  refine tw_bi (tw_callS (M := mX10_market) (pc := 7) okX10_isIn dX10_market_7 w_1196 [.int m, .int 100, .int 200] [.ref x] rfl rfl ⟨by decide, by decide⟩ (Nat.le_of_ble_eq_true rfl) (c_X10_isIn d g τ h sp0.1 m 100 200) 0 0 (Nat.le_of_ble_eq_true rfl) (Nat.le_of_ble_eq_true rfl)) (fun r3 h2 q1 => ?_) (fun E h1 q => q.elim)
  obtain ⟨q1e, q1d⟩ := q1
  rw [q1e]
  rcases q1d with ⟨q1r, q1n⟩ | ⟨q1r, q1a, q1b⟩
  · rw [q1r]
    refine tw_if_ne 17 dX10_market_10 (by decide) (fun c4 => absurd (by decide) c4) (fun _ => ?_)
    refine tw_iconst (v := 1) dX10_market_13 (by decide) ?_
    refine tw_goto 18 dX10_market_14 (by decide) ?_
    refine tw_iconst (v := 1) dX10_market_18 (by decide) ?_
    obtain ⟨e5, f6, th_7, td_8, ds_9, fr_10, ca_11, us_12, wo_13, cm_14, lc_15, lh_16, ld_17, rfl, k18, k19, k20, k21, k22, k23, k24, k25, k26, k27, k28, k29, k30, k31, k32, k33⟩ := sp0.1 x 36 kx (by decide)
    refine tw_bi (tw_callV (M := mX10_market) (pc := 19) okX10_start dX10_market_19 w_1200 rfl f6 [.int 1, .int 1] [] rfl rfl ⟨by decide, by decide⟩ (Nat.le_of_ble_eq_true rfl) (c_X10_start d g τ h sp0.1 x kx 1 1 (by decide)) 0 0 (Nat.le_of_ble_eq_true rfl) (Nat.le_of_ble_eq_true rfl)) (fun r h1 q => ?_) (fun E h1 q => q.elim)
    obtain ⟨e, he, hs, hr, h3a, h3b⟩ := q
    have sp1 : tw_sp d τ h g τ h1 := by rw [he]; exact sp0.set kx (by decide) hs
    obtain ⟨r1, t1⟩ := h3b rfl
    rw [r1]
    refine tw_if_eq 27 dX10_market_22 (by decide) (fun c34 => absurd c34 (by decide)) (fun _ => ?_)
    refine tw_iconst (v := 0) dX10_market_25 (by decide) ?_
    exact tw_iret dX10_market_26 rfl (Or.inl ⟨_, rfl, fun b hb => by rw [he, tw_up_n hb], Or.inl ⟨q1n, by rw [he, tw_up_s]; exact t1, sp1⟩⟩)
  · rw [q1r]
    refine tw_if_ne 17 dX10_market_10 (by decide) (fun _ => ?_) (fun c35 => absurd c35 (by decide))
    refine tw_iconst (v := 0) dX10_market_17 (by decide) ?_
    refine tw_iconst (v := 1) dX10_market_18 (by decide) ?_
    obtain ⟨e36, f37, th_38, td_39, ds_40, fr_41, ca_42, us_43, wo_44, cm_45, lc_46, lh_47, ld_48, rfl, k49, k50, k51, k52, k53, k54, k55, k56, k57, k58, k59, k60, k61, k62, k63, k64⟩ := sp0.1 x 36 kx (by decide)
    refine tw_bi (tw_callV (M := mX10_market) (pc := 19) okX10_start dX10_market_19 w_1200 rfl f37 [.int 0, .int 1] [] rfl rfl ⟨by decide, by decide⟩ (Nat.le_of_ble_eq_true rfl) (c_X10_start d g τ h sp0.1 x kx 0 1 (by decide)) 0 0 (Nat.le_of_ble_eq_true rfl) (Nat.le_of_ble_eq_true rfl)) (fun r h1 q => ?_) (fun E h1 q => q.elim)
    obtain ⟨e, he, hs, hr, h3a, h3b⟩ := q
    have sp1 : tw_sp d τ h g τ h1 := by rw [he]; exact sp0.set kx (by decide) hs
    obtain ⟨r1, t1⟩ := h3a rfl
    rw [r1]
    refine tw_if_eq 27 dX10_market_22 (by decide) (fun _ => ?_) (fun c65 => absurd (by decide) c65)
    refine tw_aload_n 0 dX10_market_27 rfl rfl ?_
    obtain ⟨e66, f67, th_68, td_69, ds_70, fr_71, ca_72, us_73, wo_74, cm_75, lc_76, lh_77, ld_78, rfl, k79, k80, k81, k82, k83, k84, k85, k86, k87, k88, k89, k90, k91, k92, k93, k94⟩ := sp1.1 x 36 kx (by decide)
    refine tw_get (v := .int (g.1 1)) rfl in_14 2 dX10_market_28 w_1153 rfl (by decide) f67 rfl ?_
    refine tw_istore_n [(2, .int (g.1 1)), (0, .ref x), (1, .int m)] dX10_market_31 rfl (by decide) rfl ?_
    refine tw_aload_n 1 dX10_market_32 rfl rfl ?_
    refine tw_iload_n 2 dX10_market_33 rfl rfl ?_
    have z0 : tw_th (h1 x) = 0 := by rw [he, tw_up_s]; exact t1
    rw [f67] at z0
    have q0 : th_68 = 0 := z0
    refine tw_put rfl in_14 tyX10 tyX10_ok nmX10 2 dX10_market_34 w_1153 rfl (by decide) f67 rfl rfl rfl rfl (Nat.le_of_ble_eq_true rfl) [.int th_68, .int td_69, .int m, .ref ds_70, .ref fr_71, .ref ca_72, .ref us_73, .ref wo_74, .ref cm_75, .ref lc_76, .ref lh_77, .ref ld_78] rfl ?_
    obtain ⟨h95, eh95⟩ : ∃ z : tw_H, z = tw_up h1 x (.inr (14, [.int th_68, .int td_69, .int m, .ref ds_70, .ref fr_71, .ref ca_72, .ref us_73, .ref wo_74, .ref cm_75, .ref lc_76, .ref lh_77, .ref ld_78])) := ⟨_, rfl⟩
    rw [← eh95]
    have f96 : h95 x = some (.inr (14, [.int th_68, .int td_69, .int m, .ref ds_70, .ref fr_71, .ref ca_72, .ref us_73, .ref wo_74, .ref cm_75, .ref lc_76, .ref lh_77, .ref ld_78])) := by rw [eh95]; exact tw_up_s
    have sp2 : tw_sp d τ h (tw_g1 g 1 m) τ h95 := by rw [eh95]; exact sp1.m36 kx ⟨th_68, td_69, ds_70, fr_71, ca_72, us_73, wo_74, cm_75, lc_76, lh_77, ld_78, rfl, k79, k80, k81, k82, k83, k84, k85, k86, k87, k88, k89, k90, k91, k92, k93, k94⟩
    refine tw_iload_n 0 dX10_market_37 rfl rfl ?_
    exact tw_iret dX10_market_38 rfl (Or.inl ⟨_, rfl, fun b hb => by rw [eh95, tw_up_n hb, he, tw_up_n hb], Or.inr ⟨⟨q1a, q1b⟩, rfl, by rw [f96]; exact q0, sp2⟩⟩)

/-! the class's methods over the typed heap. Laid by wip/p5/mkclass.py. -/
set_option maxHeartbeats 4000000 in
set_option maxRecDepth 100000 in
theorem c_X7_init (d : tw_D) (g : tw_G) (τ : tw_K) (h : tw_H) (hw : tw_wt d g τ h) (x : Nat) (hz : τ x = 0) (hx : h x = some (.inr (11, [.int 0, .int 0, .null, .null, .null]))) : tw_Ct d mX7_init 3 9 [.ref x] h (tw_qv (fun h1 => ∃ (τ1 : tw_K) (v o t : Nat), tw_sp d τ (tw_rm h x) g τ1 h1 ∧ h1 x = some (.inr (11, [.int 0, .int 0, .ref v, .ref o, .ref t])) ∧ τ1 x = 0 ∧ τ1 v = 31 ∧ τ1 o = 32 ∧ τ1 t = 33) tw_nx) := by
  refine tw_of (by decide +kernel) (Nat.le_of_ble_eq_true rfl) ?_
  show tw_W d mX7_init _ 0 [(0, .ref x)] [] h 3 9
  have sp0 := tw_sp.rm hw x
  refine tw_aload_n 0 dX7_init_0 rfl rfl ?_
  refine tw_objInit dX7_init_1 w_1217 w_117 w_118 ⟨by decide, Nat.le_of_ble_eq_true rfl⟩ ?_
  refine tw_aload_n 0 dX7_init_4 rfl rfl ?_
  refine tw_iconst (v := 2) dX7_init_5 (by decide) ?_
  refine tw_newa (a0 := (2, .inr (.inl (fun _ => 0)))) 1 rfl dX7_init_6 rfl w_1150 (fun _ => rfl) (by decide) (by decide) (by decide) 2 7 (Nat.le_of_ble_eq_true rfl) (Nat.le_of_ble_eq_true rfl) (fun q1 hq2 hA3 => ?_)
  have n4 := sp0.nn hq2
  have z5 := sp0.1.none hq2
  have ne6 := tw_neF hx hq2
  obtain ⟨h7, eh7⟩ : ∃ z : tw_H, z = tw_up h q1 (.inl (d.2 1, 2, .inr (.inl (fun _ => 0)))) := ⟨_, rfl⟩
  rw [← eh7]
  have sp8 : tw_sp d τ (tw_rm h x) g τ h7 := by rw [eh7]; exact sp0.mk hq2
  have f9 : h7 x = some (.inr (11, [.int 0, .int 0, .null, .null, .null])) := by rw [eh7, tw_up_n ne6]; exact hx
  have f10 : h7 q1 = some (.inl (d.2 1, 2, .inr (.inl (fun _ => 0)))) := by rw [eh7]; exact tw_up_s
  obtain ⟨τ11, eτ11⟩ : ∃ z : tw_K, z = tw_ku τ q1 31 := ⟨_, rfl⟩
  have le12 : tw_le τ τ11 := by rw [eτ11]; exact tw_ku_le z5
  have sp13 : tw_sp d τ (tw_rm h x) g τ11 h7 := by rw [eτ11]; exact sp8.ty n4 z5 f10 (by rw [← eτ11]; exact ⟨_, rfl⟩)
  have k14 : τ11 q1 = 31 := by rw [eτ11]; exact tw_ku_s
  have z15 : τ11 x = 0 := by rw [eτ11, tw_ku_n ne6]; exact hz
  refine tw_put rfl in_11 tyX7 tyX7_ok nmX7 2 dX7_init_8 w_1220 rfl (by decide) f9 rfl rfl rfl rfl (Nat.le_of_ble_eq_true rfl) [.int 0, .int 0, .ref q1, .null, .null] rfl ?_
  obtain ⟨h16, eh16⟩ : ∃ z : tw_H, z = tw_up h7 x (.inr (11, [.int 0, .int 0, .ref q1, .null, .null])) := ⟨_, rfl⟩
  rw [← eh16]
  have sp17 : tw_sp d τ (tw_rm h x) g τ11 h16 := by rw [eh16]; exact sp13.wl tw_rm_s z15
  have f18 : h16 x = some (.inr (11, [.int 0, .int 0, .ref q1, .null, .null])) := by rw [eh16]; exact tw_up_s
  refine tw_aload_n 0 dX7_init_11 rfl rfl ?_
  refine tw_iconst (v := 2) dX7_init_12 (by decide) ?_
  refine tw_newa (a0 := (2, .inl (fun _ => 0))) 2 rfl dX7_init_13 rfl w_1237 (fun _ => rfl) (by decide) (by decide) (by decide) 1 5 (Nat.le_of_ble_eq_true rfl) (Nat.le_of_ble_eq_true rfl) (fun q19 hq20 hA21 => ?_)
  have n22 := sp17.nn hq20
  have z23 := sp17.1.none hq20
  have ne24 := tw_neF f18 hq20
  obtain ⟨h25, eh25⟩ : ∃ z : tw_H, z = tw_up h16 q19 (.inl (d.2 2, 2, .inl (fun _ => 0))) := ⟨_, rfl⟩
  rw [← eh25]
  have sp26 : tw_sp d τ (tw_rm h x) g τ11 h25 := by rw [eh25]; exact sp17.mk hq20
  have f27 : h25 x = some (.inr (11, [.int 0, .int 0, .ref q1, .null, .null])) := by rw [eh25, tw_up_n ne24]; exact f18
  have f28 : h25 q19 = some (.inl (d.2 2, 2, .inl (fun _ => 0))) := by rw [eh25]; exact tw_up_s
  obtain ⟨τ29, eτ29⟩ : ∃ z : tw_K, z = tw_ku τ11 q19 32 := ⟨_, rfl⟩
  have le30 : tw_le τ11 τ29 := by rw [eτ29]; exact tw_ku_le z23
  have k31 : τ29 q1 = 31 := le30.k k14 (by decide)
  have sp32 : tw_sp d τ (tw_rm h x) g τ29 h25 := by rw [eτ29]; exact sp26.ty n22 z23 f28 (by rw [← eτ29]; exact ⟨_, rfl, fun _ => Or.inl rfl⟩)
  have k33 : τ29 q19 = 32 := by rw [eτ29]; exact tw_ku_s
  have z34 : τ29 x = 0 := by rw [eτ29, tw_ku_n ne24]; exact z15
  refine tw_dup dX7_init_15 rfl ?_
  refine tw_iconst (v := 0) dX7_init_16 (by decide) ?_
  refine tw_iconst (v := 1) dX7_init_17 (by decide) ?_
  obtain ⟨e35, f36, F37, rfl, k38⟩ := sp32.1 q19 32 k33 (by decide)
  refine tw_zast dX7_init_18 f36 (vp_in_nI (n := 0) (by decide) (by decide)) ?_
  obtain ⟨h39, eh39⟩ : ∃ z : tw_H, z = tw_up h25 q19 (.inl (d.2 2, 2, .inl (upd F37 (0 : Int32).toNatClampNeg (vp_nar .boolean 1)))) := ⟨_, rfl⟩
  rw [← eh39]
  have sp40 : tw_sp d τ (tw_rm h x) g τ29 h39 := by rw [eh39]; exact sp32.set k33 (by decide) ⟨_, rfl, tw_01up k38 (tw_vp01 (by unfold tw_01; decide))⟩
  have f41 : h39 x = some (.inr (11, [.int 0, .int 0, .ref q1, .null, .null])) := by rw [eh39, tw_up_n ne24]; exact f27
  refine tw_dup dX7_init_19 rfl ?_
  refine tw_iconst (v := 1) dX7_init_20 (by decide) ?_
  refine tw_iconst (v := 1) dX7_init_21 (by decide) ?_
  obtain ⟨e42, f43, F44, rfl, k45⟩ := sp40.1 q19 32 k33 (by decide)
  refine tw_zast dX7_init_22 f43 (vp_in_nI (n := 1) (by decide) (by decide)) ?_
  obtain ⟨h46, eh46⟩ : ∃ z : tw_H, z = tw_up h39 q19 (.inl (d.2 2, 2, .inl (upd F44 (1 : Int32).toNatClampNeg (vp_nar .boolean 1)))) := ⟨_, rfl⟩
  rw [← eh46]
  have sp47 : tw_sp d τ (tw_rm h x) g τ29 h46 := by rw [eh46]; exact sp40.set k33 (by decide) ⟨_, rfl, tw_01up k45 (tw_vp01 (by unfold tw_01; decide))⟩
  have f48 : h46 x = some (.inr (11, [.int 0, .int 0, .ref q1, .null, .null])) := by rw [eh46, tw_up_n ne24]; exact f41
  refine tw_put rfl in_11 tyX7 tyX7_ok nmX7 3 dX7_init_23 w_1222 rfl (by decide) f48 rfl rfl rfl rfl (Nat.le_of_ble_eq_true rfl) [.int 0, .int 0, .ref q1, .ref q19, .null] rfl ?_
  obtain ⟨h49, eh49⟩ : ∃ z : tw_H, z = tw_up h46 x (.inr (11, [.int 0, .int 0, .ref q1, .ref q19, .null])) := ⟨_, rfl⟩
  rw [← eh49]
  have sp50 : tw_sp d τ (tw_rm h x) g τ29 h49 := by rw [eh49]; exact sp47.wl tw_rm_s z34
  have f51 : h49 x = some (.inr (11, [.int 0, .int 0, .ref q1, .ref q19, .null])) := by rw [eh49]; exact tw_up_s
  refine tw_aload_n 0 dX7_init_26 rfl rfl ?_
  refine tw_iconst (v := 5) dX7_init_27 (by decide) ?_
  refine tw_newa (a0 := (5, .inl (fun _ => 0))) 0 rfl dX7_init_28 rfl w_500 (fun _ => rfl) (by decide) (by decide) (by decide) 0 0 (Nat.le_of_ble_eq_true rfl) (Nat.le_of_ble_eq_true rfl) (fun q52 hq53 hA54 => ?_)
  have n55 := sp50.nn hq53
  have z56 := sp50.1.none hq53
  have ne57 := tw_neF f51 hq53
  obtain ⟨h58, eh58⟩ : ∃ z : tw_H, z = tw_up h49 q52 (.inl (d.2 0, 5, .inl (fun _ => 0))) := ⟨_, rfl⟩
  rw [← eh58]
  have sp59 : tw_sp d τ (tw_rm h x) g τ29 h58 := by rw [eh58]; exact sp50.mk hq53
  have f60 : h58 x = some (.inr (11, [.int 0, .int 0, .ref q1, .ref q19, .null])) := by rw [eh58, tw_up_n ne57]; exact f51
  have f61 : h58 q52 = some (.inl (d.2 0, 5, .inl (fun _ => 0))) := by rw [eh58]; exact tw_up_s
  obtain ⟨τ62, eτ62⟩ : ∃ z : tw_K, z = tw_ku τ29 q52 33 := ⟨_, rfl⟩
  have le63 : tw_le τ29 τ62 := by rw [eτ62]; exact tw_ku_le z56
  have k64 : τ62 q1 = 31 := le63.k k31 (by decide)
  have k65 : τ62 q19 = 32 := le63.k k33 (by decide)
  have sp66 : tw_sp d τ (tw_rm h x) g τ62 h58 := by rw [eτ62]; exact sp59.ty n55 z56 f61 (by rw [← eτ62]; exact ⟨_, rfl, fun _ => by decide⟩)
  have k67 : τ62 q52 = 33 := by rw [eτ62]; exact tw_ku_s
  have z68 : τ62 x = 0 := by rw [eτ62, tw_ku_n ne57]; exact z34
  refine tw_put rfl in_11 tyX7 tyX7_ok nmX7 4 dX7_init_30 w_1224 rfl (by decide) f60 rfl rfl rfl rfl (Nat.le_of_ble_eq_true rfl) [.int 0, .int 0, .ref q1, .ref q19, .ref q52] rfl ?_
  obtain ⟨h69, eh69⟩ : ∃ z : tw_H, z = tw_up h58 x (.inr (11, [.int 0, .int 0, .ref q1, .ref q19, .ref q52])) := ⟨_, rfl⟩
  rw [← eh69]
  have sp70 : tw_sp d τ (tw_rm h x) g τ62 h69 := by rw [eh69]; exact sp66.wl tw_rm_s z68
  have f71 : h69 x = some (.inr (11, [.int 0, .int 0, .ref q1, .ref q19, .ref q52])) := by rw [eh69]; exact tw_up_s
  exact tw_vret dX7_init_33 rfl (Or.inl ⟨rfl, _, q1, q19, q52, sp70, f71, z68, k64, k65, k67⟩)

set_option maxHeartbeats 4000000 in
set_option maxRecDepth 100000 in
theorem c_X9_init (d : tw_D) (g : tw_G) (τ : tw_K) (h : tw_H) (hw : tw_wt d g τ h) (x : Nat) (hz : τ x = 0) (hx : h x = some (.inr (13, [.int 0, .int 0, .int 0, .null]))) : tw_Ct d mX9_init 1 2 [.ref x] h (tw_qv (fun h1 => ∃ (τ1 : tw_K) (p : Nat), tw_sp d τ (tw_rm h x) g τ1 h1 ∧ h1 x = some (.inr (13, [.int 0, .int (-1), .int (-1), .ref p])) ∧ τ1 x = 0 ∧ τ1 p = 31) tw_nx) := by
  refine tw_of (by decide +kernel) (Nat.le_of_ble_eq_true rfl) ?_
  show tw_W d mX9_init _ 0 [(0, .ref x)] [] h 1 2
  have sp0 := tw_sp.rm hw x
  refine tw_aload_n 0 dX9_init_0 rfl rfl ?_
  refine tw_objInit dX9_init_1 w_1341 w_117 w_118 ⟨by decide, Nat.le_of_ble_eq_true rfl⟩ ?_
  refine tw_aload_n 0 dX9_init_4 rfl rfl ?_
  refine tw_iconst (v := -1) dX9_init_5 (by decide) ?_
  refine tw_put rfl in_13 tyX9 tyX9_ok nmX9 1 dX9_init_6 w_1343 rfl (by decide) hx rfl rfl rfl rfl (Nat.le_of_ble_eq_true rfl) [.int 0, .int (-1), .int 0, .null] rfl ?_
  obtain ⟨h1, eh1⟩ : ∃ z : tw_H, z = tw_up h x (.inr (13, [.int 0, .int (-1), .int 0, .null])) := ⟨_, rfl⟩
  rw [← eh1]
  have sp2 : tw_sp d τ (tw_rm h x) g τ h1 := by rw [eh1]; exact sp0.wl tw_rm_s hz
  have f3 : h1 x = some (.inr (13, [.int 0, .int (-1), .int 0, .null])) := by rw [eh1]; exact tw_up_s
  refine tw_aload_n 0 dX9_init_9 rfl rfl ?_
  refine tw_iconst (v := -1) dX9_init_10 (by decide) ?_
  refine tw_put rfl in_13 tyX9 tyX9_ok nmX9 2 dX9_init_11 w_1345 rfl (by decide) f3 rfl rfl rfl rfl (Nat.le_of_ble_eq_true rfl) [.int 0, .int (-1), .int (-1), .null] rfl ?_
  obtain ⟨h4, eh4⟩ : ∃ z : tw_H, z = tw_up h1 x (.inr (13, [.int 0, .int (-1), .int (-1), .null])) := ⟨_, rfl⟩
  rw [← eh4]
  have sp5 : tw_sp d τ (tw_rm h x) g τ h4 := by rw [eh4]; exact sp2.wl tw_rm_s hz
  have f6 : h4 x = some (.inr (13, [.int 0, .int (-1), .int (-1), .null])) := by rw [eh4]; exact tw_up_s
  refine tw_aload_n 0 dX9_init_14 rfl rfl ?_
  refine tw_iconst (v := 2) dX9_init_15 (by decide) ?_
  refine tw_newa (a0 := (2, .inr (.inl (fun _ => 0)))) 1 rfl dX9_init_16 rfl w_1150 (fun _ => rfl) (by decide) (by decide) (by decide) 0 0 (Nat.le_of_ble_eq_true rfl) (Nat.le_of_ble_eq_true rfl) (fun q7 hq8 hA9 => ?_)
  have n10 := sp5.nn hq8
  have z11 := sp5.1.none hq8
  have ne12 := tw_neF f6 hq8
  obtain ⟨h13, eh13⟩ : ∃ z : tw_H, z = tw_up h4 q7 (.inl (d.2 1, 2, .inr (.inl (fun _ => 0)))) := ⟨_, rfl⟩
  rw [← eh13]
  have sp14 : tw_sp d τ (tw_rm h x) g τ h13 := by rw [eh13]; exact sp5.mk hq8
  have f15 : h13 x = some (.inr (13, [.int 0, .int (-1), .int (-1), .null])) := by rw [eh13, tw_up_n ne12]; exact f6
  have f16 : h13 q7 = some (.inl (d.2 1, 2, .inr (.inl (fun _ => 0)))) := by rw [eh13]; exact tw_up_s
  obtain ⟨τ17, eτ17⟩ : ∃ z : tw_K, z = tw_ku τ q7 31 := ⟨_, rfl⟩
  have le18 : tw_le τ τ17 := by rw [eτ17]; exact tw_ku_le z11
  have sp19 : tw_sp d τ (tw_rm h x) g τ17 h13 := by rw [eτ17]; exact sp14.ty n10 z11 f16 (by rw [← eτ17]; exact ⟨_, rfl⟩)
  have k20 : τ17 q7 = 31 := by rw [eτ17]; exact tw_ku_s
  have z21 : τ17 x = 0 := by rw [eτ17, tw_ku_n ne12]; exact hz
  refine tw_put rfl in_13 tyX9 tyX9_ok nmX9 3 dX9_init_18 w_1347 rfl (by decide) f15 rfl rfl rfl rfl (Nat.le_of_ble_eq_true rfl) [.int 0, .int (-1), .int (-1), .ref q7] rfl ?_
  obtain ⟨h22, eh22⟩ : ∃ z : tw_H, z = tw_up h13 x (.inr (13, [.int 0, .int (-1), .int (-1), .ref q7])) := ⟨_, rfl⟩
  rw [← eh22]
  have sp23 : tw_sp d τ (tw_rm h x) g τ17 h22 := by rw [eh22]; exact sp19.wl tw_rm_s z21
  have f24 : h22 x = some (.inr (13, [.int 0, .int (-1), .int (-1), .ref q7])) := by rw [eh22]; exact tw_up_s
  exact tw_vret dX9_init_21 rfl (Or.inl ⟨rfl, _, q7, sp23, f24, z21, k20⟩)

set_option maxHeartbeats 4000000 in
set_option maxRecDepth 100000 in
theorem c_X8_init (d : tw_D) (g : tw_G) (τ : tw_K) (h : tw_H) (hw : tw_wt d g τ h) (x : Nat) (hz : τ x = 0) (hx : h x = some (.inr (12, [.int 0, .int 0, .int 0, .int 0, .int 0]))) : tw_Ct d mX8_init 0 0 [.ref x] h (tw_qv (fun h1 => ∃ (τ1 : tw_K), tw_sp d τ (tw_rm h x) g τ1 h1 ∧ h1 x = some (.inr (12, [.int 0, .int 0, .int 0, .int 0, .int 0])) ∧ τ1 x = 0) tw_nx) := by
  refine tw_of (by decide +kernel) (Nat.le_of_ble_eq_true rfl) ?_
  show tw_W d mX8_init _ 0 [(0, .ref x)] [] h 0 0
  have sp0 := tw_sp.rm hw x
  refine tw_aload_n 0 dX8_init_0 rfl rfl ?_
  refine tw_objInit dX8_init_1 w_1442 w_117 w_118 ⟨by decide, Nat.le_of_ble_eq_true rfl⟩ ?_
  exact tw_vret dX8_init_4 rfl (Or.inl ⟨rfl, _, sp0, hx, hz⟩)

set_option maxHeartbeats 4000000 in
set_option maxRecDepth 100000 in
theorem c_X10_country (d : tw_D) (g : tw_G) (τ : tw_K) (h : tw_H) (hw : tw_wt d g τ h) (x : Nat) (kx : τ x = 36) (r : Int32) (ct : Int32) (go : Int32) (si : Int32) : tw_Ct d mX10_country 10 60 [.ref x, .int r, .int ct, .int go, .int si] h (tw_qi (fun r h1 => ∃ g1 τ1, tw_ga g g1 ∧ tw_sp d τ h g1 τ1 h1) tw_nx) := by
  refine tw_of (by decide +kernel) (Nat.le_of_ble_eq_true rfl) ?_
  show tw_W d mX10_country _ 0 [(0, .ref x), (1, .int r), (2, .int ct), (3, .int go), (4, .int si)] [] h 10 60
  have sp0 := tw_sp.rf hw
  refine tw_aload_n 0 dX10_country_0 rfl rfl ?_
  refine tw_iload_n 1 dX10_country_1 rfl rfl ?_
  refine tw_bipush (v := 100) dX10_country_2 (by decide) ?_
  refine tw_sipush (v := 200) dX10_country_4 (by decide) ?_
  refine tw_bi (tw_callS (M := mX10_country) (pc := 7) okX10_isIn dX10_country_7 w_1196 [.int r, .int 100, .int 200] [.ref x] rfl rfl ⟨by decide, by decide⟩ (Nat.le_of_ble_eq_true rfl) (c_X10_isIn d g τ h sp0.1 r 100 200) 10 60 (Nat.le_of_ble_eq_true rfl) (Nat.le_of_ble_eq_true rfl)) (fun r3 h2 q1 => ?_) (fun E h1 q => q.elim)
  obtain ⟨q1e, q1d⟩ := q1
  rw [q1e]
  rcases q1d with ⟨q1r, q1n⟩ | ⟨q1r, q1a, q1b⟩
  · rw [q1r]
    refine tw_if_eq 44 dX10_country_10 (by decide) (fun _ => ?_) (fun c4 => absurd (by decide) c4)
    refine tw_iconst (v := 1) dX10_country_44 (by decide) ?_
    refine tw_goto 49 dX10_country_45 (by decide) ?_
    refine tw_iconst (v := 1) dX10_country_49 (by decide) ?_
    obtain ⟨e5, f6, th_7, td_8, ds_9, fr_10, ca_11, us_12, wo_13, cm_14, lc_15, lh_16, ld_17, rfl, k18, k19, k20, k21, k22, k23, k24, k25, k26, k27, k28, k29, k30, k31⟩ := sp0.1 x 36 kx (by decide)
    refine tw_bi (tw_callV (M := mX10_country) (pc := 50) okX10_start dX10_country_50 w_1200 rfl f6 [.int 1, .int 1] [] rfl rfl ⟨by decide, by decide⟩ (Nat.le_of_ble_eq_true rfl) (c_X10_start d g τ h sp0.1 x kx 1 1 (by decide)) 10 60 (Nat.le_of_ble_eq_true rfl) (Nat.le_of_ble_eq_true rfl)) (fun r34 h33 q32 => ?_) (fun E h1 q => q.elim)
    obtain ⟨e35, he36, hs37, hr38, h339⟩ := q32
    have sp40 : tw_sp d τ h g τ h33 := by rw [he36]; exact sp0.set kx (by decide) hs37
    rcases hr38 with ei41 | ⟨ei41, ei41b⟩
    · rw [ei41]
      refine tw_if_ne 80 dX10_country_53 (by decide) (fun _ => ?_) (fun c42 => absurd c42 (by decide))
      refine tw_iconst (v := 0) dX10_country_80 (by decide) ?_
      exact tw_iret dX10_country_81 rfl (Or.inl ⟨_, rfl, ⟨_, _, ⟨rfl, rfl⟩, sp40⟩⟩)
    · exact absurd ei41b (by decide)
  · rw [q1r]
    refine tw_if_eq 44 dX10_country_10 (by decide) (fun c43 => absurd c43 (by decide)) (fun _ => ?_)
    refine tw_iload_n 2 dX10_country_13 rfl rfl ?_
    refine tw_iconst (v := 0) dX10_country_14 (by decide) ?_
    refine tw_bipush (v := 50) dX10_country_15 (by decide) ?_
    refine tw_bi (tw_callS (M := mX10_country) (pc := 17) okX10_isIn dX10_country_17 w_1196 [.int ct, .int 0, .int 50] [.ref x] rfl rfl ⟨by decide, by decide⟩ (Nat.le_of_ble_eq_true rfl) (c_X10_isIn d g τ h sp0.1 ct 0 50) 10 60 (Nat.le_of_ble_eq_true rfl) (Nat.le_of_ble_eq_true rfl)) (fun r46 h45 q44 => ?_) (fun E h1 q => q.elim)
    obtain ⟨q44e, q44d⟩ := q44
    rw [q44e]
    rcases q44d with ⟨q44r, q44n⟩ | ⟨q44r, q44a, q44b⟩
    · rw [q44r]
      refine tw_if_eq 44 dX10_country_20 (by decide) (fun _ => ?_) (fun c47 => absurd (by decide) c47)
      refine tw_iconst (v := 1) dX10_country_44 (by decide) ?_
      refine tw_goto 49 dX10_country_45 (by decide) ?_
      refine tw_iconst (v := 1) dX10_country_49 (by decide) ?_
      obtain ⟨e48, f49, th_50, td_51, ds_52, fr_53, ca_54, us_55, wo_56, cm_57, lc_58, lh_59, ld_60, rfl, k61, k62, k63, k64, k65, k66, k67, k68, k69, k70, k71, k72, k73, k74⟩ := sp0.1 x 36 kx (by decide)
      refine tw_bi (tw_callV (M := mX10_country) (pc := 50) okX10_start dX10_country_50 w_1200 rfl f49 [.int 1, .int 1] [] rfl rfl ⟨by decide, by decide⟩ (Nat.le_of_ble_eq_true rfl) (c_X10_start d g τ h sp0.1 x kx 1 1 (by decide)) 10 60 (Nat.le_of_ble_eq_true rfl) (Nat.le_of_ble_eq_true rfl)) (fun r77 h76 q75 => ?_) (fun E h1 q => q.elim)
      obtain ⟨e78, he79, hs80, hr81, h382⟩ := q75
      have sp83 : tw_sp d τ h g τ h76 := by rw [he79]; exact sp0.set kx (by decide) hs80
      rcases hr81 with ei84 | ⟨ei84, ei84b⟩
      · rw [ei84]
        refine tw_if_ne 80 dX10_country_53 (by decide) (fun _ => ?_) (fun c85 => absurd c85 (by decide))
        refine tw_iconst (v := 0) dX10_country_80 (by decide) ?_
        exact tw_iret dX10_country_81 rfl (Or.inl ⟨_, rfl, ⟨_, _, ⟨rfl, rfl⟩, sp83⟩⟩)
      · exact absurd ei84b (by decide)
    · rw [q44r]
      refine tw_if_eq 44 dX10_country_20 (by decide) (fun c86 => absurd c86 (by decide)) (fun _ => ?_)
      refine tw_iload_n 3 dX10_country_23 rfl rfl ?_
      refine tw_iconst (v := 0) dX10_country_24 (by decide) ?_
      refine tw_ldc (v := 99999) dX10_country_25 w_1199 ?_
      refine tw_bi (tw_callS (M := mX10_country) (pc := 27) okX10_isIn dX10_country_27 w_1196 [.int go, .int 0, .int 99999] [.ref x] rfl rfl ⟨by decide, by decide⟩ (Nat.le_of_ble_eq_true rfl) (c_X10_isIn d g τ h sp0.1 go 0 99999) 10 60 (Nat.le_of_ble_eq_true rfl) (Nat.le_of_ble_eq_true rfl)) (fun r89 h88 q87 => ?_) (fun E h1 q => q.elim)
      obtain ⟨q87e, q87d⟩ := q87
      rw [q87e]
      rcases q87d with ⟨q87r, q87n⟩ | ⟨q87r, q87a, q87b⟩
      · rw [q87r]
        refine tw_if_eq 44 dX10_country_30 (by decide) (fun _ => ?_) (fun c90 => absurd (by decide) c90)
        refine tw_iconst (v := 1) dX10_country_44 (by decide) ?_
        refine tw_goto 49 dX10_country_45 (by decide) ?_
        refine tw_iconst (v := 1) dX10_country_49 (by decide) ?_
        obtain ⟨e91, f92, th_93, td_94, ds_95, fr_96, ca_97, us_98, wo_99, cm_100, lc_101, lh_102, ld_103, rfl, k104, k105, k106, k107, k108, k109, k110, k111, k112, k113, k114, k115, k116, k117⟩ := sp0.1 x 36 kx (by decide)
        refine tw_bi (tw_callV (M := mX10_country) (pc := 50) okX10_start dX10_country_50 w_1200 rfl f92 [.int 1, .int 1] [] rfl rfl ⟨by decide, by decide⟩ (Nat.le_of_ble_eq_true rfl) (c_X10_start d g τ h sp0.1 x kx 1 1 (by decide)) 10 60 (Nat.le_of_ble_eq_true rfl) (Nat.le_of_ble_eq_true rfl)) (fun r120 h119 q118 => ?_) (fun E h1 q => q.elim)
        obtain ⟨e121, he122, hs123, hr124, h3125⟩ := q118
        have sp126 : tw_sp d τ h g τ h119 := by rw [he122]; exact sp0.set kx (by decide) hs123
        rcases hr124 with ei127 | ⟨ei127, ei127b⟩
        · rw [ei127]
          refine tw_if_ne 80 dX10_country_53 (by decide) (fun _ => ?_) (fun c128 => absurd c128 (by decide))
          refine tw_iconst (v := 0) dX10_country_80 (by decide) ?_
          exact tw_iret dX10_country_81 rfl (Or.inl ⟨_, rfl, ⟨_, _, ⟨rfl, rfl⟩, sp126⟩⟩)
        · exact absurd ei127b (by decide)
      · rw [q87r]
        refine tw_if_eq 44 dX10_country_30 (by decide) (fun c129 => absurd c129 (by decide)) (fun _ => ?_)
        refine tw_iload 4 dX10_country_33 rfl ?_
        refine tw_iconst (v := 0) dX10_country_35 (by decide) ?_
        refine tw_ldc (v := 99999) dX10_country_36 w_1199 ?_
        refine tw_bi (tw_callS (M := mX10_country) (pc := 38) okX10_isIn dX10_country_38 w_1196 [.int si, .int 0, .int 99999] [.ref x] rfl rfl ⟨by decide, by decide⟩ (Nat.le_of_ble_eq_true rfl) (c_X10_isIn d g τ h sp0.1 si 0 99999) 10 60 (Nat.le_of_ble_eq_true rfl) (Nat.le_of_ble_eq_true rfl)) (fun r132 h131 q130 => ?_) (fun E h1 q => q.elim)
        obtain ⟨q130e, q130d⟩ := q130
        rw [q130e]
        rcases q130d with ⟨q130r, q130n⟩ | ⟨q130r, q130a, q130b⟩
        · rw [q130r]
          refine tw_if_ne 48 dX10_country_41 (by decide) (fun c133 => absurd (by decide) c133) (fun _ => ?_)
          refine tw_iconst (v := 1) dX10_country_44 (by decide) ?_
          refine tw_goto 49 dX10_country_45 (by decide) ?_
          refine tw_iconst (v := 1) dX10_country_49 (by decide) ?_
          obtain ⟨e134, f135, th_136, td_137, ds_138, fr_139, ca_140, us_141, wo_142, cm_143, lc_144, lh_145, ld_146, rfl, k147, k148, k149, k150, k151, k152, k153, k154, k155, k156, k157, k158, k159, k160⟩ := sp0.1 x 36 kx (by decide)
          refine tw_bi (tw_callV (M := mX10_country) (pc := 50) okX10_start dX10_country_50 w_1200 rfl f135 [.int 1, .int 1] [] rfl rfl ⟨by decide, by decide⟩ (Nat.le_of_ble_eq_true rfl) (c_X10_start d g τ h sp0.1 x kx 1 1 (by decide)) 10 60 (Nat.le_of_ble_eq_true rfl) (Nat.le_of_ble_eq_true rfl)) (fun r163 h162 q161 => ?_) (fun E h1 q => q.elim)
          obtain ⟨e164, he165, hs166, hr167, h3168⟩ := q161
          have sp169 : tw_sp d τ h g τ h162 := by rw [he165]; exact sp0.set kx (by decide) hs166
          rcases hr167 with ei170 | ⟨ei170, ei170b⟩
          · rw [ei170]
            refine tw_if_ne 80 dX10_country_53 (by decide) (fun _ => ?_) (fun c171 => absurd c171 (by decide))
            refine tw_iconst (v := 0) dX10_country_80 (by decide) ?_
            exact tw_iret dX10_country_81 rfl (Or.inl ⟨_, rfl, ⟨_, _, ⟨rfl, rfl⟩, sp169⟩⟩)
          · exact absurd ei170b (by decide)
        · rw [q130r]
          refine tw_if_ne 48 dX10_country_41 (by decide) (fun _ => ?_) (fun c172 => absurd c172 (by decide))
          refine tw_iconst (v := 0) dX10_country_48 (by decide) ?_
          refine tw_iconst (v := 1) dX10_country_49 (by decide) ?_
          obtain ⟨e173, f174, th_175, td_176, ds_177, fr_178, ca_179, us_180, wo_181, cm_182, lc_183, lh_184, ld_185, rfl, k186, k187, k188, k189, k190, k191, k192, k193, k194, k195, k196, k197, k198, k199⟩ := sp0.1 x 36 kx (by decide)
          refine tw_bi (tw_callV (M := mX10_country) (pc := 50) okX10_start dX10_country_50 w_1200 rfl f174 [.int 0, .int 1] [] rfl rfl ⟨by decide, by decide⟩ (Nat.le_of_ble_eq_true rfl) (c_X10_start d g τ h sp0.1 x kx 0 1 (by decide)) 10 60 (Nat.le_of_ble_eq_true rfl) (Nat.le_of_ble_eq_true rfl)) (fun r202 h201 q200 => ?_) (fun E h1 q => q.elim)
          obtain ⟨e203, he204, hs205, hr206, h3207⟩ := q200
          have sp208 : tw_sp d τ h g τ h201 := by rw [he204]; exact sp0.set kx (by decide) hs205
          rcases hr206 with ei209 | ⟨ei209, ei209b⟩
          · rw [ei209]
            refine tw_if_ne 80 dX10_country_53 (by decide) (fun _ => ?_) (fun c210 => absurd c210 (by decide))
            refine tw_iconst (v := 0) dX10_country_80 (by decide) ?_
            exact tw_iret dX10_country_81 rfl (Or.inl ⟨_, rfl, ⟨_, _, ⟨rfl, rfl⟩, sp208⟩⟩)
          · rw [ei209]
            refine tw_if_ne 80 dX10_country_53 (by decide) (fun c211 => absurd (by decide) c211) (fun _ => ?_)
            refine tw_aload_n 0 dX10_country_56 rfl rfl ?_
            refine tw_aload_n 0 dX10_country_57 rfl rfl ?_
            obtain ⟨e212, f213, th_214, td_215, ds_216, fr_217, ca_218, us_219, wo_220, cm_221, lc_222, lh_223, ld_224, rfl, k225, k226, k227, k228, k229, k230, k231, k232, k233, k234, k235, k236, k237, k238⟩ := sp208.1 x 36 kx (by decide)
            refine tw_get (v := .ref lc_222) rfl in_14 9 dX10_country_58 w_1160 rfl (by decide) f213 rfl ?_
            obtain ⟨e239, f240, ⟨el241, rfl, k242⟩, k243⟩ := sp208.1 lc_222 24 k231 (by decide)
            refine tw_bi (tw_callV (M := mX10_country) (pc := 61) okJx4a65c_size_8abf5 dX10_country_61 w_1208 rfl f240 [] [.ref x] rfl rfl ⟨by decide, by decide⟩ (Nat.le_of_ble_eq_true rfl) (c24_size d g τ h201 sp208.1 lc_222 k231) 10 60 (Nat.le_of_ble_eq_true rfl) (Nat.le_of_ble_eq_true rfl)) (fun r246 h245 q244 => ?_) (fun E h1 q => q.elim)
            obtain ⟨q244e, q244r⟩ := q244
            rw [q244e, q244r]
            refine tw_iconst (v := 4) dX10_country_64 (by decide) ?_
            refine tw_icmp_ne 72 dX10_country_65 (by decide) (fun c247 => ?_) (fun c247 => ?_)
            · refine tw_iconst (v := 0) dX10_country_72 (by decide) ?_
              refine tw_iconst (v := 2) dX10_country_73 (by decide) ?_
              refine tw_bi (tw_callV (M := mX10_country) (pc := 74) okX10_refuse dX10_country_74 w_1204 rfl f213 [.int 0, .int 2] [] rfl rfl ⟨by decide, by decide⟩ (Nat.le_of_ble_eq_true rfl) (c_X10_refuse d g τ h201 sp208.1 x kx 0 2 (by decide)) 10 60 (Nat.le_of_ble_eq_true rfl) (Nat.le_of_ble_eq_true rfl)) (fun r250 h249 q248 => ?_) (fun E h1 q => q.elim)
              obtain ⟨e251, he252, hs253, hr254, h3255⟩ := q248
              have sp256 : tw_sp d τ h g τ h249 := by rw [he252]; exact sp208.set kx (by decide) hs253
              have f257 : h249 lc_222 = some (.inr (3, [.int (g.1 3), .ref el241, .int (nI (g.2 3))])) := by rw [he252, tw_up_n (fun q => absurd (k231) (by rw [q, kx]; decide))]; exact f240
              rcases hr254 with ei258 | ⟨ei258, ei258b⟩
              · rw [ei258]
                refine tw_if_eq 82 dX10_country_77 (by decide) (fun c259 => absurd c259 (by decide)) (fun _ => ?_)
                refine tw_iconst (v := 0) dX10_country_80 (by decide) ?_
                exact tw_iret dX10_country_81 rfl (Or.inl ⟨_, rfl, ⟨_, _, ⟨rfl, rfl⟩, sp256⟩⟩)
              · rw [ei258]
                refine tw_if_eq 82 dX10_country_77 (by decide) (fun _ => ?_) (fun c260 => absurd (by decide) c260)
                refine tw_new (ci := 11) rfl in_11 tyX7 tyX7_ok dX10_country_82 w_1212 w_1213 w_91 (fs := [.int 0, .int 0, .null, .null, .null]) (fun j hj => by rcases (show j = 0 ∨ j = 1 ∨ j = 2 ∨ j = 3 ∨ j = 4 by omega) with rfl | rfl | rfl | rfl | rfl <;> rfl) 9 55 (Nat.le_of_ble_eq_true rfl) (Nat.le_of_ble_eq_true rfl) (fun q261 hq262 hA263 => ?_)
                have n264 := sp256.nn hq262
                have z265 := sp256.1.none hq262
                obtain ⟨h266, eh266⟩ : ∃ z : tw_H, z = tw_up h249 q261 (.inr (11, [.int 0, .int 0, .null, .null, .null])) := ⟨_, rfl⟩
                rw [← eh266]
                have sp267 : tw_sp d τ h g τ h266 := by rw [eh266]; exact sp256.mk hq262
                have f268 : h266 q261 = some (.inr (11, [.int 0, .int 0, .null, .null, .null])) := by rw [eh266]; exact tw_up_s
                refine tw_dup dX10_country_85 rfl ?_
                refine tw_bv (tw_callIN (M := mX10_country) (pc := 86) okX7_init dX10_country_86 w_1214 rfl [] [.ref q261] rfl rfl ⟨by decide, by decide⟩ (Nat.le_of_ble_eq_true rfl) (c_X7_init d g τ h266 sp267.1 q261 z265 f268) 6 46 (Nat.le_of_ble_eq_true rfl) (Nat.le_of_ble_eq_true rfl)) (fun h270 q269 => ?_) (fun E h1 q => q.elim)
                obtain ⟨τ271, v272, o273, t274, q269s, f275, z276, k277, k278, k279⟩ := q269
                have sp280 := sp267.trm n264 q269s
                have k281 : τ271 x = 36 := q269s.2.1.k kx (by decide)
                have k282 : τ271 ds_177 = 34 := q269s.2.1.k k186 (by decide)
                have k283 : τ271 fr_178 = 34 := q269s.2.1.k k187 (by decide)
                have k284 : τ271 ca_179 = 31 := q269s.2.1.k k188 (by decide)
                have k285 : τ271 us_180 = 31 := q269s.2.1.k k189 (by decide)
                have k286 : τ271 wo_181 = 31 := q269s.2.1.k k190 (by decide)
                have k287 : τ271 cm_182 = 31 := q269s.2.1.k k191 (by decide)
                have k288 : τ271 lc_183 = 24 := q269s.2.1.k k192 (by decide)
                have k289 : τ271 lh_184 = 25 := q269s.2.1.k k193 (by decide)
                have k290 : τ271 ld_185 = 26 := q269s.2.1.k k194 (by decide)
                have k291 : τ271 ds_216 = 34 := q269s.2.1.k k225 (by decide)
                have k292 : τ271 fr_217 = 34 := q269s.2.1.k k226 (by decide)
                have k293 : τ271 ca_218 = 31 := q269s.2.1.k k227 (by decide)
                have k294 : τ271 us_219 = 31 := q269s.2.1.k k228 (by decide)
                have k295 : τ271 wo_220 = 31 := q269s.2.1.k k229 (by decide)
                have k296 : τ271 cm_221 = 31 := q269s.2.1.k k230 (by decide)
                have k297 : τ271 lc_222 = 24 := q269s.2.1.k k231 (by decide)
                have k298 : τ271 lh_223 = 25 := q269s.2.1.k k232 (by decide)
                have k299 : τ271 ld_224 = 26 := q269s.2.1.k k233 (by decide)
                refine tw_astore [(5, .ref q261), (0, .ref x), (1, .int r), (2, .int ct), (3, .int go), (4, .int si)] dX10_country_89 (by decide) rfl ?_
                refine tw_aload 0 dX10_country_91 rfl ?_
                refine tw_iload_n 2 dX10_country_93 rfl rfl ?_
                refine tw_put rfl in_11 tyX7 tyX7_ok nmX7 0 dX10_country_94 w_1218 rfl (by decide) f275 rfl rfl rfl rfl (Nat.le_of_ble_eq_true rfl) [.int r, .int 0, .ref v272, .ref o273, .ref t274] rfl ?_
                obtain ⟨h300, eh300⟩ : ∃ z : tw_H, z = tw_up h270 q261 (.inr (11, [.int r, .int 0, .ref v272, .ref o273, .ref t274])) := ⟨_, rfl⟩
                rw [← eh300]
                have sp301 : tw_sp d τ h g τ271 h300 := by rw [eh300]; exact sp280.wl n264 z276
                have f302 : h300 q261 = some (.inr (11, [.int r, .int 0, .ref v272, .ref o273, .ref t274])) := by rw [eh300]; exact tw_up_s
                refine tw_aload 0 dX10_country_97 rfl ?_
                refine tw_iload_n 3 dX10_country_99 rfl rfl ?_
                refine tw_put rfl in_11 tyX7 tyX7_ok nmX7 1 dX10_country_100 w_1219 rfl (by decide) f302 rfl rfl rfl rfl (Nat.le_of_ble_eq_true rfl) [.int r, .int ct, .ref v272, .ref o273, .ref t274] rfl ?_
                obtain ⟨h303, eh303⟩ : ∃ z : tw_H, z = tw_up h300 q261 (.inr (11, [.int r, .int ct, .ref v272, .ref o273, .ref t274])) := ⟨_, rfl⟩
                rw [← eh303]
                have sp304 : tw_sp d τ h g τ271 h303 := by rw [eh303]; exact sp301.wl n264 z276
                have f305 : h303 q261 = some (.inr (11, [.int r, .int ct, .ref v272, .ref o273, .ref t274])) := by rw [eh303]; exact tw_up_s
                refine tw_aload 0 dX10_country_103 rfl ?_
                refine tw_get (v := .ref v272) rfl in_11 2 dX10_country_105 w_1221 rfl (by decide) f305 rfl ?_
                refine tw_iconst (v := 0) dX10_country_108 (by decide) ?_
                refine tw_iload_n 4 dX10_country_109 rfl rfl ?_
                refine tw_i2l dX10_country_110 ?_
                refine tw_nml (fun v306 ev306 => ?_)
                obtain ⟨e307, f308, F309, rfl⟩ := sp304.1 v272 31 k277 (by decide)
                refine tw_last dX10_country_111 f308 (vp_in_nI (n := 0) (by decide) (by decide)) ?_
                obtain ⟨h310, eh310⟩ : ∃ z : tw_H, z = tw_up h303 v272 (.inl (d.2 1, 2, .inr (.inl (vp_updL F309 (0 : Int32).toNatClampNeg v306)))) := ⟨_, rfl⟩
                rw [← eh310]
                have sp311 : tw_sp d τ h g τ271 h310 := by rw [eh310]; exact sp304.set k277 (by decide) ⟨_, rfl⟩
                have f312 : h310 q261 = some (.inr (11, [.int r, .int ct, .ref v272, .ref o273, .ref t274])) := by rw [eh310, tw_up_n (fun q => absurd (z276) (by rw [q, k277]; decide))]; exact f305
                refine tw_aload 0 dX10_country_112 rfl ?_
                refine tw_get (v := .ref v272) rfl in_11 2 dX10_country_114 w_1221 rfl (by decide) f312 rfl ?_
                refine tw_iconst (v := 1) dX10_country_117 (by decide) ?_
                refine tw_iload 5 dX10_country_118 rfl ?_
                refine tw_i2l dX10_country_120 ?_
                refine tw_nml (fun v313 ev313 => ?_)
                obtain ⟨e314, f315, F316, rfl⟩ := sp311.1 v272 31 k277 (by decide)
                refine tw_last dX10_country_121 f315 (vp_in_nI (n := 1) (by decide) (by decide)) ?_
                obtain ⟨h317, eh317⟩ : ∃ z : tw_H, z = tw_up h310 v272 (.inl (d.2 1, 2, .inr (.inl (vp_updL F316 (1 : Int32).toNatClampNeg v313)))) := ⟨_, rfl⟩
                rw [← eh317]
                have sp318 : tw_sp d τ h g τ271 h317 := by rw [eh317]; exact sp311.set k277 (by decide) ⟨_, rfl⟩
                have f319 : h317 q261 = some (.inr (11, [.int r, .int ct, .ref v272, .ref o273, .ref t274])) := by rw [eh317, tw_up_n (fun q => absurd (z276) (by rw [q, k277]; decide))]; exact f312
                refine tw_aload_n 1 dX10_country_122 rfl rfl ?_
                obtain ⟨e320, f321, th_322, td_323, ds_324, fr_325, ca_326, us_327, wo_328, cm_329, lc_330, lh_331, ld_332, rfl, k333, k334, k335, k336, k337, k338, k339, k340, k341, k342, k343, k344, k345, k346⟩ := sp318.1 x 36 k281 (by decide)
                refine tw_get (v := .ref cm_329) rfl in_14 8 dX10_country_123 w_1159 rfl (by decide) f321 rfl ?_
                refine tw_iconst (v := 0) dX10_country_126 (by decide) ?_
                refine tw_dup2 dX10_country_127 rfl rfl ?_
                obtain ⟨e347, f348, F349, rfl⟩ := sp318.1 cm_329 31 k338 (by decide)
                obtain ⟨v350, ev350⟩ : ∃ y : Int64, F349 (0 : Int32).toNatClampNeg = y := ⟨_, rfl⟩
                refine tw_lald (v := v350) dX10_country_128 f348 (vp_in_nI (n := 0) (by decide) (by decide)) ev350 ?_
                refine tw_iload_n 4 dX10_country_129 rfl rfl ?_
                refine tw_i2l dX10_country_130 ?_
                refine tw_nml (fun v351 ev351 => ?_)
                refine tw_ladd dX10_country_131 ?_
                refine tw_nml (fun v352 ev352 => ?_)
                refine tw_last dX10_country_132 f348 (vp_in_nI (n := 0) (by decide) (by decide)) ?_
                obtain ⟨h353, eh353⟩ : ∃ z : tw_H, z = tw_up h317 cm_329 (.inl (d.2 1, 2, .inr (.inl (vp_updL F349 (0 : Int32).toNatClampNeg v352)))) := ⟨_, rfl⟩
                rw [← eh353]
                have sp354 : tw_sp d τ h g τ271 h353 := by rw [eh353]; exact sp318.set k338 (by decide) ⟨_, rfl⟩
                have f355 : h353 q261 = some (.inr (11, [.int r, .int ct, .ref v272, .ref o273, .ref t274])) := by rw [eh353, tw_up_n (fun q => absurd (z276) (by rw [q, k338]; decide))]; exact f319
                refine tw_aload_n 1 dX10_country_133 rfl rfl ?_
                obtain ⟨e356, f357, th_358, td_359, ds_360, fr_361, ca_362, us_363, wo_364, cm_365, lc_366, lh_367, ld_368, rfl, k369, k370, k371, k372, k373, k374, k375, k376, k377, k378, k379, k380, k381, k382⟩ := sp354.1 x 36 k281 (by decide)
                refine tw_get (v := .ref cm_365) rfl in_14 8 dX10_country_134 w_1159 rfl (by decide) f357 rfl ?_
                refine tw_iconst (v := 1) dX10_country_137 (by decide) ?_
                refine tw_dup2 dX10_country_138 rfl rfl ?_
                obtain ⟨e383, f384, F385, rfl⟩ := sp354.1 cm_365 31 k374 (by decide)
                obtain ⟨v386, ev386⟩ : ∃ y : Int64, F385 (1 : Int32).toNatClampNeg = y := ⟨_, rfl⟩
                refine tw_lald (v := v386) dX10_country_139 f384 (vp_in_nI (n := 1) (by decide) (by decide)) ev386 ?_
                refine tw_iload 5 dX10_country_140 rfl ?_
                refine tw_i2l dX10_country_142 ?_
                refine tw_nml (fun v387 ev387 => ?_)
                refine tw_ladd dX10_country_143 ?_
                refine tw_nml (fun v388 ev388 => ?_)
                refine tw_last dX10_country_144 f384 (vp_in_nI (n := 1) (by decide) (by decide)) ?_
                obtain ⟨h389, eh389⟩ : ∃ z : tw_H, z = tw_up h353 cm_365 (.inl (d.2 1, 2, .inr (.inl (vp_updL F385 (1 : Int32).toNatClampNeg v388)))) := ⟨_, rfl⟩
                rw [← eh389]
                have sp390 : tw_sp d τ h g τ271 h389 := by rw [eh389]; exact sp354.set k374 (by decide) ⟨_, rfl⟩
                have f391 : h389 q261 = some (.inr (11, [.int r, .int ct, .ref v272, .ref o273, .ref t274])) := by rw [eh389, tw_up_n (fun q => absurd (z276) (by rw [q, k374]; decide))]; exact f355
                refine tw_aload_n 1 dX10_country_145 rfl rfl ?_
                obtain ⟨e392, f393, th_394, td_395, ds_396, fr_397, ca_398, us_399, wo_400, cm_401, lc_402, lh_403, ld_404, rfl, k405, k406, k407, k408, k409, k410, k411, k412, k413, k414, k415, k416, k417, k418⟩ := sp390.1 x 36 k281 (by decide)
                refine tw_get (v := .ref lc_402) rfl in_14 9 dX10_country_146 w_1160 rfl (by decide) f393 rfl ?_
                refine tw_aload 0 dX10_country_149 rfl ?_
                obtain ⟨τ419, eτ419⟩ : ∃ z : tw_K, z = tw_ku τ271 q261 21 := ⟨_, rfl⟩
                have le420 : tw_le τ271 τ419 := by rw [eτ419]; exact tw_ku_le z276
                have k421 : τ419 x = 36 := le420.k k281 (by decide)
                have k422 : τ419 ds_177 = 34 := le420.k k282 (by decide)
                have k423 : τ419 fr_178 = 34 := le420.k k283 (by decide)
                have k424 : τ419 ca_179 = 31 := le420.k k284 (by decide)
                have k425 : τ419 us_180 = 31 := le420.k k285 (by decide)
                have k426 : τ419 wo_181 = 31 := le420.k k286 (by decide)
                have k427 : τ419 cm_182 = 31 := le420.k k287 (by decide)
                have k428 : τ419 lc_183 = 24 := le420.k k288 (by decide)
                have k429 : τ419 lh_184 = 25 := le420.k k289 (by decide)
                have k430 : τ419 ld_185 = 26 := le420.k k290 (by decide)
                have k431 : τ419 ds_216 = 34 := le420.k k291 (by decide)
                have k432 : τ419 fr_217 = 34 := le420.k k292 (by decide)
                have k433 : τ419 ca_218 = 31 := le420.k k293 (by decide)
                have k434 : τ419 us_219 = 31 := le420.k k294 (by decide)
                have k435 : τ419 wo_220 = 31 := le420.k k295 (by decide)
                have k436 : τ419 cm_221 = 31 := le420.k k296 (by decide)
                have k437 : τ419 lc_222 = 24 := le420.k k297 (by decide)
                have k438 : τ419 lh_223 = 25 := le420.k k298 (by decide)
                have k439 : τ419 ld_224 = 26 := le420.k k299 (by decide)
                have k440 : τ419 v272 = 31 := le420.k k277 (by decide)
                have k441 : τ419 o273 = 32 := le420.k k278 (by decide)
                have k442 : τ419 t274 = 33 := le420.k k279 (by decide)
                have k443 : τ419 ds_324 = 34 := le420.k k333 (by decide)
                have k444 : τ419 fr_325 = 34 := le420.k k334 (by decide)
                have k445 : τ419 ca_326 = 31 := le420.k k335 (by decide)
                have k446 : τ419 us_327 = 31 := le420.k k336 (by decide)
                have k447 : τ419 wo_328 = 31 := le420.k k337 (by decide)
                have k448 : τ419 cm_329 = 31 := le420.k k338 (by decide)
                have k449 : τ419 lc_330 = 24 := le420.k k339 (by decide)
                have k450 : τ419 lh_331 = 25 := le420.k k340 (by decide)
                have k451 : τ419 ld_332 = 26 := le420.k k341 (by decide)
                have k452 : τ419 ds_360 = 34 := le420.k k369 (by decide)
                have k453 : τ419 fr_361 = 34 := le420.k k370 (by decide)
                have k454 : τ419 ca_362 = 31 := le420.k k371 (by decide)
                have k455 : τ419 us_363 = 31 := le420.k k372 (by decide)
                have k456 : τ419 wo_364 = 31 := le420.k k373 (by decide)
                have k457 : τ419 cm_365 = 31 := le420.k k374 (by decide)
                have k458 : τ419 lc_366 = 24 := le420.k k375 (by decide)
                have k459 : τ419 lh_367 = 25 := le420.k k376 (by decide)
                have k460 : τ419 ld_368 = 26 := le420.k k377 (by decide)
                have k461 : τ419 ds_396 = 34 := le420.k k405 (by decide)
                have k462 : τ419 fr_397 = 34 := le420.k k406 (by decide)
                have k463 : τ419 ca_398 = 31 := le420.k k407 (by decide)
                have k464 : τ419 us_399 = 31 := le420.k k408 (by decide)
                have k465 : τ419 wo_400 = 31 := le420.k k409 (by decide)
                have k466 : τ419 cm_401 = 31 := le420.k k410 (by decide)
                have k467 : τ419 lc_402 = 24 := le420.k k411 (by decide)
                have k468 : τ419 lh_403 = 25 := le420.k k412 (by decide)
                have k469 : τ419 ld_404 = 26 := le420.k k413 (by decide)
                have sp470 : tw_sp d τ h g τ419 h389 := by rw [eτ419]; exact sp390.ty n264 z276 f391 (by rw [← eτ419]; exact ⟨r, ct, v272, o273, t274, rfl, k440, k441, k442, q1a, q1b⟩)
                have k471 : τ419 q261 = 21 := by rw [eτ419]; exact tw_ku_s
                obtain ⟨e472, f473, ⟨el474, rfl, k475⟩, k476⟩ := sp470.1 lc_402 24 k467 (by decide)
                have hb9 : g.2 3 + 1 ≤ 4 := (tw_n4 c247 k414 (by decide))
                rcases k475 with k475p | k475p
                · obtain ⟨pa, pn, pf⟩ := k475p
                  subst pa
                  have f9 : h389 lc_402 = some (.inr (3, [.int (g.1 3), .ref (d.2 102), .int (nI 0)])) := by have z := f473; rw [pn] at z; exact z
                  refine tw_bi (tw_callV (M := mX10_country) (pc := 151) okJx4a65c_add_9ea2d dX10_country_151 w_1238 rfl f473 [.ref q261] [] rfl rfl ⟨by decide, by decide⟩ (Nat.le_of_ble_eq_true rfl) (c_add_new d h389 lc_402 (g.1 3) f9 q261 11 _ _ rfl (ng_11) f391 (by decide)) 5 36 (Nat.le_of_ble_eq_true rfl) (Nat.le_of_ble_eq_true rfl)) (fun r9 h477 q9 => ?_) (fun E h1 q => q.elim)
                  obtain ⟨r8, hr8, q1, q2, q3⟩ := q9
                  obtain ⟨g9, τ9, ⟨hga, hg1⟩, sp9⟩ := tw_gadd24 (F := fun _ => none) sp470.1 k467 k471 hb9 (fun j hj => by rw [pn] at hj; exact absurd hj (Nat.not_lt_zero _)) (Or.inr ⟨hr8, pf⟩) (by rw [pn]; exact q1) (by rw [pn]; exact q2) q3
                  have sp478 := sp470.tr sp9
                  have k479 : τ9 x = 36 := sp9.2.1.k k421 (by decide)
                  have k480 : τ9 ds_177 = 34 := sp9.2.1.k k422 (by decide)
                  have k481 : τ9 fr_178 = 34 := sp9.2.1.k k423 (by decide)
                  have k482 : τ9 ca_179 = 31 := sp9.2.1.k k424 (by decide)
                  have k483 : τ9 us_180 = 31 := sp9.2.1.k k425 (by decide)
                  have k484 : τ9 wo_181 = 31 := sp9.2.1.k k426 (by decide)
                  have k485 : τ9 cm_182 = 31 := sp9.2.1.k k427 (by decide)
                  have k486 : τ9 lc_183 = 24 := sp9.2.1.k k428 (by decide)
                  have k487 : τ9 lh_184 = 25 := sp9.2.1.k k429 (by decide)
                  have k488 : τ9 ld_185 = 26 := sp9.2.1.k k430 (by decide)
                  have k489 : τ9 ds_216 = 34 := sp9.2.1.k k431 (by decide)
                  have k490 : τ9 fr_217 = 34 := sp9.2.1.k k432 (by decide)
                  have k491 : τ9 ca_218 = 31 := sp9.2.1.k k433 (by decide)
                  have k492 : τ9 us_219 = 31 := sp9.2.1.k k434 (by decide)
                  have k493 : τ9 wo_220 = 31 := sp9.2.1.k k435 (by decide)
                  have k494 : τ9 cm_221 = 31 := sp9.2.1.k k436 (by decide)
                  have k495 : τ9 lc_222 = 24 := sp9.2.1.k k437 (by decide)
                  have k496 : τ9 lh_223 = 25 := sp9.2.1.k k438 (by decide)
                  have k497 : τ9 ld_224 = 26 := sp9.2.1.k k439 (by decide)
                  have k498 : τ9 v272 = 31 := sp9.2.1.k k440 (by decide)
                  have k499 : τ9 o273 = 32 := sp9.2.1.k k441 (by decide)
                  have k500 : τ9 t274 = 33 := sp9.2.1.k k442 (by decide)
                  have k501 : τ9 ds_324 = 34 := sp9.2.1.k k443 (by decide)
                  have k502 : τ9 fr_325 = 34 := sp9.2.1.k k444 (by decide)
                  have k503 : τ9 ca_326 = 31 := sp9.2.1.k k445 (by decide)
                  have k504 : τ9 us_327 = 31 := sp9.2.1.k k446 (by decide)
                  have k505 : τ9 wo_328 = 31 := sp9.2.1.k k447 (by decide)
                  have k506 : τ9 cm_329 = 31 := sp9.2.1.k k448 (by decide)
                  have k507 : τ9 lc_330 = 24 := sp9.2.1.k k449 (by decide)
                  have k508 : τ9 lh_331 = 25 := sp9.2.1.k k450 (by decide)
                  have k509 : τ9 ld_332 = 26 := sp9.2.1.k k451 (by decide)
                  have k510 : τ9 ds_360 = 34 := sp9.2.1.k k452 (by decide)
                  have k511 : τ9 fr_361 = 34 := sp9.2.1.k k453 (by decide)
                  have k512 : τ9 ca_362 = 31 := sp9.2.1.k k454 (by decide)
                  have k513 : τ9 us_363 = 31 := sp9.2.1.k k455 (by decide)
                  have k514 : τ9 wo_364 = 31 := sp9.2.1.k k456 (by decide)
                  have k515 : τ9 cm_365 = 31 := sp9.2.1.k k457 (by decide)
                  have k516 : τ9 lc_366 = 24 := sp9.2.1.k k458 (by decide)
                  have k517 : τ9 lh_367 = 25 := sp9.2.1.k k459 (by decide)
                  have k518 : τ9 ld_368 = 26 := sp9.2.1.k k460 (by decide)
                  have k519 : τ9 ds_396 = 34 := sp9.2.1.k k461 (by decide)
                  have k520 : τ9 fr_397 = 34 := sp9.2.1.k k462 (by decide)
                  have k521 : τ9 ca_398 = 31 := sp9.2.1.k k463 (by decide)
                  have k522 : τ9 us_399 = 31 := sp9.2.1.k k464 (by decide)
                  have k523 : τ9 wo_400 = 31 := sp9.2.1.k k465 (by decide)
                  have k524 : τ9 cm_401 = 31 := sp9.2.1.k k466 (by decide)
                  have k525 : τ9 lc_402 = 24 := sp9.2.1.k k467 (by decide)
                  have k526 : τ9 lh_403 = 25 := sp9.2.1.k k468 (by decide)
                  have k527 : τ9 ld_404 = 26 := sp9.2.1.k k469 (by decide)
                  have k528 : τ9 q261 = 21 := sp9.2.1.k k471 (by decide)
                  refine tw_pop dX10_country_154 rfl ?_
                  refine tw_aload_n 1 dX10_country_155 rfl rfl ?_
                  obtain ⟨e529, f530, th_531, td_532, ds_533, fr_534, ca_535, us_536, wo_537, cm_538, lc_539, lh_540, ld_541, rfl, k542, k543, k544, k545, k546, k547, k548, k549, k550, k551, k552, k553, k554, k555⟩ := sp478.1 x 36 k479 (by decide)
                  refine tw_get (v := .ref lc_539) rfl in_14 9 dX10_country_156 w_1160 rfl (by decide) f530 rfl ?_
                  obtain ⟨e556, f557, ⟨el558, rfl, k559⟩, k560⟩ := sp478.1 lc_539 24 k548 (by decide)
                  refine tw_bi (tw_callV (M := mX10_country) (pc := 159) okJx4a65c_size_8abf5 dX10_country_159 w_1208 rfl f557 [] [] rfl rfl ⟨by decide, by decide⟩ (Nat.le_of_ble_eq_true rfl) (c24_size d g9 τ9 h477 sp478.1 lc_539 k548) 5 36 (Nat.le_of_ble_eq_true rfl) (Nat.le_of_ble_eq_true rfl)) (fun r563 h562 q561 => ?_) (fun E h1 q => q.elim)
                  obtain ⟨q561e, q561r⟩ := q561
                  rw [q561e, q561r]
                  refine tw_iconst (v := 1) dX10_country_162 (by decide) ?_
                  refine tw_isub dX10_country_163 ?_
                  refine tw_nmi (fun v564 ev564 => ?_)
                  exact tw_iret dX10_country_164 rfl (Or.inl ⟨_, rfl, ⟨_, _, hga, sp478⟩⟩)
                · obtain ⟨e9, fa9, ⟨F9, rfl, hc9, h49⟩, un9⟩ := sp470.1 el474 27 k475p (by decide)
                  refine tw_bi (tw_callV (M := mX10_country) (pc := 151) okJx4a65c_add_9ea2d dX10_country_151 w_1238 rfl f473 [.ref q261] [] rfl rfl ⟨by decide, by decide⟩ (Nat.le_of_ble_eq_true rfl) (c_add_old d h389 lc_402 el474 (g.2 3) F9 (g.1 3) (by omega) f473 fa9 q261 11 _ _ rfl (ng_11) f391 (by decide)) 5 36 (Nat.le_of_ble_eq_true rfl) (Nat.le_of_ble_eq_true rfl)) (fun r9 h565 q9 => ?_) (fun E h1 q => q.elim)
                  obtain ⟨q1, q2, q3⟩ := q9
                  obtain ⟨g9, τ9, ⟨hga, hg1⟩, sp9⟩ := tw_gadd24 sp470.1 k467 k471 hb9 h49 (Or.inl k475p) q1 q2 q3
                  have sp566 := sp470.tr sp9
                  have k567 : τ9 x = 36 := sp9.2.1.k k421 (by decide)
                  have k568 : τ9 ds_177 = 34 := sp9.2.1.k k422 (by decide)
                  have k569 : τ9 fr_178 = 34 := sp9.2.1.k k423 (by decide)
                  have k570 : τ9 ca_179 = 31 := sp9.2.1.k k424 (by decide)
                  have k571 : τ9 us_180 = 31 := sp9.2.1.k k425 (by decide)
                  have k572 : τ9 wo_181 = 31 := sp9.2.1.k k426 (by decide)
                  have k573 : τ9 cm_182 = 31 := sp9.2.1.k k427 (by decide)
                  have k574 : τ9 lc_183 = 24 := sp9.2.1.k k428 (by decide)
                  have k575 : τ9 lh_184 = 25 := sp9.2.1.k k429 (by decide)
                  have k576 : τ9 ld_185 = 26 := sp9.2.1.k k430 (by decide)
                  have k577 : τ9 ds_216 = 34 := sp9.2.1.k k431 (by decide)
                  have k578 : τ9 fr_217 = 34 := sp9.2.1.k k432 (by decide)
                  have k579 : τ9 ca_218 = 31 := sp9.2.1.k k433 (by decide)
                  have k580 : τ9 us_219 = 31 := sp9.2.1.k k434 (by decide)
                  have k581 : τ9 wo_220 = 31 := sp9.2.1.k k435 (by decide)
                  have k582 : τ9 cm_221 = 31 := sp9.2.1.k k436 (by decide)
                  have k583 : τ9 lc_222 = 24 := sp9.2.1.k k437 (by decide)
                  have k584 : τ9 lh_223 = 25 := sp9.2.1.k k438 (by decide)
                  have k585 : τ9 ld_224 = 26 := sp9.2.1.k k439 (by decide)
                  have k586 : τ9 v272 = 31 := sp9.2.1.k k440 (by decide)
                  have k587 : τ9 o273 = 32 := sp9.2.1.k k441 (by decide)
                  have k588 : τ9 t274 = 33 := sp9.2.1.k k442 (by decide)
                  have k589 : τ9 ds_324 = 34 := sp9.2.1.k k443 (by decide)
                  have k590 : τ9 fr_325 = 34 := sp9.2.1.k k444 (by decide)
                  have k591 : τ9 ca_326 = 31 := sp9.2.1.k k445 (by decide)
                  have k592 : τ9 us_327 = 31 := sp9.2.1.k k446 (by decide)
                  have k593 : τ9 wo_328 = 31 := sp9.2.1.k k447 (by decide)
                  have k594 : τ9 cm_329 = 31 := sp9.2.1.k k448 (by decide)
                  have k595 : τ9 lc_330 = 24 := sp9.2.1.k k449 (by decide)
                  have k596 : τ9 lh_331 = 25 := sp9.2.1.k k450 (by decide)
                  have k597 : τ9 ld_332 = 26 := sp9.2.1.k k451 (by decide)
                  have k598 : τ9 ds_360 = 34 := sp9.2.1.k k452 (by decide)
                  have k599 : τ9 fr_361 = 34 := sp9.2.1.k k453 (by decide)
                  have k600 : τ9 ca_362 = 31 := sp9.2.1.k k454 (by decide)
                  have k601 : τ9 us_363 = 31 := sp9.2.1.k k455 (by decide)
                  have k602 : τ9 wo_364 = 31 := sp9.2.1.k k456 (by decide)
                  have k603 : τ9 cm_365 = 31 := sp9.2.1.k k457 (by decide)
                  have k604 : τ9 lc_366 = 24 := sp9.2.1.k k458 (by decide)
                  have k605 : τ9 lh_367 = 25 := sp9.2.1.k k459 (by decide)
                  have k606 : τ9 ld_368 = 26 := sp9.2.1.k k460 (by decide)
                  have k607 : τ9 ds_396 = 34 := sp9.2.1.k k461 (by decide)
                  have k608 : τ9 fr_397 = 34 := sp9.2.1.k k462 (by decide)
                  have k609 : τ9 ca_398 = 31 := sp9.2.1.k k463 (by decide)
                  have k610 : τ9 us_399 = 31 := sp9.2.1.k k464 (by decide)
                  have k611 : τ9 wo_400 = 31 := sp9.2.1.k k465 (by decide)
                  have k612 : τ9 cm_401 = 31 := sp9.2.1.k k466 (by decide)
                  have k613 : τ9 lc_402 = 24 := sp9.2.1.k k467 (by decide)
                  have k614 : τ9 lh_403 = 25 := sp9.2.1.k k468 (by decide)
                  have k615 : τ9 ld_404 = 26 := sp9.2.1.k k469 (by decide)
                  have k616 : τ9 q261 = 21 := sp9.2.1.k k471 (by decide)
                  refine tw_pop dX10_country_154 rfl ?_
                  refine tw_aload_n 1 dX10_country_155 rfl rfl ?_
                  obtain ⟨e617, f618, th_619, td_620, ds_621, fr_622, ca_623, us_624, wo_625, cm_626, lc_627, lh_628, ld_629, rfl, k630, k631, k632, k633, k634, k635, k636, k637, k638, k639, k640, k641, k642, k643⟩ := sp566.1 x 36 k567 (by decide)
                  refine tw_get (v := .ref lc_627) rfl in_14 9 dX10_country_156 w_1160 rfl (by decide) f618 rfl ?_
                  obtain ⟨e644, f645, ⟨el646, rfl, k647⟩, k648⟩ := sp566.1 lc_627 24 k636 (by decide)
                  refine tw_bi (tw_callV (M := mX10_country) (pc := 159) okJx4a65c_size_8abf5 dX10_country_159 w_1208 rfl f645 [] [] rfl rfl ⟨by decide, by decide⟩ (Nat.le_of_ble_eq_true rfl) (c24_size d g9 τ9 h565 sp566.1 lc_627 k636) 5 36 (Nat.le_of_ble_eq_true rfl) (Nat.le_of_ble_eq_true rfl)) (fun r651 h650 q649 => ?_) (fun E h1 q => q.elim)
                  obtain ⟨q649e, q649r⟩ := q649
                  rw [q649e, q649r]
                  refine tw_iconst (v := 1) dX10_country_162 (by decide) ?_
                  refine tw_isub dX10_country_163 ?_
                  refine tw_nmi (fun v652 ev652 => ?_)
                  exact tw_iret dX10_country_164 rfl (Or.inl ⟨_, rfl, ⟨_, _, hga, sp566⟩⟩)
            · refine tw_iconst (v := 1) dX10_country_68 (by decide) ?_
              refine tw_goto 73 dX10_country_69 (by decide) ?_
              refine tw_iconst (v := 2) dX10_country_73 (by decide) ?_
              refine tw_bi (tw_callV (M := mX10_country) (pc := 74) okX10_refuse dX10_country_74 w_1204 rfl f213 [.int 1, .int 2] [] rfl rfl ⟨by decide, by decide⟩ (Nat.le_of_ble_eq_true rfl) (c_X10_refuse d g τ h201 sp208.1 x kx 1 2 (by decide)) 10 60 (Nat.le_of_ble_eq_true rfl) (Nat.le_of_ble_eq_true rfl)) (fun r655 h654 q653 => ?_) (fun E h1 q => q.elim)
              obtain ⟨e656, he657, hs658, hr659, h3660⟩ := q653
              have sp661 : tw_sp d τ h g τ h654 := by rw [he657]; exact sp208.set kx (by decide) hs658
              have f662 : h654 lc_222 = some (.inr (3, [.int (g.1 3), .ref el241, .int (nI (g.2 3))])) := by rw [he657, tw_up_n (fun q => absurd (k231) (by rw [q, kx]; decide))]; exact f240
              rcases hr659 with ei663 | ⟨ei663, ei663b⟩
              · rw [ei663]
                refine tw_if_eq 82 dX10_country_77 (by decide) (fun c664 => absurd c664 (by decide)) (fun _ => ?_)
                refine tw_iconst (v := 0) dX10_country_80 (by decide) ?_
                exact tw_iret dX10_country_81 rfl (Or.inl ⟨_, rfl, ⟨_, _, ⟨rfl, rfl⟩, sp661⟩⟩)
              · exact absurd ei663b (by decide)

set_option maxHeartbeats 4000000 in
set_option maxRecDepth 100000 in
theorem c_X10_house (d : tw_D) (g : tw_G) (τ : tw_K) (h : tw_H) (hw : tw_wt d g τ h) (x : Nat) (kx : τ x = 36) (a : Int32) (go : Int32) (si : Int32) : tw_Ct d mX10_house 10 60 [.ref x, .int a, .int go, .int si] h (tw_qi (fun r h1 => ∃ g1 τ1, tw_ga g g1 ∧ tw_sp d τ h g1 τ1 h1) tw_nx) := by
  refine tw_of (by decide +kernel) (Nat.le_of_ble_eq_true rfl) ?_
  show tw_W d mX10_house _ 0 [(0, .ref x), (1, .int a), (2, .int go), (3, .int si)] [] h 10 60
  have sp0 := tw_sp.rf hw
  refine tw_aload_n 0 dX10_house_0 rfl rfl ?_
  refine tw_aload_n 0 dX10_house_1 rfl rfl ?_
  refine tw_iload_n 1 dX10_house_2 rfl rfl ?_
  obtain ⟨e1, f2, th_3, td_4, ds_5, fr_6, ca_7, us_8, wo_9, cm_10, lc_11, lh_12, ld_13, rfl, k14, k15, k16, k17, k18, k19, k20, k21, k22, k23, k24, k25, k26, k27⟩ := sp0.1 x 36 kx (by decide)
  refine tw_bi (tw_callV (M := mX10_house) (pc := 3) okX10_isNoCountry dX10_house_3 w_1292 rfl f2 [.int a] [.ref x] rfl rfl ⟨by decide, by decide⟩ (Nat.le_of_ble_eq_true rfl) (c_X10_isNoCountry d g τ h sp0.1 x kx a) 10 60 (Nat.le_of_ble_eq_true rfl) (Nat.le_of_ble_eq_true rfl)) (fun r30 h29 q28 => ?_) (fun E h1 q => q.elim)
  obtain ⟨q28e, q28d⟩ := q28
  rw [q28e]
  rcases q28d with q28r | ⟨q28r, j31, q28j, q28k⟩
  · rw [q28r]
    refine tw_iconst (v := 1) dX10_house_6 (by decide) ?_
    refine tw_bi (tw_callV (M := mX10_house) (pc := 7) okX10_start dX10_house_7 w_1200 rfl f2 [.int 1, .int 1] [] rfl rfl ⟨by decide, by decide⟩ (Nat.le_of_ble_eq_true rfl) (c_X10_start d g τ h sp0.1 x kx 1 1 (by decide)) 10 60 (Nat.le_of_ble_eq_true rfl) (Nat.le_of_ble_eq_true rfl)) (fun r34 h33 q32 => ?_) (fun E h1 q => q.elim)
    obtain ⟨e35, he36, hs37, hr38, h339⟩ := q32
    have sp40 : tw_sp d τ h g τ h33 := by rw [he36]; exact sp0.set kx (by decide) hs37
    rcases hr38 with ei41 | ⟨ei41, ei41b⟩
    · rw [ei41]
      refine tw_if_ne 71 dX10_house_10 (by decide) (fun _ => ?_) (fun c42 => absurd c42 (by decide))
      refine tw_iconst (v := 0) dX10_house_71 (by decide) ?_
      exact tw_iret dX10_house_72 rfl (Or.inl ⟨_, rfl, ⟨_, _, ⟨rfl, rfl⟩, sp40⟩⟩)
    · exact absurd ei41b (by decide)
  · rw [q28r]
    subst q28k
    refine tw_iconst (v := 1) dX10_house_6 (by decide) ?_
    refine tw_bi (tw_callV (M := mX10_house) (pc := 7) okX10_start dX10_house_7 w_1200 rfl f2 [.int 0, .int 1] [] rfl rfl ⟨by decide, by decide⟩ (Nat.le_of_ble_eq_true rfl) (c_X10_start d g τ h sp0.1 x kx 0 1 (by decide)) 10 60 (Nat.le_of_ble_eq_true rfl) (Nat.le_of_ble_eq_true rfl)) (fun r45 h44 q43 => ?_) (fun E h1 q => q.elim)
    obtain ⟨e46, he47, hs48, hr49, h350⟩ := q43
    have sp51 : tw_sp d τ h g τ h44 := by rw [he47]; exact sp0.set kx (by decide) hs48
    rcases hr49 with ei52 | ⟨ei52, ei52b⟩
    · rw [ei52]
      refine tw_if_ne 71 dX10_house_10 (by decide) (fun _ => ?_) (fun c53 => absurd c53 (by decide))
      refine tw_iconst (v := 0) dX10_house_71 (by decide) ?_
      exact tw_iret dX10_house_72 rfl (Or.inl ⟨_, rfl, ⟨_, _, ⟨rfl, rfl⟩, sp51⟩⟩)
    · rw [ei52]
      refine tw_if_ne 71 dX10_house_10 (by decide) (fun c54 => absurd (by decide) c54) (fun _ => ?_)
      refine tw_aload_n 0 dX10_house_13 rfl rfl ?_
      refine tw_iload_n 2 dX10_house_14 rfl rfl ?_
      refine tw_iconst (v := 0) dX10_house_15 (by decide) ?_
      refine tw_ldc (v := 99999) dX10_house_16 w_1199 ?_
      refine tw_bi (tw_callS (M := mX10_house) (pc := 18) okX10_isIn dX10_house_18 w_1196 [.int go, .int 0, .int 99999] [.ref x] rfl rfl ⟨by decide, by decide⟩ (Nat.le_of_ble_eq_true rfl) (c_X10_isIn d g τ h44 sp51.1 go 0 99999) 10 60 (Nat.le_of_ble_eq_true rfl) (Nat.le_of_ble_eq_true rfl)) (fun r57 h56 q55 => ?_) (fun E h1 q => q.elim)
      obtain ⟨q55e, q55d⟩ := q55
      rw [q55e]
      rcases q55d with ⟨q55r, q55n⟩ | ⟨q55r, q55a, q55b⟩
      · rw [q55r]
        refine tw_if_eq 34 dX10_house_21 (by decide) (fun _ => ?_) (fun c58 => absurd (by decide) c58)
        refine tw_iconst (v := 1) dX10_house_34 (by decide) ?_
        refine tw_goto 39 dX10_house_35 (by decide) ?_
        refine tw_iconst (v := 2) dX10_house_39 (by decide) ?_
        obtain ⟨e59, f60, th_61, td_62, ds_63, fr_64, ca_65, us_66, wo_67, cm_68, lc_69, lh_70, ld_71, rfl, k72, k73, k74, k75, k76, k77, k78, k79, k80, k81, k82, k83, k84, k85⟩ := sp51.1 x 36 kx (by decide)
        refine tw_bi (tw_callV (M := mX10_house) (pc := 40) okX10_refuse dX10_house_40 w_1204 rfl f60 [.int 1, .int 2] [] rfl rfl ⟨by decide, by decide⟩ (Nat.le_of_ble_eq_true rfl) (c_X10_refuse d g τ h44 sp51.1 x kx 1 2 (by decide)) 10 60 (Nat.le_of_ble_eq_true rfl) (Nat.le_of_ble_eq_true rfl)) (fun r88 h87 q86 => ?_) (fun E h1 q => q.elim)
        obtain ⟨e89, he90, hs91, hr92, h393⟩ := q86
        have sp94 : tw_sp d τ h g τ h87 := by rw [he90]; exact sp51.set kx (by decide) hs91
        rcases hr92 with ei95 | ⟨ei95, ei95b⟩
        · rw [ei95]
          refine tw_if_ne 71 dX10_house_43 (by decide) (fun _ => ?_) (fun c96 => absurd c96 (by decide))
          refine tw_iconst (v := 0) dX10_house_71 (by decide) ?_
          exact tw_iret dX10_house_72 rfl (Or.inl ⟨_, rfl, ⟨_, _, ⟨rfl, rfl⟩, sp94⟩⟩)
        · exact absurd ei95b (by decide)
      · rw [q55r]
        refine tw_if_eq 34 dX10_house_21 (by decide) (fun c97 => absurd c97 (by decide)) (fun _ => ?_)
        refine tw_iload_n 3 dX10_house_24 rfl rfl ?_
        refine tw_iconst (v := 0) dX10_house_25 (by decide) ?_
        refine tw_ldc (v := 99999) dX10_house_26 w_1199 ?_
        refine tw_bi (tw_callS (M := mX10_house) (pc := 28) okX10_isIn dX10_house_28 w_1196 [.int si, .int 0, .int 99999] [.ref x] rfl rfl ⟨by decide, by decide⟩ (Nat.le_of_ble_eq_true rfl) (c_X10_isIn d g τ h44 sp51.1 si 0 99999) 10 60 (Nat.le_of_ble_eq_true rfl) (Nat.le_of_ble_eq_true rfl)) (fun r100 h99 q98 => ?_) (fun E h1 q => q.elim)
        obtain ⟨q98e, q98d⟩ := q98
        rw [q98e]
        rcases q98d with ⟨q98r, q98n⟩ | ⟨q98r, q98a, q98b⟩
        · rw [q98r]
          refine tw_if_ne 38 dX10_house_31 (by decide) (fun c101 => absurd (by decide) c101) (fun _ => ?_)
          refine tw_iconst (v := 1) dX10_house_34 (by decide) ?_
          refine tw_goto 39 dX10_house_35 (by decide) ?_
          refine tw_iconst (v := 2) dX10_house_39 (by decide) ?_
          obtain ⟨e102, f103, th_104, td_105, ds_106, fr_107, ca_108, us_109, wo_110, cm_111, lc_112, lh_113, ld_114, rfl, k115, k116, k117, k118, k119, k120, k121, k122, k123, k124, k125, k126, k127, k128⟩ := sp51.1 x 36 kx (by decide)
          refine tw_bi (tw_callV (M := mX10_house) (pc := 40) okX10_refuse dX10_house_40 w_1204 rfl f103 [.int 1, .int 2] [] rfl rfl ⟨by decide, by decide⟩ (Nat.le_of_ble_eq_true rfl) (c_X10_refuse d g τ h44 sp51.1 x kx 1 2 (by decide)) 10 60 (Nat.le_of_ble_eq_true rfl) (Nat.le_of_ble_eq_true rfl)) (fun r131 h130 q129 => ?_) (fun E h1 q => q.elim)
          obtain ⟨e132, he133, hs134, hr135, h3136⟩ := q129
          have sp137 : tw_sp d τ h g τ h130 := by rw [he133]; exact sp51.set kx (by decide) hs134
          rcases hr135 with ei138 | ⟨ei138, ei138b⟩
          · rw [ei138]
            refine tw_if_ne 71 dX10_house_43 (by decide) (fun _ => ?_) (fun c139 => absurd c139 (by decide))
            refine tw_iconst (v := 0) dX10_house_71 (by decide) ?_
            exact tw_iret dX10_house_72 rfl (Or.inl ⟨_, rfl, ⟨_, _, ⟨rfl, rfl⟩, sp137⟩⟩)
          · exact absurd ei138b (by decide)
        · rw [q98r]
          refine tw_if_ne 38 dX10_house_31 (by decide) (fun _ => ?_) (fun c140 => absurd c140 (by decide))
          refine tw_iconst (v := 0) dX10_house_38 (by decide) ?_
          refine tw_iconst (v := 2) dX10_house_39 (by decide) ?_
          obtain ⟨e141, f142, th_143, td_144, ds_145, fr_146, ca_147, us_148, wo_149, cm_150, lc_151, lh_152, ld_153, rfl, k154, k155, k156, k157, k158, k159, k160, k161, k162, k163, k164, k165, k166, k167⟩ := sp51.1 x 36 kx (by decide)
          refine tw_bi (tw_callV (M := mX10_house) (pc := 40) okX10_refuse dX10_house_40 w_1204 rfl f142 [.int 0, .int 2] [] rfl rfl ⟨by decide, by decide⟩ (Nat.le_of_ble_eq_true rfl) (c_X10_refuse d g τ h44 sp51.1 x kx 0 2 (by decide)) 10 60 (Nat.le_of_ble_eq_true rfl) (Nat.le_of_ble_eq_true rfl)) (fun r170 h169 q168 => ?_) (fun E h1 q => q.elim)
          obtain ⟨e171, he172, hs173, hr174, h3175⟩ := q168
          have sp176 : tw_sp d τ h g τ h169 := by rw [he172]; exact sp51.set kx (by decide) hs173
          rcases hr174 with ei177 | ⟨ei177, ei177b⟩
          · rw [ei177]
            refine tw_if_ne 71 dX10_house_43 (by decide) (fun _ => ?_) (fun c178 => absurd c178 (by decide))
            refine tw_iconst (v := 0) dX10_house_71 (by decide) ?_
            exact tw_iret dX10_house_72 rfl (Or.inl ⟨_, rfl, ⟨_, _, ⟨rfl, rfl⟩, sp176⟩⟩)
          · rw [ei177]
            refine tw_if_ne 71 dX10_house_43 (by decide) (fun c179 => absurd (by decide) c179) (fun _ => ?_)
            refine tw_aload_n 0 dX10_house_46 rfl rfl ?_
            refine tw_aload_n 0 dX10_house_47 rfl rfl ?_
            obtain ⟨e180, f181, th_182, td_183, ds_184, fr_185, ca_186, us_187, wo_188, cm_189, lc_190, lh_191, ld_192, rfl, k193, k194, k195, k196, k197, k198, k199, k200, k201, k202, k203, k204, k205, k206⟩ := sp176.1 x 36 kx (by decide)
            refine tw_get (v := .ref lh_191) rfl in_14 10 dX10_house_48 w_1161 rfl (by decide) f181 rfl ?_
            obtain ⟨e207, f208, ⟨el209, rfl, k210⟩, k211⟩ := sp176.1 lh_191 25 k200 (by decide)
            refine tw_bi (tw_callV (M := mX10_house) (pc := 51) okJx4a65c_size_8abf5 dX10_house_51 w_1208 rfl f208 [] [.ref x] rfl rfl ⟨by decide, by decide⟩ (Nat.le_of_ble_eq_true rfl) (c25_size d g τ h169 sp176.1 lh_191 k200) 10 60 (Nat.le_of_ble_eq_true rfl) (Nat.le_of_ble_eq_true rfl)) (fun r214 h213 q212 => ?_) (fun E h1 q => q.elim)
            obtain ⟨q212e, q212r⟩ := q212
            rw [q212e, q212r]
            refine tw_bipush (v := 6) dX10_house_54 (by decide) ?_
            refine tw_icmp_ne 63 dX10_house_56 (by decide) (fun c215 => ?_) (fun c215 => ?_)
            · refine tw_iconst (v := 0) dX10_house_63 (by decide) ?_
              refine tw_iconst (v := 3) dX10_house_64 (by decide) ?_
              refine tw_bi (tw_callV (M := mX10_house) (pc := 65) okX10_refuse dX10_house_65 w_1204 rfl f181 [.int 0, .int 3] [] rfl rfl ⟨by decide, by decide⟩ (Nat.le_of_ble_eq_true rfl) (c_X10_refuse d g τ h169 sp176.1 x kx 0 3 (by decide)) 10 60 (Nat.le_of_ble_eq_true rfl) (Nat.le_of_ble_eq_true rfl)) (fun r218 h217 q216 => ?_) (fun E h1 q => q.elim)
              obtain ⟨e219, he220, hs221, hr222, h3223⟩ := q216
              have sp224 : tw_sp d τ h g τ h217 := by rw [he220]; exact sp176.set kx (by decide) hs221
              have f225 : h217 lh_191 = some (.inr (3, [.int (g.1 4), .ref el209, .int (nI (g.2 4))])) := by rw [he220, tw_up_n (fun q => absurd (k200) (by rw [q, kx]; decide))]; exact f208
              rcases hr222 with ei226 | ⟨ei226, ei226b⟩
              · rw [ei226]
                refine tw_if_eq 73 dX10_house_68 (by decide) (fun c227 => absurd c227 (by decide)) (fun _ => ?_)
                refine tw_iconst (v := 0) dX10_house_71 (by decide) ?_
                exact tw_iret dX10_house_72 rfl (Or.inl ⟨_, rfl, ⟨_, _, ⟨rfl, rfl⟩, sp224⟩⟩)
              · rw [ei226]
                refine tw_if_eq 73 dX10_house_68 (by decide) (fun _ => ?_) (fun c228 => absurd (by decide) c228)
                refine tw_new (ci := 13) rfl in_13 tyX9 tyX9_ok dX10_house_73 w_1336 w_1337 w_100 (fs := [.int 0, .int 0, .int 0, .null]) (fun j hj => by rcases (show j = 0 ∨ j = 1 ∨ j = 2 ∨ j = 3 by omega) with rfl | rfl | rfl | rfl <;> rfl) 9 56 (Nat.le_of_ble_eq_true rfl) (Nat.le_of_ble_eq_true rfl) (fun q229 hq230 hA231 => ?_)
                have n232 := sp224.nn hq230
                have z233 := sp224.1.none hq230
                obtain ⟨h234, eh234⟩ : ∃ z : tw_H, z = tw_up h217 q229 (.inr (13, [.int 0, .int 0, .int 0, .null])) := ⟨_, rfl⟩
                rw [← eh234]
                have sp235 : tw_sp d τ h g τ h234 := by rw [eh234]; exact sp224.mk hq230
                have f236 : h234 q229 = some (.inr (13, [.int 0, .int 0, .int 0, .null])) := by rw [eh234]; exact tw_up_s
                refine tw_dup dX10_house_76 rfl ?_
                refine tw_bv (tw_callIN (M := mX10_house) (pc := 77) okX9_init dX10_house_77 w_1338 rfl [] [.ref q229] rfl rfl ⟨by decide, by decide⟩ (Nat.le_of_ble_eq_true rfl) (c_X9_init d g τ h234 sp235.1 q229 z233 f236) 8 54 (Nat.le_of_ble_eq_true rfl) (Nat.le_of_ble_eq_true rfl)) (fun h238 q237 => ?_) (fun E h1 q => q.elim)
                obtain ⟨τ239, p240, q237s, f241, z242, k243⟩ := q237
                have sp244 := sp235.trm n232 q237s
                have k245 : τ239 x = 36 := q237s.2.1.k kx (by decide)
                have k246 : τ239 ds_5 = 34 := q237s.2.1.k k14 (by decide)
                have k247 : τ239 fr_6 = 34 := q237s.2.1.k k15 (by decide)
                have k248 : τ239 ca_7 = 31 := q237s.2.1.k k16 (by decide)
                have k249 : τ239 us_8 = 31 := q237s.2.1.k k17 (by decide)
                have k250 : τ239 wo_9 = 31 := q237s.2.1.k k18 (by decide)
                have k251 : τ239 cm_10 = 31 := q237s.2.1.k k19 (by decide)
                have k252 : τ239 lc_11 = 24 := q237s.2.1.k k20 (by decide)
                have k253 : τ239 lh_12 = 25 := q237s.2.1.k k21 (by decide)
                have k254 : τ239 ld_13 = 26 := q237s.2.1.k k22 (by decide)
                have k255 : τ239 ds_145 = 34 := q237s.2.1.k k154 (by decide)
                have k256 : τ239 fr_146 = 34 := q237s.2.1.k k155 (by decide)
                have k257 : τ239 ca_147 = 31 := q237s.2.1.k k156 (by decide)
                have k258 : τ239 us_148 = 31 := q237s.2.1.k k157 (by decide)
                have k259 : τ239 wo_149 = 31 := q237s.2.1.k k158 (by decide)
                have k260 : τ239 cm_150 = 31 := q237s.2.1.k k159 (by decide)
                have k261 : τ239 lc_151 = 24 := q237s.2.1.k k160 (by decide)
                have k262 : τ239 lh_152 = 25 := q237s.2.1.k k161 (by decide)
                have k263 : τ239 ld_153 = 26 := q237s.2.1.k k162 (by decide)
                have k264 : τ239 ds_184 = 34 := q237s.2.1.k k193 (by decide)
                have k265 : τ239 fr_185 = 34 := q237s.2.1.k k194 (by decide)
                have k266 : τ239 ca_186 = 31 := q237s.2.1.k k195 (by decide)
                have k267 : τ239 us_187 = 31 := q237s.2.1.k k196 (by decide)
                have k268 : τ239 wo_188 = 31 := q237s.2.1.k k197 (by decide)
                have k269 : τ239 cm_189 = 31 := q237s.2.1.k k198 (by decide)
                have k270 : τ239 lc_190 = 24 := q237s.2.1.k k199 (by decide)
                have k271 : τ239 lh_191 = 25 := q237s.2.1.k k200 (by decide)
                have k272 : τ239 ld_192 = 26 := q237s.2.1.k k201 (by decide)
                refine tw_astore [(4, .ref q229), (0, .ref x), (1, .int (nI j31)), (2, .int go), (3, .int si)] dX10_house_80 (by decide) rfl ?_
                refine tw_aload 0 dX10_house_82 rfl ?_
                refine tw_iload_n 2 dX10_house_84 rfl rfl ?_
                refine tw_put rfl in_13 tyX9 tyX9_ok nmX9 0 dX10_house_85 w_1342 rfl (by decide) f241 rfl rfl rfl rfl (Nat.le_of_ble_eq_true rfl) [.int (nI j31), .int (-1), .int (-1), .ref p240] rfl ?_
                obtain ⟨h273, eh273⟩ : ∃ z : tw_H, z = tw_up h238 q229 (.inr (13, [.int (nI j31), .int (-1), .int (-1), .ref p240])) := ⟨_, rfl⟩
                rw [← eh273]
                have sp274 : tw_sp d τ h g τ239 h273 := by rw [eh273]; exact sp244.wl n232 z242
                have f275 : h273 q229 = some (.inr (13, [.int (nI j31), .int (-1), .int (-1), .ref p240])) := by rw [eh273]; exact tw_up_s
                refine tw_aload 0 dX10_house_88 rfl ?_
                refine tw_get (v := .ref p240) rfl in_13 3 dX10_house_90 w_1348 rfl (by decide) f275 rfl ?_
                refine tw_iconst (v := 0) dX10_house_93 (by decide) ?_
                refine tw_iload_n 3 dX10_house_94 rfl rfl ?_
                refine tw_i2l dX10_house_95 ?_
                refine tw_nml (fun v276 ev276 => ?_)
                obtain ⟨e277, f278, F279, rfl⟩ := sp274.1 p240 31 k243 (by decide)
                refine tw_last dX10_house_96 f278 (vp_in_nI (n := 0) (by decide) (by decide)) ?_
                obtain ⟨h280, eh280⟩ : ∃ z : tw_H, z = tw_up h273 p240 (.inl (d.2 1, 2, .inr (.inl (vp_updL F279 (0 : Int32).toNatClampNeg v276)))) := ⟨_, rfl⟩
                rw [← eh280]
                have sp281 : tw_sp d τ h g τ239 h280 := by rw [eh280]; exact sp274.set k243 (by decide) ⟨_, rfl⟩
                have f282 : h280 q229 = some (.inr (13, [.int (nI j31), .int (-1), .int (-1), .ref p240])) := by rw [eh280, tw_up_n (fun q => absurd (z242) (by rw [q, k243]; decide))]; exact f275
                refine tw_aload 0 dX10_house_97 rfl ?_
                refine tw_get (v := .ref p240) rfl in_13 3 dX10_house_99 w_1348 rfl (by decide) f282 rfl ?_
                refine tw_iconst (v := 1) dX10_house_102 (by decide) ?_
                refine tw_iload_n 4 dX10_house_103 rfl rfl ?_
                refine tw_i2l dX10_house_104 ?_
                refine tw_nml (fun v283 ev283 => ?_)
                obtain ⟨e284, f285, F286, rfl⟩ := sp281.1 p240 31 k243 (by decide)
                refine tw_last dX10_house_105 f285 (vp_in_nI (n := 1) (by decide) (by decide)) ?_
                obtain ⟨h287, eh287⟩ : ∃ z : tw_H, z = tw_up h280 p240 (.inl (d.2 1, 2, .inr (.inl (vp_updL F286 (1 : Int32).toNatClampNeg v283)))) := ⟨_, rfl⟩
                rw [← eh287]
                have sp288 : tw_sp d τ h g τ239 h287 := by rw [eh287]; exact sp281.set k243 (by decide) ⟨_, rfl⟩
                have f289 : h287 q229 = some (.inr (13, [.int (nI j31), .int (-1), .int (-1), .ref p240])) := by rw [eh287, tw_up_n (fun q => absurd (z242) (by rw [q, k243]; decide))]; exact f282
                refine tw_aload_n 1 dX10_house_106 rfl rfl ?_
                obtain ⟨e290, f291, th_292, td_293, ds_294, fr_295, ca_296, us_297, wo_298, cm_299, lc_300, lh_301, ld_302, rfl, k303, k304, k305, k306, k307, k308, k309, k310, k311, k312, k313, k314, k315, k316⟩ := sp288.1 x 36 k245 (by decide)
                refine tw_get (v := .ref cm_299) rfl in_14 8 dX10_house_107 w_1159 rfl (by decide) f291 rfl ?_
                refine tw_iconst (v := 0) dX10_house_110 (by decide) ?_
                refine tw_dup2 dX10_house_111 rfl rfl ?_
                obtain ⟨e317, f318, F319, rfl⟩ := sp288.1 cm_299 31 k308 (by decide)
                obtain ⟨v320, ev320⟩ : ∃ y : Int64, F319 (0 : Int32).toNatClampNeg = y := ⟨_, rfl⟩
                refine tw_lald (v := v320) dX10_house_112 f318 (vp_in_nI (n := 0) (by decide) (by decide)) ev320 ?_
                refine tw_iload_n 3 dX10_house_113 rfl rfl ?_
                refine tw_i2l dX10_house_114 ?_
                refine tw_nml (fun v321 ev321 => ?_)
                refine tw_ladd dX10_house_115 ?_
                refine tw_nml (fun v322 ev322 => ?_)
                refine tw_last dX10_house_116 f318 (vp_in_nI (n := 0) (by decide) (by decide)) ?_
                obtain ⟨h323, eh323⟩ : ∃ z : tw_H, z = tw_up h287 cm_299 (.inl (d.2 1, 2, .inr (.inl (vp_updL F319 (0 : Int32).toNatClampNeg v322)))) := ⟨_, rfl⟩
                rw [← eh323]
                have sp324 : tw_sp d τ h g τ239 h323 := by rw [eh323]; exact sp288.set k308 (by decide) ⟨_, rfl⟩
                have f325 : h323 q229 = some (.inr (13, [.int (nI j31), .int (-1), .int (-1), .ref p240])) := by rw [eh323, tw_up_n (fun q => absurd (z242) (by rw [q, k308]; decide))]; exact f289
                refine tw_aload_n 1 dX10_house_117 rfl rfl ?_
                obtain ⟨e326, f327, th_328, td_329, ds_330, fr_331, ca_332, us_333, wo_334, cm_335, lc_336, lh_337, ld_338, rfl, k339, k340, k341, k342, k343, k344, k345, k346, k347, k348, k349, k350, k351, k352⟩ := sp324.1 x 36 k245 (by decide)
                refine tw_get (v := .ref cm_335) rfl in_14 8 dX10_house_118 w_1159 rfl (by decide) f327 rfl ?_
                refine tw_iconst (v := 1) dX10_house_121 (by decide) ?_
                refine tw_dup2 dX10_house_122 rfl rfl ?_
                obtain ⟨e353, f354, F355, rfl⟩ := sp324.1 cm_335 31 k344 (by decide)
                obtain ⟨v356, ev356⟩ : ∃ y : Int64, F355 (1 : Int32).toNatClampNeg = y := ⟨_, rfl⟩
                refine tw_lald (v := v356) dX10_house_123 f354 (vp_in_nI (n := 1) (by decide) (by decide)) ev356 ?_
                refine tw_iload_n 4 dX10_house_124 rfl rfl ?_
                refine tw_i2l dX10_house_125 ?_
                refine tw_nml (fun v357 ev357 => ?_)
                refine tw_ladd dX10_house_126 ?_
                refine tw_nml (fun v358 ev358 => ?_)
                refine tw_last dX10_house_127 f354 (vp_in_nI (n := 1) (by decide) (by decide)) ?_
                obtain ⟨h359, eh359⟩ : ∃ z : tw_H, z = tw_up h323 cm_335 (.inl (d.2 1, 2, .inr (.inl (vp_updL F355 (1 : Int32).toNatClampNeg v358)))) := ⟨_, rfl⟩
                rw [← eh359]
                have sp360 : tw_sp d τ h g τ239 h359 := by rw [eh359]; exact sp324.set k344 (by decide) ⟨_, rfl⟩
                have f361 : h359 q229 = some (.inr (13, [.int (nI j31), .int (-1), .int (-1), .ref p240])) := by rw [eh359, tw_up_n (fun q => absurd (z242) (by rw [q, k344]; decide))]; exact f325
                refine tw_aload_n 1 dX10_house_128 rfl rfl ?_
                obtain ⟨e362, f363, th_364, td_365, ds_366, fr_367, ca_368, us_369, wo_370, cm_371, lc_372, lh_373, ld_374, rfl, k375, k376, k377, k378, k379, k380, k381, k382, k383, k384, k385, k386, k387, k388⟩ := sp360.1 x 36 k245 (by decide)
                refine tw_get (v := .ref lh_373) rfl in_14 10 dX10_house_129 w_1161 rfl (by decide) f363 rfl ?_
                refine tw_aload 0 dX10_house_132 rfl ?_
                obtain ⟨τ389, eτ389⟩ : ∃ z : tw_K, z = tw_ku τ239 q229 23 := ⟨_, rfl⟩
                have le390 : tw_le τ239 τ389 := by rw [eτ389]; exact tw_ku_le z242
                have k391 : τ389 x = 36 := le390.k k245 (by decide)
                have k392 : τ389 ds_5 = 34 := le390.k k246 (by decide)
                have k393 : τ389 fr_6 = 34 := le390.k k247 (by decide)
                have k394 : τ389 ca_7 = 31 := le390.k k248 (by decide)
                have k395 : τ389 us_8 = 31 := le390.k k249 (by decide)
                have k396 : τ389 wo_9 = 31 := le390.k k250 (by decide)
                have k397 : τ389 cm_10 = 31 := le390.k k251 (by decide)
                have k398 : τ389 lc_11 = 24 := le390.k k252 (by decide)
                have k399 : τ389 lh_12 = 25 := le390.k k253 (by decide)
                have k400 : τ389 ld_13 = 26 := le390.k k254 (by decide)
                have k401 : τ389 ds_145 = 34 := le390.k k255 (by decide)
                have k402 : τ389 fr_146 = 34 := le390.k k256 (by decide)
                have k403 : τ389 ca_147 = 31 := le390.k k257 (by decide)
                have k404 : τ389 us_148 = 31 := le390.k k258 (by decide)
                have k405 : τ389 wo_149 = 31 := le390.k k259 (by decide)
                have k406 : τ389 cm_150 = 31 := le390.k k260 (by decide)
                have k407 : τ389 lc_151 = 24 := le390.k k261 (by decide)
                have k408 : τ389 lh_152 = 25 := le390.k k262 (by decide)
                have k409 : τ389 ld_153 = 26 := le390.k k263 (by decide)
                have k410 : τ389 ds_184 = 34 := le390.k k264 (by decide)
                have k411 : τ389 fr_185 = 34 := le390.k k265 (by decide)
                have k412 : τ389 ca_186 = 31 := le390.k k266 (by decide)
                have k413 : τ389 us_187 = 31 := le390.k k267 (by decide)
                have k414 : τ389 wo_188 = 31 := le390.k k268 (by decide)
                have k415 : τ389 cm_189 = 31 := le390.k k269 (by decide)
                have k416 : τ389 lc_190 = 24 := le390.k k270 (by decide)
                have k417 : τ389 lh_191 = 25 := le390.k k271 (by decide)
                have k418 : τ389 ld_192 = 26 := le390.k k272 (by decide)
                have k419 : τ389 p240 = 31 := le390.k k243 (by decide)
                have k420 : τ389 ds_294 = 34 := le390.k k303 (by decide)
                have k421 : τ389 fr_295 = 34 := le390.k k304 (by decide)
                have k422 : τ389 ca_296 = 31 := le390.k k305 (by decide)
                have k423 : τ389 us_297 = 31 := le390.k k306 (by decide)
                have k424 : τ389 wo_298 = 31 := le390.k k307 (by decide)
                have k425 : τ389 cm_299 = 31 := le390.k k308 (by decide)
                have k426 : τ389 lc_300 = 24 := le390.k k309 (by decide)
                have k427 : τ389 lh_301 = 25 := le390.k k310 (by decide)
                have k428 : τ389 ld_302 = 26 := le390.k k311 (by decide)
                have k429 : τ389 ds_330 = 34 := le390.k k339 (by decide)
                have k430 : τ389 fr_331 = 34 := le390.k k340 (by decide)
                have k431 : τ389 ca_332 = 31 := le390.k k341 (by decide)
                have k432 : τ389 us_333 = 31 := le390.k k342 (by decide)
                have k433 : τ389 wo_334 = 31 := le390.k k343 (by decide)
                have k434 : τ389 cm_335 = 31 := le390.k k344 (by decide)
                have k435 : τ389 lc_336 = 24 := le390.k k345 (by decide)
                have k436 : τ389 lh_337 = 25 := le390.k k346 (by decide)
                have k437 : τ389 ld_338 = 26 := le390.k k347 (by decide)
                have k438 : τ389 ds_366 = 34 := le390.k k375 (by decide)
                have k439 : τ389 fr_367 = 34 := le390.k k376 (by decide)
                have k440 : τ389 ca_368 = 31 := le390.k k377 (by decide)
                have k441 : τ389 us_369 = 31 := le390.k k378 (by decide)
                have k442 : τ389 wo_370 = 31 := le390.k k379 (by decide)
                have k443 : τ389 cm_371 = 31 := le390.k k380 (by decide)
                have k444 : τ389 lc_372 = 24 := le390.k k381 (by decide)
                have k445 : τ389 lh_373 = 25 := le390.k k382 (by decide)
                have k446 : τ389 ld_374 = 26 := le390.k k383 (by decide)
                have sp447 : tw_sp d τ h g τ389 h359 := by rw [eτ389]; exact sp360.ty n232 z242 f361 (by rw [← eτ389]; exact ⟨(nI j31), (-1), (-1), p240, rfl, k419, (Or.inr ⟨_, (by omega), rfl⟩), (Or.inl rfl)⟩)
                have k448 : τ389 q229 = 23 := by rw [eτ389]; exact tw_ku_s
                obtain ⟨e449, f450, ⟨el451, rfl, k452⟩, k453⟩ := sp447.1 lh_373 25 k445 (by decide)
                have hb9 : g.2 4 + 1 ≤ 6 := (tw_n4 c215 k385 (by decide))
                rcases k452 with k452p | k452p
                · obtain ⟨pa, pn, pf⟩ := k452p
                  subst pa
                  have f9 : h359 lh_373 = some (.inr (3, [.int (g.1 4), .ref (d.2 102), .int (nI 0)])) := by have z := f450; rw [pn] at z; exact z
                  refine tw_bi (tw_callV (M := mX10_house) (pc := 134) okJx4a65c_add_9ea2d dX10_house_134 w_1238 rfl f450 [.ref q229] [] rfl rfl ⟨by decide, by decide⟩ (Nat.le_of_ble_eq_true rfl) (c_add_new d h359 lh_373 (g.1 4) f9 q229 13 _ _ rfl (ng_13) f361 (by decide)) 7 44 (Nat.le_of_ble_eq_true rfl) (Nat.le_of_ble_eq_true rfl)) (fun r9 h454 q9 => ?_) (fun E h1 q => q.elim)
                  obtain ⟨r8, hr8, q1, q2, q3⟩ := q9
                  obtain ⟨g9, τ9, ⟨hga, hg1⟩, sp9⟩ := tw_gadd25 (F := fun _ => none) sp447.1 k445 k448 hb9 (fun j hj => by rw [pn] at hj; exact absurd hj (Nat.not_lt_zero _)) (Or.inr ⟨hr8, pf⟩) (by rw [pn]; exact q1) (by rw [pn]; exact q2) q3
                  have sp455 := sp447.tr sp9
                  have k456 : τ9 x = 36 := sp9.2.1.k k391 (by decide)
                  have k457 : τ9 ds_5 = 34 := sp9.2.1.k k392 (by decide)
                  have k458 : τ9 fr_6 = 34 := sp9.2.1.k k393 (by decide)
                  have k459 : τ9 ca_7 = 31 := sp9.2.1.k k394 (by decide)
                  have k460 : τ9 us_8 = 31 := sp9.2.1.k k395 (by decide)
                  have k461 : τ9 wo_9 = 31 := sp9.2.1.k k396 (by decide)
                  have k462 : τ9 cm_10 = 31 := sp9.2.1.k k397 (by decide)
                  have k463 : τ9 lc_11 = 24 := sp9.2.1.k k398 (by decide)
                  have k464 : τ9 lh_12 = 25 := sp9.2.1.k k399 (by decide)
                  have k465 : τ9 ld_13 = 26 := sp9.2.1.k k400 (by decide)
                  have k466 : τ9 ds_145 = 34 := sp9.2.1.k k401 (by decide)
                  have k467 : τ9 fr_146 = 34 := sp9.2.1.k k402 (by decide)
                  have k468 : τ9 ca_147 = 31 := sp9.2.1.k k403 (by decide)
                  have k469 : τ9 us_148 = 31 := sp9.2.1.k k404 (by decide)
                  have k470 : τ9 wo_149 = 31 := sp9.2.1.k k405 (by decide)
                  have k471 : τ9 cm_150 = 31 := sp9.2.1.k k406 (by decide)
                  have k472 : τ9 lc_151 = 24 := sp9.2.1.k k407 (by decide)
                  have k473 : τ9 lh_152 = 25 := sp9.2.1.k k408 (by decide)
                  have k474 : τ9 ld_153 = 26 := sp9.2.1.k k409 (by decide)
                  have k475 : τ9 ds_184 = 34 := sp9.2.1.k k410 (by decide)
                  have k476 : τ9 fr_185 = 34 := sp9.2.1.k k411 (by decide)
                  have k477 : τ9 ca_186 = 31 := sp9.2.1.k k412 (by decide)
                  have k478 : τ9 us_187 = 31 := sp9.2.1.k k413 (by decide)
                  have k479 : τ9 wo_188 = 31 := sp9.2.1.k k414 (by decide)
                  have k480 : τ9 cm_189 = 31 := sp9.2.1.k k415 (by decide)
                  have k481 : τ9 lc_190 = 24 := sp9.2.1.k k416 (by decide)
                  have k482 : τ9 lh_191 = 25 := sp9.2.1.k k417 (by decide)
                  have k483 : τ9 ld_192 = 26 := sp9.2.1.k k418 (by decide)
                  have k484 : τ9 p240 = 31 := sp9.2.1.k k419 (by decide)
                  have k485 : τ9 ds_294 = 34 := sp9.2.1.k k420 (by decide)
                  have k486 : τ9 fr_295 = 34 := sp9.2.1.k k421 (by decide)
                  have k487 : τ9 ca_296 = 31 := sp9.2.1.k k422 (by decide)
                  have k488 : τ9 us_297 = 31 := sp9.2.1.k k423 (by decide)
                  have k489 : τ9 wo_298 = 31 := sp9.2.1.k k424 (by decide)
                  have k490 : τ9 cm_299 = 31 := sp9.2.1.k k425 (by decide)
                  have k491 : τ9 lc_300 = 24 := sp9.2.1.k k426 (by decide)
                  have k492 : τ9 lh_301 = 25 := sp9.2.1.k k427 (by decide)
                  have k493 : τ9 ld_302 = 26 := sp9.2.1.k k428 (by decide)
                  have k494 : τ9 ds_330 = 34 := sp9.2.1.k k429 (by decide)
                  have k495 : τ9 fr_331 = 34 := sp9.2.1.k k430 (by decide)
                  have k496 : τ9 ca_332 = 31 := sp9.2.1.k k431 (by decide)
                  have k497 : τ9 us_333 = 31 := sp9.2.1.k k432 (by decide)
                  have k498 : τ9 wo_334 = 31 := sp9.2.1.k k433 (by decide)
                  have k499 : τ9 cm_335 = 31 := sp9.2.1.k k434 (by decide)
                  have k500 : τ9 lc_336 = 24 := sp9.2.1.k k435 (by decide)
                  have k501 : τ9 lh_337 = 25 := sp9.2.1.k k436 (by decide)
                  have k502 : τ9 ld_338 = 26 := sp9.2.1.k k437 (by decide)
                  have k503 : τ9 ds_366 = 34 := sp9.2.1.k k438 (by decide)
                  have k504 : τ9 fr_367 = 34 := sp9.2.1.k k439 (by decide)
                  have k505 : τ9 ca_368 = 31 := sp9.2.1.k k440 (by decide)
                  have k506 : τ9 us_369 = 31 := sp9.2.1.k k441 (by decide)
                  have k507 : τ9 wo_370 = 31 := sp9.2.1.k k442 (by decide)
                  have k508 : τ9 cm_371 = 31 := sp9.2.1.k k443 (by decide)
                  have k509 : τ9 lc_372 = 24 := sp9.2.1.k k444 (by decide)
                  have k510 : τ9 lh_373 = 25 := sp9.2.1.k k445 (by decide)
                  have k511 : τ9 ld_374 = 26 := sp9.2.1.k k446 (by decide)
                  have k512 : τ9 q229 = 23 := sp9.2.1.k k448 (by decide)
                  refine tw_pop dX10_house_137 rfl ?_
                  refine tw_aload_n 1 dX10_house_138 rfl rfl ?_
                  obtain ⟨e513, f514, th_515, td_516, ds_517, fr_518, ca_519, us_520, wo_521, cm_522, lc_523, lh_524, ld_525, rfl, k526, k527, k528, k529, k530, k531, k532, k533, k534, k535, k536, k537, k538, k539⟩ := sp455.1 x 36 k456 (by decide)
                  refine tw_get (v := .ref lh_524) rfl in_14 10 dX10_house_139 w_1161 rfl (by decide) f514 rfl ?_
                  obtain ⟨e540, f541, ⟨el542, rfl, k543⟩, k544⟩ := sp455.1 lh_524 25 k533 (by decide)
                  refine tw_bi (tw_callV (M := mX10_house) (pc := 142) okJx4a65c_size_8abf5 dX10_house_142 w_1208 rfl f541 [] [] rfl rfl ⟨by decide, by decide⟩ (Nat.le_of_ble_eq_true rfl) (c25_size d g9 τ9 h454 sp455.1 lh_524 k533) 7 44 (Nat.le_of_ble_eq_true rfl) (Nat.le_of_ble_eq_true rfl)) (fun r547 h546 q545 => ?_) (fun E h1 q => q.elim)
                  obtain ⟨q545e, q545r⟩ := q545
                  rw [q545e, q545r]
                  refine tw_iconst (v := 1) dX10_house_145 (by decide) ?_
                  refine tw_isub dX10_house_146 ?_
                  refine tw_nmi (fun v548 ev548 => ?_)
                  exact tw_iret dX10_house_147 rfl (Or.inl ⟨_, rfl, ⟨_, _, hga, sp455⟩⟩)
                · obtain ⟨e9, fa9, ⟨F9, rfl, hc9, h49⟩, un9⟩ := sp447.1 el451 28 k452p (by decide)
                  refine tw_bi (tw_callV (M := mX10_house) (pc := 134) okJx4a65c_add_9ea2d dX10_house_134 w_1238 rfl f450 [.ref q229] [] rfl rfl ⟨by decide, by decide⟩ (Nat.le_of_ble_eq_true rfl) (c_add_old d h359 lh_373 el451 (g.2 4) F9 (g.1 4) (by omega) f450 fa9 q229 13 _ _ rfl (ng_13) f361 (by decide)) 7 44 (Nat.le_of_ble_eq_true rfl) (Nat.le_of_ble_eq_true rfl)) (fun r9 h549 q9 => ?_) (fun E h1 q => q.elim)
                  obtain ⟨q1, q2, q3⟩ := q9
                  obtain ⟨g9, τ9, ⟨hga, hg1⟩, sp9⟩ := tw_gadd25 sp447.1 k445 k448 hb9 h49 (Or.inl k452p) q1 q2 q3
                  have sp550 := sp447.tr sp9
                  have k551 : τ9 x = 36 := sp9.2.1.k k391 (by decide)
                  have k552 : τ9 ds_5 = 34 := sp9.2.1.k k392 (by decide)
                  have k553 : τ9 fr_6 = 34 := sp9.2.1.k k393 (by decide)
                  have k554 : τ9 ca_7 = 31 := sp9.2.1.k k394 (by decide)
                  have k555 : τ9 us_8 = 31 := sp9.2.1.k k395 (by decide)
                  have k556 : τ9 wo_9 = 31 := sp9.2.1.k k396 (by decide)
                  have k557 : τ9 cm_10 = 31 := sp9.2.1.k k397 (by decide)
                  have k558 : τ9 lc_11 = 24 := sp9.2.1.k k398 (by decide)
                  have k559 : τ9 lh_12 = 25 := sp9.2.1.k k399 (by decide)
                  have k560 : τ9 ld_13 = 26 := sp9.2.1.k k400 (by decide)
                  have k561 : τ9 ds_145 = 34 := sp9.2.1.k k401 (by decide)
                  have k562 : τ9 fr_146 = 34 := sp9.2.1.k k402 (by decide)
                  have k563 : τ9 ca_147 = 31 := sp9.2.1.k k403 (by decide)
                  have k564 : τ9 us_148 = 31 := sp9.2.1.k k404 (by decide)
                  have k565 : τ9 wo_149 = 31 := sp9.2.1.k k405 (by decide)
                  have k566 : τ9 cm_150 = 31 := sp9.2.1.k k406 (by decide)
                  have k567 : τ9 lc_151 = 24 := sp9.2.1.k k407 (by decide)
                  have k568 : τ9 lh_152 = 25 := sp9.2.1.k k408 (by decide)
                  have k569 : τ9 ld_153 = 26 := sp9.2.1.k k409 (by decide)
                  have k570 : τ9 ds_184 = 34 := sp9.2.1.k k410 (by decide)
                  have k571 : τ9 fr_185 = 34 := sp9.2.1.k k411 (by decide)
                  have k572 : τ9 ca_186 = 31 := sp9.2.1.k k412 (by decide)
                  have k573 : τ9 us_187 = 31 := sp9.2.1.k k413 (by decide)
                  have k574 : τ9 wo_188 = 31 := sp9.2.1.k k414 (by decide)
                  have k575 : τ9 cm_189 = 31 := sp9.2.1.k k415 (by decide)
                  have k576 : τ9 lc_190 = 24 := sp9.2.1.k k416 (by decide)
                  have k577 : τ9 lh_191 = 25 := sp9.2.1.k k417 (by decide)
                  have k578 : τ9 ld_192 = 26 := sp9.2.1.k k418 (by decide)
                  have k579 : τ9 p240 = 31 := sp9.2.1.k k419 (by decide)
                  have k580 : τ9 ds_294 = 34 := sp9.2.1.k k420 (by decide)
                  have k581 : τ9 fr_295 = 34 := sp9.2.1.k k421 (by decide)
                  have k582 : τ9 ca_296 = 31 := sp9.2.1.k k422 (by decide)
                  have k583 : τ9 us_297 = 31 := sp9.2.1.k k423 (by decide)
                  have k584 : τ9 wo_298 = 31 := sp9.2.1.k k424 (by decide)
                  have k585 : τ9 cm_299 = 31 := sp9.2.1.k k425 (by decide)
                  have k586 : τ9 lc_300 = 24 := sp9.2.1.k k426 (by decide)
                  have k587 : τ9 lh_301 = 25 := sp9.2.1.k k427 (by decide)
                  have k588 : τ9 ld_302 = 26 := sp9.2.1.k k428 (by decide)
                  have k589 : τ9 ds_330 = 34 := sp9.2.1.k k429 (by decide)
                  have k590 : τ9 fr_331 = 34 := sp9.2.1.k k430 (by decide)
                  have k591 : τ9 ca_332 = 31 := sp9.2.1.k k431 (by decide)
                  have k592 : τ9 us_333 = 31 := sp9.2.1.k k432 (by decide)
                  have k593 : τ9 wo_334 = 31 := sp9.2.1.k k433 (by decide)
                  have k594 : τ9 cm_335 = 31 := sp9.2.1.k k434 (by decide)
                  have k595 : τ9 lc_336 = 24 := sp9.2.1.k k435 (by decide)
                  have k596 : τ9 lh_337 = 25 := sp9.2.1.k k436 (by decide)
                  have k597 : τ9 ld_338 = 26 := sp9.2.1.k k437 (by decide)
                  have k598 : τ9 ds_366 = 34 := sp9.2.1.k k438 (by decide)
                  have k599 : τ9 fr_367 = 34 := sp9.2.1.k k439 (by decide)
                  have k600 : τ9 ca_368 = 31 := sp9.2.1.k k440 (by decide)
                  have k601 : τ9 us_369 = 31 := sp9.2.1.k k441 (by decide)
                  have k602 : τ9 wo_370 = 31 := sp9.2.1.k k442 (by decide)
                  have k603 : τ9 cm_371 = 31 := sp9.2.1.k k443 (by decide)
                  have k604 : τ9 lc_372 = 24 := sp9.2.1.k k444 (by decide)
                  have k605 : τ9 lh_373 = 25 := sp9.2.1.k k445 (by decide)
                  have k606 : τ9 ld_374 = 26 := sp9.2.1.k k446 (by decide)
                  have k607 : τ9 q229 = 23 := sp9.2.1.k k448 (by decide)
                  refine tw_pop dX10_house_137 rfl ?_
                  refine tw_aload_n 1 dX10_house_138 rfl rfl ?_
                  obtain ⟨e608, f609, th_610, td_611, ds_612, fr_613, ca_614, us_615, wo_616, cm_617, lc_618, lh_619, ld_620, rfl, k621, k622, k623, k624, k625, k626, k627, k628, k629, k630, k631, k632, k633, k634⟩ := sp550.1 x 36 k551 (by decide)
                  refine tw_get (v := .ref lh_619) rfl in_14 10 dX10_house_139 w_1161 rfl (by decide) f609 rfl ?_
                  obtain ⟨e635, f636, ⟨el637, rfl, k638⟩, k639⟩ := sp550.1 lh_619 25 k628 (by decide)
                  refine tw_bi (tw_callV (M := mX10_house) (pc := 142) okJx4a65c_size_8abf5 dX10_house_142 w_1208 rfl f636 [] [] rfl rfl ⟨by decide, by decide⟩ (Nat.le_of_ble_eq_true rfl) (c25_size d g9 τ9 h549 sp550.1 lh_619 k628) 7 44 (Nat.le_of_ble_eq_true rfl) (Nat.le_of_ble_eq_true rfl)) (fun r642 h641 q640 => ?_) (fun E h1 q => q.elim)
                  obtain ⟨q640e, q640r⟩ := q640
                  rw [q640e, q640r]
                  refine tw_iconst (v := 1) dX10_house_145 (by decide) ?_
                  refine tw_isub dX10_house_146 ?_
                  refine tw_nmi (fun v643 ev643 => ?_)
                  exact tw_iret dX10_house_147 rfl (Or.inl ⟨_, rfl, ⟨_, _, hga, sp550⟩⟩)
            · refine tw_iconst (v := 1) dX10_house_59 (by decide) ?_
              refine tw_goto 64 dX10_house_60 (by decide) ?_
              refine tw_iconst (v := 3) dX10_house_64 (by decide) ?_
              refine tw_bi (tw_callV (M := mX10_house) (pc := 65) okX10_refuse dX10_house_65 w_1204 rfl f181 [.int 1, .int 3] [] rfl rfl ⟨by decide, by decide⟩ (Nat.le_of_ble_eq_true rfl) (c_X10_refuse d g τ h169 sp176.1 x kx 1 3 (by decide)) 10 60 (Nat.le_of_ble_eq_true rfl) (Nat.le_of_ble_eq_true rfl)) (fun r646 h645 q644 => ?_) (fun E h1 q => q.elim)
              obtain ⟨e647, he648, hs649, hr650, h3651⟩ := q644
              have sp652 : tw_sp d τ h g τ h645 := by rw [he648]; exact sp176.set kx (by decide) hs649
              have f653 : h645 lh_191 = some (.inr (3, [.int (g.1 4), .ref el209, .int (nI (g.2 4))])) := by rw [he648, tw_up_n (fun q => absurd (k200) (by rw [q, kx]; decide))]; exact f208
              rcases hr650 with ei654 | ⟨ei654, ei654b⟩
              · rw [ei654]
                refine tw_if_eq 73 dX10_house_68 (by decide) (fun c655 => absurd c655 (by decide)) (fun _ => ?_)
                refine tw_iconst (v := 0) dX10_house_71 (by decide) ?_
                exact tw_iret dX10_house_72 rfl (Or.inl ⟨_, rfl, ⟨_, _, ⟨rfl, rfl⟩, sp652⟩⟩)
              · exact absurd ei654b (by decide)

set_option maxHeartbeats 4000000 in
set_option maxRecDepth 100000 in
theorem c_X10_owe (d : tw_D) (g : tw_G) (τ : tw_K) (h : tw_H) (hw : tw_wt d g τ h) (x : Nat) (kx : τ x = 36) (a : Int32) (b : Int32) (v : Int32) (dy : Int32) : tw_Ct d mX10_owe 10 60 [.ref x, .int a, .int b, .int v, .int dy] h (tw_qi (fun r h1 => ∃ g1 τ1, tw_ga g g1 ∧ tw_sp d τ h g1 τ1 h1) tw_nx) := by
  refine tw_of (by decide +kernel) (Nat.le_of_ble_eq_true rfl) ?_
  show tw_W d mX10_owe _ 0 [(0, .ref x), (1, .int a), (2, .int b), (3, .int v), (4, .int dy)] [] h 10 60
  have sp0 := tw_sp.rf hw
  refine tw_aload_n 0 dX10_owe_0 rfl rfl ?_
  refine tw_aload_n 0 dX10_owe_1 rfl rfl ?_
  refine tw_iload_n 1 dX10_owe_2 rfl rfl ?_
  obtain ⟨e1, f2, th_3, td_4, ds_5, fr_6, ca_7, us_8, wo_9, cm_10, lc_11, lh_12, ld_13, rfl, k14, k15, k16, k17, k18, k19, k20, k21, k22, k23, k24, k25, k26, k27⟩ := sp0.1 x 36 kx (by decide)
  refine tw_bi (tw_callV (M := mX10_owe) (pc := 3) okX10_isNoHouse dX10_owe_3 w_1362 rfl f2 [.int a] [.ref x] rfl rfl ⟨by decide, by decide⟩ (Nat.le_of_ble_eq_true rfl) (c_X10_isNoHouse d g τ h sp0.1 x kx a) 10 60 (Nat.le_of_ble_eq_true rfl) (Nat.le_of_ble_eq_true rfl)) (fun r30 h29 q28 => ?_) (fun E h1 q => q.elim)
  obtain ⟨q28e, q28d⟩ := q28
  rw [q28e]
  rcases q28d with q28r | ⟨q28r, j31, q28j, q28k⟩
  · rw [q28r]
    refine tw_if_ne 17 dX10_owe_6 (by decide) (fun _ => ?_) (fun c32 => absurd c32 (by decide))
    refine tw_iconst (v := 1) dX10_owe_17 (by decide) ?_
    refine tw_goto 22 dX10_owe_18 (by decide) ?_
    refine tw_iconst (v := 1) dX10_owe_22 (by decide) ?_
    refine tw_bi (tw_callV (M := mX10_owe) (pc := 23) okX10_start dX10_owe_23 w_1200 rfl f2 [.int 1, .int 1] [] rfl rfl ⟨by decide, by decide⟩ (Nat.le_of_ble_eq_true rfl) (c_X10_start d g τ h sp0.1 x kx 1 1 (by decide)) 10 60 (Nat.le_of_ble_eq_true rfl) (Nat.le_of_ble_eq_true rfl)) (fun r35 h34 q33 => ?_) (fun E h1 q => q.elim)
    obtain ⟨e36, he37, hs38, hr39, h340⟩ := q33
    have sp41 : tw_sp d τ h g τ h34 := by rw [he37]; exact sp0.set kx (by decide) hs38
    rcases hr39 with ei42 | ⟨ei42, ei42b⟩
    · rw [ei42]
      refine tw_if_ne 95 dX10_owe_26 (by decide) (fun _ => ?_) (fun c43 => absurd c43 (by decide))
      refine tw_iconst (v := 0) dX10_owe_95 (by decide) ?_
      exact tw_iret dX10_owe_96 rfl (Or.inl ⟨_, rfl, ⟨_, _, ⟨rfl, rfl⟩, sp41⟩⟩)
    · exact absurd ei42b (by decide)
  · rw [q28r]
    subst q28k
    refine tw_if_ne 17 dX10_owe_6 (by decide) (fun c44 => absurd (by decide) c44) (fun _ => ?_)
    refine tw_aload_n 0 dX10_owe_9 rfl rfl ?_
    refine tw_iload_n 2 dX10_owe_10 rfl rfl ?_
    refine tw_bi (tw_callV (M := mX10_owe) (pc := 11) okX10_isNoHouse dX10_owe_11 w_1362 rfl f2 [.int b] [.ref x] rfl rfl ⟨by decide, by decide⟩ (Nat.le_of_ble_eq_true rfl) (c_X10_isNoHouse d g τ h sp0.1 x kx b) 10 60 (Nat.le_of_ble_eq_true rfl) (Nat.le_of_ble_eq_true rfl)) (fun r47 h46 q45 => ?_) (fun E h1 q => q.elim)
    obtain ⟨q45e, q45d⟩ := q45
    rw [q45e]
    rcases q45d with q45r | ⟨q45r, j48, q45j, q45k⟩
    · rw [q45r]
      refine tw_if_eq 21 dX10_owe_14 (by decide) (fun c49 => absurd c49 (by decide)) (fun _ => ?_)
      refine tw_iconst (v := 1) dX10_owe_17 (by decide) ?_
      refine tw_goto 22 dX10_owe_18 (by decide) ?_
      refine tw_iconst (v := 1) dX10_owe_22 (by decide) ?_
      refine tw_bi (tw_callV (M := mX10_owe) (pc := 23) okX10_start dX10_owe_23 w_1200 rfl f2 [.int 1, .int 1] [] rfl rfl ⟨by decide, by decide⟩ (Nat.le_of_ble_eq_true rfl) (c_X10_start d g τ h sp0.1 x kx 1 1 (by decide)) 10 60 (Nat.le_of_ble_eq_true rfl) (Nat.le_of_ble_eq_true rfl)) (fun r52 h51 q50 => ?_) (fun E h1 q => q.elim)
      obtain ⟨e53, he54, hs55, hr56, h357⟩ := q50
      have sp58 : tw_sp d τ h g τ h51 := by rw [he54]; exact sp0.set kx (by decide) hs55
      rcases hr56 with ei59 | ⟨ei59, ei59b⟩
      · rw [ei59]
        refine tw_if_ne 95 dX10_owe_26 (by decide) (fun _ => ?_) (fun c60 => absurd c60 (by decide))
        refine tw_iconst (v := 0) dX10_owe_95 (by decide) ?_
        exact tw_iret dX10_owe_96 rfl (Or.inl ⟨_, rfl, ⟨_, _, ⟨rfl, rfl⟩, sp58⟩⟩)
      · exact absurd ei59b (by decide)
    · rw [q45r]
      subst q45k
      refine tw_if_eq 21 dX10_owe_14 (by decide) (fun _ => ?_) (fun c61 => absurd (by decide) c61)
      refine tw_iconst (v := 0) dX10_owe_21 (by decide) ?_
      refine tw_iconst (v := 1) dX10_owe_22 (by decide) ?_
      refine tw_bi (tw_callV (M := mX10_owe) (pc := 23) okX10_start dX10_owe_23 w_1200 rfl f2 [.int 0, .int 1] [] rfl rfl ⟨by decide, by decide⟩ (Nat.le_of_ble_eq_true rfl) (c_X10_start d g τ h sp0.1 x kx 0 1 (by decide)) 10 60 (Nat.le_of_ble_eq_true rfl) (Nat.le_of_ble_eq_true rfl)) (fun r64 h63 q62 => ?_) (fun E h1 q => q.elim)
      obtain ⟨e65, he66, hs67, hr68, h369⟩ := q62
      have sp70 : tw_sp d τ h g τ h63 := by rw [he66]; exact sp0.set kx (by decide) hs67
      rcases hr68 with ei71 | ⟨ei71, ei71b⟩
      · rw [ei71]
        refine tw_if_ne 95 dX10_owe_26 (by decide) (fun _ => ?_) (fun c72 => absurd c72 (by decide))
        refine tw_iconst (v := 0) dX10_owe_95 (by decide) ?_
        exact tw_iret dX10_owe_96 rfl (Or.inl ⟨_, rfl, ⟨_, _, ⟨rfl, rfl⟩, sp70⟩⟩)
      · rw [ei71]
        refine tw_if_ne 95 dX10_owe_26 (by decide) (fun c73 => absurd (by decide) c73) (fun _ => ?_)
        refine tw_aload_n 0 dX10_owe_29 rfl rfl ?_
        refine tw_iload_n 1 dX10_owe_30 rfl rfl ?_
        refine tw_iload_n 2 dX10_owe_31 rfl rfl ?_
        refine tw_icmp_eq 58 dX10_owe_32 (by decide) (fun c74 => ?_) (fun c74 => ?_)
        · refine tw_iconst (v := 1) dX10_owe_58 (by decide) ?_
          refine tw_goto 63 dX10_owe_59 (by decide) ?_
          refine tw_iconst (v := 2) dX10_owe_63 (by decide) ?_
          obtain ⟨e75, f76, th_77, td_78, ds_79, fr_80, ca_81, us_82, wo_83, cm_84, lc_85, lh_86, ld_87, rfl, k88, k89, k90, k91, k92, k93, k94, k95, k96, k97, k98, k99, k100, k101⟩ := sp70.1 x 36 kx (by decide)
          refine tw_bi (tw_callV (M := mX10_owe) (pc := 64) okX10_refuse dX10_owe_64 w_1204 rfl f76 [.int 1, .int 2] [] rfl rfl ⟨by decide, by decide⟩ (Nat.le_of_ble_eq_true rfl) (c_X10_refuse d g τ h63 sp70.1 x kx 1 2 (by decide)) 10 60 (Nat.le_of_ble_eq_true rfl) (Nat.le_of_ble_eq_true rfl)) (fun r104 h103 q102 => ?_) (fun E h1 q => q.elim)
          obtain ⟨e105, he106, hs107, hr108, h3109⟩ := q102
          have sp110 : tw_sp d τ h g τ h103 := by rw [he106]; exact sp70.set kx (by decide) hs107
          rcases hr108 with ei111 | ⟨ei111, ei111b⟩
          · rw [ei111]
            refine tw_if_ne 95 dX10_owe_67 (by decide) (fun _ => ?_) (fun c112 => absurd c112 (by decide))
            refine tw_iconst (v := 0) dX10_owe_95 (by decide) ?_
            exact tw_iret dX10_owe_96 rfl (Or.inl ⟨_, rfl, ⟨_, _, ⟨rfl, rfl⟩, sp110⟩⟩)
          · exact absurd ei111b (by decide)
        · refine tw_iload_n 3 dX10_owe_35 rfl rfl ?_
          refine tw_iconst (v := 1) dX10_owe_36 (by decide) ?_
          refine tw_sipush (v := 9999) dX10_owe_37 (by decide) ?_
          refine tw_bi (tw_callS (M := mX10_owe) (pc := 40) okX10_isIn dX10_owe_40 w_1196 [.int v, .int 1, .int 9999] [.ref x] rfl rfl ⟨by decide, by decide⟩ (Nat.le_of_ble_eq_true rfl) (c_X10_isIn d g τ h63 sp70.1 v 1 9999) 10 60 (Nat.le_of_ble_eq_true rfl) (Nat.le_of_ble_eq_true rfl)) (fun r115 h114 q113 => ?_) (fun E h1 q => q.elim)
          obtain ⟨q113e, q113d⟩ := q113
          rw [q113e]
          rcases q113d with ⟨q113r, q113n⟩ | ⟨q113r, q113a, q113b⟩
          · rw [q113r]
            refine tw_if_eq 58 dX10_owe_43 (by decide) (fun _ => ?_) (fun c116 => absurd (by decide) c116)
            refine tw_iconst (v := 1) dX10_owe_58 (by decide) ?_
            refine tw_goto 63 dX10_owe_59 (by decide) ?_
            refine tw_iconst (v := 2) dX10_owe_63 (by decide) ?_
            obtain ⟨e117, f118, th_119, td_120, ds_121, fr_122, ca_123, us_124, wo_125, cm_126, lc_127, lh_128, ld_129, rfl, k130, k131, k132, k133, k134, k135, k136, k137, k138, k139, k140, k141, k142, k143⟩ := sp70.1 x 36 kx (by decide)
            refine tw_bi (tw_callV (M := mX10_owe) (pc := 64) okX10_refuse dX10_owe_64 w_1204 rfl f118 [.int 1, .int 2] [] rfl rfl ⟨by decide, by decide⟩ (Nat.le_of_ble_eq_true rfl) (c_X10_refuse d g τ h63 sp70.1 x kx 1 2 (by decide)) 10 60 (Nat.le_of_ble_eq_true rfl) (Nat.le_of_ble_eq_true rfl)) (fun r146 h145 q144 => ?_) (fun E h1 q => q.elim)
            obtain ⟨e147, he148, hs149, hr150, h3151⟩ := q144
            have sp152 : tw_sp d τ h g τ h145 := by rw [he148]; exact sp70.set kx (by decide) hs149
            rcases hr150 with ei153 | ⟨ei153, ei153b⟩
            · rw [ei153]
              refine tw_if_ne 95 dX10_owe_67 (by decide) (fun _ => ?_) (fun c154 => absurd c154 (by decide))
              refine tw_iconst (v := 0) dX10_owe_95 (by decide) ?_
              exact tw_iret dX10_owe_96 rfl (Or.inl ⟨_, rfl, ⟨_, _, ⟨rfl, rfl⟩, sp152⟩⟩)
            · exact absurd ei153b (by decide)
          · rw [q113r]
            refine tw_if_eq 58 dX10_owe_43 (by decide) (fun c155 => absurd c155 (by decide)) (fun _ => ?_)
            refine tw_iload 4 dX10_owe_46 rfl ?_
            refine tw_iconst (v := 0) dX10_owe_48 (by decide) ?_
            refine tw_sipush (v := 1000) dX10_owe_49 (by decide) ?_
            refine tw_bi (tw_callS (M := mX10_owe) (pc := 52) okX10_isIn dX10_owe_52 w_1196 [.int dy, .int 0, .int 1000] [.ref x] rfl rfl ⟨by decide, by decide⟩ (Nat.le_of_ble_eq_true rfl) (c_X10_isIn d g τ h63 sp70.1 dy 0 1000) 10 60 (Nat.le_of_ble_eq_true rfl) (Nat.le_of_ble_eq_true rfl)) (fun r158 h157 q156 => ?_) (fun E h1 q => q.elim)
            obtain ⟨q156e, q156d⟩ := q156
            rw [q156e]
            rcases q156d with ⟨q156r, q156n⟩ | ⟨q156r, q156a, q156b⟩
            · rw [q156r]
              refine tw_if_ne 62 dX10_owe_55 (by decide) (fun c159 => absurd (by decide) c159) (fun _ => ?_)
              refine tw_iconst (v := 1) dX10_owe_58 (by decide) ?_
              refine tw_goto 63 dX10_owe_59 (by decide) ?_
              refine tw_iconst (v := 2) dX10_owe_63 (by decide) ?_
              obtain ⟨e160, f161, th_162, td_163, ds_164, fr_165, ca_166, us_167, wo_168, cm_169, lc_170, lh_171, ld_172, rfl, k173, k174, k175, k176, k177, k178, k179, k180, k181, k182, k183, k184, k185, k186⟩ := sp70.1 x 36 kx (by decide)
              refine tw_bi (tw_callV (M := mX10_owe) (pc := 64) okX10_refuse dX10_owe_64 w_1204 rfl f161 [.int 1, .int 2] [] rfl rfl ⟨by decide, by decide⟩ (Nat.le_of_ble_eq_true rfl) (c_X10_refuse d g τ h63 sp70.1 x kx 1 2 (by decide)) 10 60 (Nat.le_of_ble_eq_true rfl) (Nat.le_of_ble_eq_true rfl)) (fun r189 h188 q187 => ?_) (fun E h1 q => q.elim)
              obtain ⟨e190, he191, hs192, hr193, h3194⟩ := q187
              have sp195 : tw_sp d τ h g τ h188 := by rw [he191]; exact sp70.set kx (by decide) hs192
              rcases hr193 with ei196 | ⟨ei196, ei196b⟩
              · rw [ei196]
                refine tw_if_ne 95 dX10_owe_67 (by decide) (fun _ => ?_) (fun c197 => absurd c197 (by decide))
                refine tw_iconst (v := 0) dX10_owe_95 (by decide) ?_
                exact tw_iret dX10_owe_96 rfl (Or.inl ⟨_, rfl, ⟨_, _, ⟨rfl, rfl⟩, sp195⟩⟩)
              · exact absurd ei196b (by decide)
            · rw [q156r]
              refine tw_if_ne 62 dX10_owe_55 (by decide) (fun _ => ?_) (fun c198 => absurd c198 (by decide))
              refine tw_iconst (v := 0) dX10_owe_62 (by decide) ?_
              refine tw_iconst (v := 2) dX10_owe_63 (by decide) ?_
              obtain ⟨e199, f200, th_201, td_202, ds_203, fr_204, ca_205, us_206, wo_207, cm_208, lc_209, lh_210, ld_211, rfl, k212, k213, k214, k215, k216, k217, k218, k219, k220, k221, k222, k223, k224, k225⟩ := sp70.1 x 36 kx (by decide)
              refine tw_bi (tw_callV (M := mX10_owe) (pc := 64) okX10_refuse dX10_owe_64 w_1204 rfl f200 [.int 0, .int 2] [] rfl rfl ⟨by decide, by decide⟩ (Nat.le_of_ble_eq_true rfl) (c_X10_refuse d g τ h63 sp70.1 x kx 0 2 (by decide)) 10 60 (Nat.le_of_ble_eq_true rfl) (Nat.le_of_ble_eq_true rfl)) (fun r228 h227 q226 => ?_) (fun E h1 q => q.elim)
              obtain ⟨e229, he230, hs231, hr232, h3233⟩ := q226
              have sp234 : tw_sp d τ h g τ h227 := by rw [he230]; exact sp70.set kx (by decide) hs231
              rcases hr232 with ei235 | ⟨ei235, ei235b⟩
              · rw [ei235]
                refine tw_if_ne 95 dX10_owe_67 (by decide) (fun _ => ?_) (fun c236 => absurd c236 (by decide))
                refine tw_iconst (v := 0) dX10_owe_95 (by decide) ?_
                exact tw_iret dX10_owe_96 rfl (Or.inl ⟨_, rfl, ⟨_, _, ⟨rfl, rfl⟩, sp234⟩⟩)
              · rw [ei235]
                refine tw_if_ne 95 dX10_owe_67 (by decide) (fun c237 => absurd (by decide) c237) (fun _ => ?_)
                refine tw_aload_n 0 dX10_owe_70 rfl rfl ?_
                refine tw_aload_n 0 dX10_owe_71 rfl rfl ?_
                obtain ⟨e238, f239, th_240, td_241, ds_242, fr_243, ca_244, us_245, wo_246, cm_247, lc_248, lh_249, ld_250, rfl, k251, k252, k253, k254, k255, k256, k257, k258, k259, k260, k261, k262, k263, k264⟩ := sp234.1 x 36 kx (by decide)
                refine tw_get (v := .ref ld_250) rfl in_14 11 dX10_owe_72 w_1162 rfl (by decide) f239 rfl ?_
                obtain ⟨e265, f266, ⟨el267, rfl, k268⟩, k269⟩ := sp234.1 ld_250 26 k259 (by decide)
                refine tw_bi (tw_callV (M := mX10_owe) (pc := 75) okJx4a65c_size_8abf5 dX10_owe_75 w_1208 rfl f266 [] [.ref x] rfl rfl ⟨by decide, by decide⟩ (Nat.le_of_ble_eq_true rfl) (c26_size d g τ h227 sp234.1 ld_250 k259) 10 60 (Nat.le_of_ble_eq_true rfl) (Nat.le_of_ble_eq_true rfl)) (fun r272 h271 q270 => ?_) (fun E h1 q => q.elim)
                obtain ⟨q270e, q270r⟩ := q270
                rw [q270e, q270r]
                refine tw_bipush (v := 10) dX10_owe_78 (by decide) ?_
                refine tw_icmp_ne 87 dX10_owe_80 (by decide) (fun c273 => ?_) (fun c273 => ?_)
                · refine tw_iconst (v := 0) dX10_owe_87 (by decide) ?_
                  refine tw_iconst (v := 3) dX10_owe_88 (by decide) ?_
                  refine tw_bi (tw_callV (M := mX10_owe) (pc := 89) okX10_refuse dX10_owe_89 w_1204 rfl f239 [.int 0, .int 3] [] rfl rfl ⟨by decide, by decide⟩ (Nat.le_of_ble_eq_true rfl) (c_X10_refuse d g τ h227 sp234.1 x kx 0 3 (by decide)) 10 60 (Nat.le_of_ble_eq_true rfl) (Nat.le_of_ble_eq_true rfl)) (fun r276 h275 q274 => ?_) (fun E h1 q => q.elim)
                  obtain ⟨e277, he278, hs279, hr280, h3281⟩ := q274
                  have sp282 : tw_sp d τ h g τ h275 := by rw [he278]; exact sp234.set kx (by decide) hs279
                  have f283 : h275 ld_250 = some (.inr (3, [.int (g.1 5), .ref el267, .int (nI (g.2 5))])) := by rw [he278, tw_up_n (fun q => absurd (k259) (by rw [q, kx]; decide))]; exact f266
                  rcases hr280 with ei284 | ⟨ei284, ei284b⟩
                  · rw [ei284]
                    refine tw_if_eq 97 dX10_owe_92 (by decide) (fun c285 => absurd c285 (by decide)) (fun _ => ?_)
                    refine tw_iconst (v := 0) dX10_owe_95 (by decide) ?_
                    exact tw_iret dX10_owe_96 rfl (Or.inl ⟨_, rfl, ⟨_, _, ⟨rfl, rfl⟩, sp282⟩⟩)
                  · rw [ei284]
                    refine tw_if_eq 97 dX10_owe_92 (by decide) (fun _ => ?_) (fun c286 => absurd (by decide) c286)
                    refine tw_new (ci := 12) rfl in_12 tyX8 tyX8_ok dX10_owe_97 w_1437 w_1438 w_103 (fs := [.int 0, .int 0, .int 0, .int 0, .int 0]) (fun j hj => by rcases (show j = 0 ∨ j = 1 ∨ j = 2 ∨ j = 3 ∨ j = 4 by omega) with rfl | rfl | rfl | rfl | rfl <;> rfl) 9 55 (Nat.le_of_ble_eq_true rfl) (Nat.le_of_ble_eq_true rfl) (fun q287 hq288 hA289 => ?_)
                    have n290 := sp282.nn hq288
                    have z291 := sp282.1.none hq288
                    obtain ⟨h292, eh292⟩ : ∃ z : tw_H, z = tw_up h275 q287 (.inr (12, [.int 0, .int 0, .int 0, .int 0, .int 0])) := ⟨_, rfl⟩
                    rw [← eh292]
                    have sp293 : tw_sp d τ h g τ h292 := by rw [eh292]; exact sp282.mk hq288
                    have f294 : h292 q287 = some (.inr (12, [.int 0, .int 0, .int 0, .int 0, .int 0])) := by rw [eh292]; exact tw_up_s
                    refine tw_dup dX10_owe_100 rfl ?_
                    refine tw_bv (tw_callIN (M := mX10_owe) (pc := 101) okX8_init dX10_owe_101 w_1439 rfl [] [.ref q287] rfl rfl ⟨by decide, by decide⟩ (Nat.le_of_ble_eq_true rfl) (c_X8_init d g τ h292 sp293.1 q287 z291 f294) 9 55 (Nat.le_of_ble_eq_true rfl) (Nat.le_of_ble_eq_true rfl)) (fun h296 q295 => ?_) (fun E h1 q => q.elim)
                    obtain ⟨τ297, q295s, f298, z299⟩ := q295
                    have sp300 := sp293.trm n290 q295s
                    have k301 : τ297 x = 36 := q295s.2.1.k kx (by decide)
                    have k302 : τ297 ds_5 = 34 := q295s.2.1.k k14 (by decide)
                    have k303 : τ297 fr_6 = 34 := q295s.2.1.k k15 (by decide)
                    have k304 : τ297 ca_7 = 31 := q295s.2.1.k k16 (by decide)
                    have k305 : τ297 us_8 = 31 := q295s.2.1.k k17 (by decide)
                    have k306 : τ297 wo_9 = 31 := q295s.2.1.k k18 (by decide)
                    have k307 : τ297 cm_10 = 31 := q295s.2.1.k k19 (by decide)
                    have k308 : τ297 lc_11 = 24 := q295s.2.1.k k20 (by decide)
                    have k309 : τ297 lh_12 = 25 := q295s.2.1.k k21 (by decide)
                    have k310 : τ297 ld_13 = 26 := q295s.2.1.k k22 (by decide)
                    have k311 : τ297 ds_203 = 34 := q295s.2.1.k k212 (by decide)
                    have k312 : τ297 fr_204 = 34 := q295s.2.1.k k213 (by decide)
                    have k313 : τ297 ca_205 = 31 := q295s.2.1.k k214 (by decide)
                    have k314 : τ297 us_206 = 31 := q295s.2.1.k k215 (by decide)
                    have k315 : τ297 wo_207 = 31 := q295s.2.1.k k216 (by decide)
                    have k316 : τ297 cm_208 = 31 := q295s.2.1.k k217 (by decide)
                    have k317 : τ297 lc_209 = 24 := q295s.2.1.k k218 (by decide)
                    have k318 : τ297 lh_210 = 25 := q295s.2.1.k k219 (by decide)
                    have k319 : τ297 ld_211 = 26 := q295s.2.1.k k220 (by decide)
                    have k320 : τ297 ds_242 = 34 := q295s.2.1.k k251 (by decide)
                    have k321 : τ297 fr_243 = 34 := q295s.2.1.k k252 (by decide)
                    have k322 : τ297 ca_244 = 31 := q295s.2.1.k k253 (by decide)
                    have k323 : τ297 us_245 = 31 := q295s.2.1.k k254 (by decide)
                    have k324 : τ297 wo_246 = 31 := q295s.2.1.k k255 (by decide)
                    have k325 : τ297 cm_247 = 31 := q295s.2.1.k k256 (by decide)
                    have k326 : τ297 lc_248 = 24 := q295s.2.1.k k257 (by decide)
                    have k327 : τ297 lh_249 = 25 := q295s.2.1.k k258 (by decide)
                    have k328 : τ297 ld_250 = 26 := q295s.2.1.k k259 (by decide)
                    refine tw_astore [(5, .ref q287), (0, .ref x), (1, .int (nI j31)), (2, .int (nI j48)), (3, .int v), (4, .int dy)] dX10_owe_104 (by decide) rfl ?_
                    refine tw_aload 0 dX10_owe_106 rfl ?_
                    refine tw_iload_n 2 dX10_owe_108 rfl rfl ?_
                    refine tw_put rfl in_12 tyX8 tyX8_ok nmX8 0 dX10_owe_109 w_1443 rfl (by decide) f298 rfl rfl rfl rfl (Nat.le_of_ble_eq_true rfl) [.int (nI j31), .int 0, .int 0, .int 0, .int 0] rfl ?_
                    obtain ⟨h329, eh329⟩ : ∃ z : tw_H, z = tw_up h296 q287 (.inr (12, [.int (nI j31), .int 0, .int 0, .int 0, .int 0])) := ⟨_, rfl⟩
                    rw [← eh329]
                    have sp330 : tw_sp d τ h g τ297 h329 := by rw [eh329]; exact sp300.wl n290 z299
                    have f331 : h329 q287 = some (.inr (12, [.int (nI j31), .int 0, .int 0, .int 0, .int 0])) := by rw [eh329]; exact tw_up_s
                    refine tw_aload 0 dX10_owe_112 rfl ?_
                    refine tw_iload_n 3 dX10_owe_114 rfl rfl ?_
                    refine tw_put rfl in_12 tyX8 tyX8_ok nmX8 1 dX10_owe_115 w_1444 rfl (by decide) f331 rfl rfl rfl rfl (Nat.le_of_ble_eq_true rfl) [.int (nI j31), .int (nI j48), .int 0, .int 0, .int 0] rfl ?_
                    obtain ⟨h332, eh332⟩ : ∃ z : tw_H, z = tw_up h329 q287 (.inr (12, [.int (nI j31), .int (nI j48), .int 0, .int 0, .int 0])) := ⟨_, rfl⟩
                    rw [← eh332]
                    have sp333 : tw_sp d τ h g τ297 h332 := by rw [eh332]; exact sp330.wl n290 z299
                    have f334 : h332 q287 = some (.inr (12, [.int (nI j31), .int (nI j48), .int 0, .int 0, .int 0])) := by rw [eh332]; exact tw_up_s
                    refine tw_aload 0 dX10_owe_118 rfl ?_
                    refine tw_iload_n 4 dX10_owe_120 rfl rfl ?_
                    refine tw_put rfl in_12 tyX8 tyX8_ok nmX8 2 dX10_owe_121 w_1445 rfl (by decide) f334 rfl rfl rfl rfl (Nat.le_of_ble_eq_true rfl) [.int (nI j31), .int (nI j48), .int v, .int 0, .int 0] rfl ?_
                    obtain ⟨h335, eh335⟩ : ∃ z : tw_H, z = tw_up h332 q287 (.inr (12, [.int (nI j31), .int (nI j48), .int v, .int 0, .int 0])) := ⟨_, rfl⟩
                    rw [← eh335]
                    have sp336 : tw_sp d τ h g τ297 h335 := by rw [eh335]; exact sp333.wl n290 z299
                    have f337 : h335 q287 = some (.inr (12, [.int (nI j31), .int (nI j48), .int v, .int 0, .int 0])) := by rw [eh335]; exact tw_up_s
                    refine tw_aload 0 dX10_owe_124 rfl ?_
                    refine tw_aload_n 1 dX10_owe_126 rfl rfl ?_
                    obtain ⟨e338, f339, th_340, td_341, ds_342, fr_343, ca_344, us_345, wo_346, cm_347, lc_348, lh_349, ld_350, rfl, k351, k352, k353, k354, k355, k356, k357, k358, k359, k360, k361, k362, k363, k364⟩ := sp336.1 x 36 k301 (by decide)
                    refine tw_get (v := .int td_341) rfl in_14 1 dX10_owe_127 w_1152 rfl (by decide) f339 rfl ?_
                    refine tw_iload 5 dX10_owe_130 rfl ?_
                    refine tw_iadd dX10_owe_132 ?_
                    refine tw_nmi (fun v365 ev365 => ?_)
                    refine tw_put rfl in_12 tyX8 tyX8_ok nmX8 3 dX10_owe_133 w_1446 rfl (by decide) f337 rfl rfl rfl rfl (Nat.le_of_ble_eq_true rfl) [.int (nI j31), .int (nI j48), .int v, .int v365, .int 0] rfl ?_
                    obtain ⟨h366, eh366⟩ : ∃ z : tw_H, z = tw_up h335 q287 (.inr (12, [.int (nI j31), .int (nI j48), .int v, .int v365, .int 0])) := ⟨_, rfl⟩
                    rw [← eh366]
                    have sp367 : tw_sp d τ h g τ297 h366 := by rw [eh366]; exact sp336.wl n290 z299
                    have f368 : h366 q287 = some (.inr (12, [.int (nI j31), .int (nI j48), .int v, .int v365, .int 0])) := by rw [eh366]; exact tw_up_s
                    refine tw_aload_n 1 dX10_owe_136 rfl rfl ?_
                    obtain ⟨e369, f370, th_371, td_372, ds_373, fr_374, ca_375, us_376, wo_377, cm_378, lc_379, lh_380, ld_381, rfl, k382, k383, k384, k385, k386, k387, k388, k389, k390, k391, k392, k393, k394, k395⟩ := sp367.1 x 36 k301 (by decide)
                    refine tw_get (v := .ref ld_381) rfl in_14 11 dX10_owe_137 w_1162 rfl (by decide) f370 rfl ?_
                    refine tw_aload 0 dX10_owe_140 rfl ?_
                    obtain ⟨τ396, eτ396⟩ : ∃ z : tw_K, z = tw_ku τ297 q287 22 := ⟨_, rfl⟩
                    have le397 : tw_le τ297 τ396 := by rw [eτ396]; exact tw_ku_le z299
                    have k398 : τ396 x = 36 := le397.k k301 (by decide)
                    have k399 : τ396 ds_5 = 34 := le397.k k302 (by decide)
                    have k400 : τ396 fr_6 = 34 := le397.k k303 (by decide)
                    have k401 : τ396 ca_7 = 31 := le397.k k304 (by decide)
                    have k402 : τ396 us_8 = 31 := le397.k k305 (by decide)
                    have k403 : τ396 wo_9 = 31 := le397.k k306 (by decide)
                    have k404 : τ396 cm_10 = 31 := le397.k k307 (by decide)
                    have k405 : τ396 lc_11 = 24 := le397.k k308 (by decide)
                    have k406 : τ396 lh_12 = 25 := le397.k k309 (by decide)
                    have k407 : τ396 ld_13 = 26 := le397.k k310 (by decide)
                    have k408 : τ396 ds_203 = 34 := le397.k k311 (by decide)
                    have k409 : τ396 fr_204 = 34 := le397.k k312 (by decide)
                    have k410 : τ396 ca_205 = 31 := le397.k k313 (by decide)
                    have k411 : τ396 us_206 = 31 := le397.k k314 (by decide)
                    have k412 : τ396 wo_207 = 31 := le397.k k315 (by decide)
                    have k413 : τ396 cm_208 = 31 := le397.k k316 (by decide)
                    have k414 : τ396 lc_209 = 24 := le397.k k317 (by decide)
                    have k415 : τ396 lh_210 = 25 := le397.k k318 (by decide)
                    have k416 : τ396 ld_211 = 26 := le397.k k319 (by decide)
                    have k417 : τ396 ds_242 = 34 := le397.k k320 (by decide)
                    have k418 : τ396 fr_243 = 34 := le397.k k321 (by decide)
                    have k419 : τ396 ca_244 = 31 := le397.k k322 (by decide)
                    have k420 : τ396 us_245 = 31 := le397.k k323 (by decide)
                    have k421 : τ396 wo_246 = 31 := le397.k k324 (by decide)
                    have k422 : τ396 cm_247 = 31 := le397.k k325 (by decide)
                    have k423 : τ396 lc_248 = 24 := le397.k k326 (by decide)
                    have k424 : τ396 lh_249 = 25 := le397.k k327 (by decide)
                    have k425 : τ396 ld_250 = 26 := le397.k k328 (by decide)
                    have k426 : τ396 ds_342 = 34 := le397.k k351 (by decide)
                    have k427 : τ396 fr_343 = 34 := le397.k k352 (by decide)
                    have k428 : τ396 ca_344 = 31 := le397.k k353 (by decide)
                    have k429 : τ396 us_345 = 31 := le397.k k354 (by decide)
                    have k430 : τ396 wo_346 = 31 := le397.k k355 (by decide)
                    have k431 : τ396 cm_347 = 31 := le397.k k356 (by decide)
                    have k432 : τ396 lc_348 = 24 := le397.k k357 (by decide)
                    have k433 : τ396 lh_349 = 25 := le397.k k358 (by decide)
                    have k434 : τ396 ld_350 = 26 := le397.k k359 (by decide)
                    have k435 : τ396 ds_373 = 34 := le397.k k382 (by decide)
                    have k436 : τ396 fr_374 = 34 := le397.k k383 (by decide)
                    have k437 : τ396 ca_375 = 31 := le397.k k384 (by decide)
                    have k438 : τ396 us_376 = 31 := le397.k k385 (by decide)
                    have k439 : τ396 wo_377 = 31 := le397.k k386 (by decide)
                    have k440 : τ396 cm_378 = 31 := le397.k k387 (by decide)
                    have k441 : τ396 lc_379 = 24 := le397.k k388 (by decide)
                    have k442 : τ396 lh_380 = 25 := le397.k k389 (by decide)
                    have k443 : τ396 ld_381 = 26 := le397.k k390 (by decide)
                    have sp444 : tw_sp d τ h g τ396 h366 := by rw [eτ396]; exact sp367.ty n290 z299 f368 (by rw [← eτ396]; exact ⟨v, v365, 0, j31, j48, rfl, (by omega), (by omega), (by unfold tw_01; decide)⟩)
                    have k445 : τ396 q287 = 22 := by rw [eτ396]; exact tw_ku_s
                    obtain ⟨e446, f447, ⟨el448, rfl, k449⟩, k450⟩ := sp444.1 ld_381 26 k443 (by decide)
                    have hb9 : g.2 5 + 1 ≤ 10 := (tw_n4 c273 k393 (by decide))
                    rcases k449 with k449p | k449p
                    · obtain ⟨pa, pn, pf⟩ := k449p
                      subst pa
                      have f9 : h366 ld_381 = some (.inr (3, [.int (g.1 5), .ref (d.2 102), .int (nI 0)])) := by have z := f447; rw [pn] at z; exact z
                      refine tw_bi (tw_callV (M := mX10_owe) (pc := 142) okJx4a65c_add_9ea2d dX10_owe_142 w_1238 rfl f447 [.ref q287] [] rfl rfl ⟨by decide, by decide⟩ (Nat.le_of_ble_eq_true rfl) (c_add_new d h366 ld_381 (g.1 5) f9 q287 12 _ _ rfl (ng_12) f368 (by decide)) 8 45 (Nat.le_of_ble_eq_true rfl) (Nat.le_of_ble_eq_true rfl)) (fun r9 h451 q9 => ?_) (fun E h1 q => q.elim)
                      obtain ⟨r8, hr8, q1, q2, q3⟩ := q9
                      obtain ⟨g9, τ9, ⟨hga, hg1⟩, sp9⟩ := tw_gadd26 (F := fun _ => none) sp444.1 k443 k445 hb9 (fun j hj => by rw [pn] at hj; exact absurd hj (Nat.not_lt_zero _)) (Or.inr ⟨hr8, pf⟩) (by rw [pn]; exact q1) (by rw [pn]; exact q2) q3
                      have sp452 := sp444.tr sp9
                      have k453 : τ9 x = 36 := sp9.2.1.k k398 (by decide)
                      have k454 : τ9 ds_5 = 34 := sp9.2.1.k k399 (by decide)
                      have k455 : τ9 fr_6 = 34 := sp9.2.1.k k400 (by decide)
                      have k456 : τ9 ca_7 = 31 := sp9.2.1.k k401 (by decide)
                      have k457 : τ9 us_8 = 31 := sp9.2.1.k k402 (by decide)
                      have k458 : τ9 wo_9 = 31 := sp9.2.1.k k403 (by decide)
                      have k459 : τ9 cm_10 = 31 := sp9.2.1.k k404 (by decide)
                      have k460 : τ9 lc_11 = 24 := sp9.2.1.k k405 (by decide)
                      have k461 : τ9 lh_12 = 25 := sp9.2.1.k k406 (by decide)
                      have k462 : τ9 ld_13 = 26 := sp9.2.1.k k407 (by decide)
                      have k463 : τ9 ds_203 = 34 := sp9.2.1.k k408 (by decide)
                      have k464 : τ9 fr_204 = 34 := sp9.2.1.k k409 (by decide)
                      have k465 : τ9 ca_205 = 31 := sp9.2.1.k k410 (by decide)
                      have k466 : τ9 us_206 = 31 := sp9.2.1.k k411 (by decide)
                      have k467 : τ9 wo_207 = 31 := sp9.2.1.k k412 (by decide)
                      have k468 : τ9 cm_208 = 31 := sp9.2.1.k k413 (by decide)
                      have k469 : τ9 lc_209 = 24 := sp9.2.1.k k414 (by decide)
                      have k470 : τ9 lh_210 = 25 := sp9.2.1.k k415 (by decide)
                      have k471 : τ9 ld_211 = 26 := sp9.2.1.k k416 (by decide)
                      have k472 : τ9 ds_242 = 34 := sp9.2.1.k k417 (by decide)
                      have k473 : τ9 fr_243 = 34 := sp9.2.1.k k418 (by decide)
                      have k474 : τ9 ca_244 = 31 := sp9.2.1.k k419 (by decide)
                      have k475 : τ9 us_245 = 31 := sp9.2.1.k k420 (by decide)
                      have k476 : τ9 wo_246 = 31 := sp9.2.1.k k421 (by decide)
                      have k477 : τ9 cm_247 = 31 := sp9.2.1.k k422 (by decide)
                      have k478 : τ9 lc_248 = 24 := sp9.2.1.k k423 (by decide)
                      have k479 : τ9 lh_249 = 25 := sp9.2.1.k k424 (by decide)
                      have k480 : τ9 ld_250 = 26 := sp9.2.1.k k425 (by decide)
                      have k481 : τ9 ds_342 = 34 := sp9.2.1.k k426 (by decide)
                      have k482 : τ9 fr_343 = 34 := sp9.2.1.k k427 (by decide)
                      have k483 : τ9 ca_344 = 31 := sp9.2.1.k k428 (by decide)
                      have k484 : τ9 us_345 = 31 := sp9.2.1.k k429 (by decide)
                      have k485 : τ9 wo_346 = 31 := sp9.2.1.k k430 (by decide)
                      have k486 : τ9 cm_347 = 31 := sp9.2.1.k k431 (by decide)
                      have k487 : τ9 lc_348 = 24 := sp9.2.1.k k432 (by decide)
                      have k488 : τ9 lh_349 = 25 := sp9.2.1.k k433 (by decide)
                      have k489 : τ9 ld_350 = 26 := sp9.2.1.k k434 (by decide)
                      have k490 : τ9 ds_373 = 34 := sp9.2.1.k k435 (by decide)
                      have k491 : τ9 fr_374 = 34 := sp9.2.1.k k436 (by decide)
                      have k492 : τ9 ca_375 = 31 := sp9.2.1.k k437 (by decide)
                      have k493 : τ9 us_376 = 31 := sp9.2.1.k k438 (by decide)
                      have k494 : τ9 wo_377 = 31 := sp9.2.1.k k439 (by decide)
                      have k495 : τ9 cm_378 = 31 := sp9.2.1.k k440 (by decide)
                      have k496 : τ9 lc_379 = 24 := sp9.2.1.k k441 (by decide)
                      have k497 : τ9 lh_380 = 25 := sp9.2.1.k k442 (by decide)
                      have k498 : τ9 ld_381 = 26 := sp9.2.1.k k443 (by decide)
                      have k499 : τ9 q287 = 22 := sp9.2.1.k k445 (by decide)
                      refine tw_pop dX10_owe_145 rfl ?_
                      refine tw_aload_n 1 dX10_owe_146 rfl rfl ?_
                      obtain ⟨e500, f501, th_502, td_503, ds_504, fr_505, ca_506, us_507, wo_508, cm_509, lc_510, lh_511, ld_512, rfl, k513, k514, k515, k516, k517, k518, k519, k520, k521, k522, k523, k524, k525, k526⟩ := sp452.1 x 36 k453 (by decide)
                      refine tw_get (v := .ref ld_512) rfl in_14 11 dX10_owe_147 w_1162 rfl (by decide) f501 rfl ?_
                      obtain ⟨e527, f528, ⟨el529, rfl, k530⟩, k531⟩ := sp452.1 ld_512 26 k521 (by decide)
                      refine tw_bi (tw_callV (M := mX10_owe) (pc := 150) okJx4a65c_size_8abf5 dX10_owe_150 w_1208 rfl f528 [] [] rfl rfl ⟨by decide, by decide⟩ (Nat.le_of_ble_eq_true rfl) (c26_size d g9 τ9 h451 sp452.1 ld_512 k521) 8 45 (Nat.le_of_ble_eq_true rfl) (Nat.le_of_ble_eq_true rfl)) (fun r534 h533 q532 => ?_) (fun E h1 q => q.elim)
                      obtain ⟨q532e, q532r⟩ := q532
                      rw [q532e, q532r]
                      refine tw_iconst (v := 1) dX10_owe_153 (by decide) ?_
                      refine tw_isub dX10_owe_154 ?_
                      refine tw_nmi (fun v535 ev535 => ?_)
                      exact tw_iret dX10_owe_155 rfl (Or.inl ⟨_, rfl, ⟨_, _, hga, sp452⟩⟩)
                    · obtain ⟨e9, fa9, ⟨F9, rfl, hc9, h49⟩, un9⟩ := sp444.1 el448 29 k449p (by decide)
                      refine tw_bi (tw_callV (M := mX10_owe) (pc := 142) okJx4a65c_add_9ea2d dX10_owe_142 w_1238 rfl f447 [.ref q287] [] rfl rfl ⟨by decide, by decide⟩ (Nat.le_of_ble_eq_true rfl) (c_add_old d h366 ld_381 el448 (g.2 5) F9 (g.1 5) (by omega) f447 fa9 q287 12 _ _ rfl (ng_12) f368 (by decide)) 8 45 (Nat.le_of_ble_eq_true rfl) (Nat.le_of_ble_eq_true rfl)) (fun r9 h536 q9 => ?_) (fun E h1 q => q.elim)
                      obtain ⟨q1, q2, q3⟩ := q9
                      obtain ⟨g9, τ9, ⟨hga, hg1⟩, sp9⟩ := tw_gadd26 sp444.1 k443 k445 hb9 h49 (Or.inl k449p) q1 q2 q3
                      have sp537 := sp444.tr sp9
                      have k538 : τ9 x = 36 := sp9.2.1.k k398 (by decide)
                      have k539 : τ9 ds_5 = 34 := sp9.2.1.k k399 (by decide)
                      have k540 : τ9 fr_6 = 34 := sp9.2.1.k k400 (by decide)
                      have k541 : τ9 ca_7 = 31 := sp9.2.1.k k401 (by decide)
                      have k542 : τ9 us_8 = 31 := sp9.2.1.k k402 (by decide)
                      have k543 : τ9 wo_9 = 31 := sp9.2.1.k k403 (by decide)
                      have k544 : τ9 cm_10 = 31 := sp9.2.1.k k404 (by decide)
                      have k545 : τ9 lc_11 = 24 := sp9.2.1.k k405 (by decide)
                      have k546 : τ9 lh_12 = 25 := sp9.2.1.k k406 (by decide)
                      have k547 : τ9 ld_13 = 26 := sp9.2.1.k k407 (by decide)
                      have k548 : τ9 ds_203 = 34 := sp9.2.1.k k408 (by decide)
                      have k549 : τ9 fr_204 = 34 := sp9.2.1.k k409 (by decide)
                      have k550 : τ9 ca_205 = 31 := sp9.2.1.k k410 (by decide)
                      have k551 : τ9 us_206 = 31 := sp9.2.1.k k411 (by decide)
                      have k552 : τ9 wo_207 = 31 := sp9.2.1.k k412 (by decide)
                      have k553 : τ9 cm_208 = 31 := sp9.2.1.k k413 (by decide)
                      have k554 : τ9 lc_209 = 24 := sp9.2.1.k k414 (by decide)
                      have k555 : τ9 lh_210 = 25 := sp9.2.1.k k415 (by decide)
                      have k556 : τ9 ld_211 = 26 := sp9.2.1.k k416 (by decide)
                      have k557 : τ9 ds_242 = 34 := sp9.2.1.k k417 (by decide)
                      have k558 : τ9 fr_243 = 34 := sp9.2.1.k k418 (by decide)
                      have k559 : τ9 ca_244 = 31 := sp9.2.1.k k419 (by decide)
                      have k560 : τ9 us_245 = 31 := sp9.2.1.k k420 (by decide)
                      have k561 : τ9 wo_246 = 31 := sp9.2.1.k k421 (by decide)
                      have k562 : τ9 cm_247 = 31 := sp9.2.1.k k422 (by decide)
                      have k563 : τ9 lc_248 = 24 := sp9.2.1.k k423 (by decide)
                      have k564 : τ9 lh_249 = 25 := sp9.2.1.k k424 (by decide)
                      have k565 : τ9 ld_250 = 26 := sp9.2.1.k k425 (by decide)
                      have k566 : τ9 ds_342 = 34 := sp9.2.1.k k426 (by decide)
                      have k567 : τ9 fr_343 = 34 := sp9.2.1.k k427 (by decide)
                      have k568 : τ9 ca_344 = 31 := sp9.2.1.k k428 (by decide)
                      have k569 : τ9 us_345 = 31 := sp9.2.1.k k429 (by decide)
                      have k570 : τ9 wo_346 = 31 := sp9.2.1.k k430 (by decide)
                      have k571 : τ9 cm_347 = 31 := sp9.2.1.k k431 (by decide)
                      have k572 : τ9 lc_348 = 24 := sp9.2.1.k k432 (by decide)
                      have k573 : τ9 lh_349 = 25 := sp9.2.1.k k433 (by decide)
                      have k574 : τ9 ld_350 = 26 := sp9.2.1.k k434 (by decide)
                      have k575 : τ9 ds_373 = 34 := sp9.2.1.k k435 (by decide)
                      have k576 : τ9 fr_374 = 34 := sp9.2.1.k k436 (by decide)
                      have k577 : τ9 ca_375 = 31 := sp9.2.1.k k437 (by decide)
                      have k578 : τ9 us_376 = 31 := sp9.2.1.k k438 (by decide)
                      have k579 : τ9 wo_377 = 31 := sp9.2.1.k k439 (by decide)
                      have k580 : τ9 cm_378 = 31 := sp9.2.1.k k440 (by decide)
                      have k581 : τ9 lc_379 = 24 := sp9.2.1.k k441 (by decide)
                      have k582 : τ9 lh_380 = 25 := sp9.2.1.k k442 (by decide)
                      have k583 : τ9 ld_381 = 26 := sp9.2.1.k k443 (by decide)
                      have k584 : τ9 q287 = 22 := sp9.2.1.k k445 (by decide)
                      refine tw_pop dX10_owe_145 rfl ?_
                      refine tw_aload_n 1 dX10_owe_146 rfl rfl ?_
                      obtain ⟨e585, f586, th_587, td_588, ds_589, fr_590, ca_591, us_592, wo_593, cm_594, lc_595, lh_596, ld_597, rfl, k598, k599, k600, k601, k602, k603, k604, k605, k606, k607, k608, k609, k610, k611⟩ := sp537.1 x 36 k538 (by decide)
                      refine tw_get (v := .ref ld_597) rfl in_14 11 dX10_owe_147 w_1162 rfl (by decide) f586 rfl ?_
                      obtain ⟨e612, f613, ⟨el614, rfl, k615⟩, k616⟩ := sp537.1 ld_597 26 k606 (by decide)
                      refine tw_bi (tw_callV (M := mX10_owe) (pc := 150) okJx4a65c_size_8abf5 dX10_owe_150 w_1208 rfl f613 [] [] rfl rfl ⟨by decide, by decide⟩ (Nat.le_of_ble_eq_true rfl) (c26_size d g9 τ9 h536 sp537.1 ld_597 k606) 8 45 (Nat.le_of_ble_eq_true rfl) (Nat.le_of_ble_eq_true rfl)) (fun r619 h618 q617 => ?_) (fun E h1 q => q.elim)
                      obtain ⟨q617e, q617r⟩ := q617
                      rw [q617e, q617r]
                      refine tw_iconst (v := 1) dX10_owe_153 (by decide) ?_
                      refine tw_isub dX10_owe_154 ?_
                      refine tw_nmi (fun v620 ev620 => ?_)
                      exact tw_iret dX10_owe_155 rfl (Or.inl ⟨_, rfl, ⟨_, _, hga, sp537⟩⟩)
                · refine tw_iconst (v := 1) dX10_owe_83 (by decide) ?_
                  refine tw_goto 88 dX10_owe_84 (by decide) ?_
                  refine tw_iconst (v := 3) dX10_owe_88 (by decide) ?_
                  refine tw_bi (tw_callV (M := mX10_owe) (pc := 89) okX10_refuse dX10_owe_89 w_1204 rfl f239 [.int 1, .int 3] [] rfl rfl ⟨by decide, by decide⟩ (Nat.le_of_ble_eq_true rfl) (c_X10_refuse d g τ h227 sp234.1 x kx 1 3 (by decide)) 10 60 (Nat.le_of_ble_eq_true rfl) (Nat.le_of_ble_eq_true rfl)) (fun r623 h622 q621 => ?_) (fun E h1 q => q.elim)
                  obtain ⟨e624, he625, hs626, hr627, h3628⟩ := q621
                  have sp629 : tw_sp d τ h g τ h622 := by rw [he625]; exact sp234.set kx (by decide) hs626
                  have f630 : h622 ld_250 = some (.inr (3, [.int (g.1 5), .ref el267, .int (nI (g.2 5))])) := by rw [he625, tw_up_n (fun q => absurd (k259) (by rw [q, kx]; decide))]; exact f266
                  rcases hr627 with ei631 | ⟨ei631, ei631b⟩
                  · rw [ei631]
                    refine tw_if_eq 97 dX10_owe_92 (by decide) (fun c632 => absurd c632 (by decide)) (fun _ => ?_)
                    refine tw_iconst (v := 0) dX10_owe_95 (by decide) ?_
                    exact tw_iret dX10_owe_96 rfl (Or.inl ⟨_, rfl, ⟨_, _, ⟨rfl, rfl⟩, sp629⟩⟩)
                  · exact absurd ei631b (by decide)

set_option maxHeartbeats 4000000 in
set_option maxRecDepth 100000 in
theorem c_X10_market (d : tw_D) (g : tw_G) (τ : tw_K) (h : tw_H) (hw : tw_wt d g τ h) (x : Nat) (kx : τ x = 36) (m : Int32) : tw_Ct d mX10_market 0 0 [.ref x, .int m] h (tw_qi (fun r h1 => (∀ b, b ≠ x → h1 b = h b) ∧ (¬ (100 ≤ m ∧ m ≤ 200) ∧ tw_th (h1 x) = 1 ∧ tw_sp d τ h g τ h1 ∨ (100 ≤ m ∧ m ≤ 200) ∧ r = g.1 1 ∧ tw_th (h1 x) = 0 ∧ tw_sp d τ h (tw_g1 g 1 m) τ h1)) tw_nx) := by
  refine tw_of (by decide +kernel) (Nat.le_of_ble_eq_true rfl) ?_
  show tw_W d mX10_market _ 0 [(0, .ref x), (1, .int m)] [] h 0 0
  have sp0 := tw_sp.rf hw
  refine tw_aload_n 0 dX10_market_0 rfl rfl ?_
  refine tw_iload_n 1 dX10_market_1 rfl rfl ?_
  refine tw_bipush (v := 100) dX10_market_2 (by decide) ?_
  refine tw_sipush (v := 200) dX10_market_4 (by decide) ?_
  refine tw_bi (tw_callS (M := mX10_market) (pc := 7) okX10_isIn dX10_market_7 w_1196 [.int m, .int 100, .int 200] [.ref x] rfl rfl ⟨by decide, by decide⟩ (Nat.le_of_ble_eq_true rfl) (c_X10_isIn d g τ h sp0.1 m 100 200) 0 0 (Nat.le_of_ble_eq_true rfl) (Nat.le_of_ble_eq_true rfl)) (fun r3 h2 q1 => ?_) (fun E h1 q => q.elim)
  obtain ⟨q1e, q1d⟩ := q1
  rw [q1e]
  rcases q1d with ⟨q1r, q1n⟩ | ⟨q1r, q1a, q1b⟩
  · rw [q1r]
    refine tw_if_ne 17 dX10_market_10 (by decide) (fun c4 => absurd (by decide) c4) (fun _ => ?_)
    refine tw_iconst (v := 1) dX10_market_13 (by decide) ?_
    refine tw_goto 18 dX10_market_14 (by decide) ?_
    refine tw_iconst (v := 1) dX10_market_18 (by decide) ?_
    obtain ⟨e5, f6, th_7, td_8, ds_9, fr_10, ca_11, us_12, wo_13, cm_14, lc_15, lh_16, ld_17, rfl, k18, k19, k20, k21, k22, k23, k24, k25, k26, k27, k28, k29, k30, k31⟩ := sp0.1 x 36 kx (by decide)
    refine tw_bi (tw_callV (M := mX10_market) (pc := 19) okX10_start dX10_market_19 w_1200 rfl f6 [.int 1, .int 1] [] rfl rfl ⟨by decide, by decide⟩ (Nat.le_of_ble_eq_true rfl) (c_X10_start d g τ h sp0.1 x kx 1 1 (by decide)) 0 0 (Nat.le_of_ble_eq_true rfl) (Nat.le_of_ble_eq_true rfl)) (fun r h1 q => ?_) (fun E h1 q => q.elim)
    obtain ⟨e, he, hs, hr, h3a, h3b⟩ := q
    have sp1 : tw_sp d τ h g τ h1 := by rw [he]; exact sp0.set kx (by decide) hs
    obtain ⟨r1, t1⟩ := h3b rfl
    rw [r1]
    refine tw_if_eq 27 dX10_market_22 (by decide) (fun c32 => absurd c32 (by decide)) (fun _ => ?_)
    refine tw_iconst (v := 0) dX10_market_25 (by decide) ?_
    exact tw_iret dX10_market_26 rfl (Or.inl ⟨_, rfl, fun b hb => by rw [he, tw_up_n hb], Or.inl ⟨q1n, by rw [he, tw_up_s]; exact t1, sp1⟩⟩)
  · rw [q1r]
    refine tw_if_ne 17 dX10_market_10 (by decide) (fun _ => ?_) (fun c33 => absurd c33 (by decide))
    refine tw_iconst (v := 0) dX10_market_17 (by decide) ?_
    refine tw_iconst (v := 1) dX10_market_18 (by decide) ?_
    obtain ⟨e34, f35, th_36, td_37, ds_38, fr_39, ca_40, us_41, wo_42, cm_43, lc_44, lh_45, ld_46, rfl, k47, k48, k49, k50, k51, k52, k53, k54, k55, k56, k57, k58, k59, k60⟩ := sp0.1 x 36 kx (by decide)
    refine tw_bi (tw_callV (M := mX10_market) (pc := 19) okX10_start dX10_market_19 w_1200 rfl f35 [.int 0, .int 1] [] rfl rfl ⟨by decide, by decide⟩ (Nat.le_of_ble_eq_true rfl) (c_X10_start d g τ h sp0.1 x kx 0 1 (by decide)) 0 0 (Nat.le_of_ble_eq_true rfl) (Nat.le_of_ble_eq_true rfl)) (fun r h1 q => ?_) (fun E h1 q => q.elim)
    obtain ⟨e, he, hs, hr, h3a, h3b⟩ := q
    have sp1 : tw_sp d τ h g τ h1 := by rw [he]; exact sp0.set kx (by decide) hs
    obtain ⟨r1, t1⟩ := h3a rfl
    rw [r1]
    refine tw_if_eq 27 dX10_market_22 (by decide) (fun _ => ?_) (fun c61 => absurd (by decide) c61)
    refine tw_aload_n 0 dX10_market_27 rfl rfl ?_
    obtain ⟨e62, f63, th_64, td_65, ds_66, fr_67, ca_68, us_69, wo_70, cm_71, lc_72, lh_73, ld_74, rfl, k75, k76, k77, k78, k79, k80, k81, k82, k83, k84, k85, k86, k87, k88⟩ := sp1.1 x 36 kx (by decide)
    refine tw_get (v := .int (g.1 1)) rfl in_14 2 dX10_market_28 w_1153 rfl (by decide) f63 rfl ?_
    refine tw_istore_n [(2, .int (g.1 1)), (0, .ref x), (1, .int m)] dX10_market_31 rfl (by decide) rfl ?_
    refine tw_aload_n 1 dX10_market_32 rfl rfl ?_
    refine tw_iload_n 2 dX10_market_33 rfl rfl ?_
    have z0 : tw_th (h1 x) = 0 := by rw [he, tw_up_s]; exact t1
    rw [f63] at z0
    have q0 : th_64 = 0 := z0
    refine tw_put rfl in_14 tyX10 tyX10_ok nmX10 2 dX10_market_34 w_1153 rfl (by decide) f63 rfl rfl rfl rfl (Nat.le_of_ble_eq_true rfl) [.int th_64, .int td_65, .int m, .ref ds_66, .ref fr_67, .ref ca_68, .ref us_69, .ref wo_70, .ref cm_71, .ref lc_72, .ref lh_73, .ref ld_74] rfl ?_
    obtain ⟨h89, eh89⟩ : ∃ z : tw_H, z = tw_up h1 x (.inr (14, [.int th_64, .int td_65, .int m, .ref ds_66, .ref fr_67, .ref ca_68, .ref us_69, .ref wo_70, .ref cm_71, .ref lc_72, .ref lh_73, .ref ld_74])) := ⟨_, rfl⟩
    rw [← eh89]
    have f90 : h89 x = some (.inr (14, [.int th_64, .int td_65, .int m, .ref ds_66, .ref fr_67, .ref ca_68, .ref us_69, .ref wo_70, .ref cm_71, .ref lc_72, .ref lh_73, .ref ld_74])) := by rw [eh89]; exact tw_up_s
    have sp2 : tw_sp d τ h (tw_g1 g 1 m) τ h89 := by rw [eh89]; exact sp1.m36 kx ⟨th_64, td_65, ds_66, fr_67, ca_68, us_69, wo_70, cm_71, lc_72, lh_73, ld_74, rfl, k75, k76, k77, k78, k79, k80, k81, k82, k83, k84, k85, k86, k87, k88⟩
    refine tw_iload_n 0 dX10_market_37 rfl rfl ?_
    exact tw_iret dX10_market_38 rfl (Or.inl ⟨_, rfl, fun b hb => by rw [eh89, tw_up_n hb, he, tw_up_n hb], Or.inr ⟨⟨q1a, q1b⟩, rfl, by rw [f90]; exact q0, sp2⟩⟩)

/-! the class's methods over the typed heap. Laid by wip/p5/mkclass.py. -/
set_option maxHeartbeats 4000000 in
set_option maxRecDepth 100000 in
theorem c_X9_init (d : tw_D) (g : tw_G) (τ : tw_K) (h : tw_H) (hw : tw_wt d g τ h) (x : Nat) (hz : τ x = 0) (hx : h x = some (.inr (13, [.int 0, .int 0, .int 0, .null]))) : tw_Ct d mX9_init 1 2 [.ref x] h (tw_qv (fun h1 => ∃ (τ1 : tw_K) (p : Nat), tw_sp d τ (tw_rm h x) g τ1 h1 ∧ h1 x = some (.inr (13, [.int 0, .int (-1), .int (-1), .ref p])) ∧ τ1 x = 0 ∧ τ1 p = 31) tw_nx) := by
  refine tw_of (by decide +kernel) (Nat.le_of_ble_eq_true rfl) ?_
  show tw_W d mX9_init _ 0 [(0, .ref x)] [] h 1 2
  have sp0 := tw_sp.rm hw x
  refine tw_aload_n 0 dX9_init_0 rfl rfl ?_
  refine tw_objInit dX9_init_1 w_1341 w_117 w_118 ⟨by decide, Nat.le_of_ble_eq_true rfl⟩ ?_
  refine tw_aload_n 0 dX9_init_4 rfl rfl ?_
  refine tw_iconst (v := -1) dX9_init_5 (by decide) ?_
  refine tw_put rfl in_13 tyX9 tyX9_ok nmX9 1 dX9_init_6 w_1343 rfl (by decide) hx rfl rfl rfl rfl (Nat.le_of_ble_eq_true rfl) [.int 0, .int (-1), .int 0, .null] rfl ?_
  obtain ⟨h1, eh1⟩ : ∃ z : tw_H, z = tw_up h x (.inr (13, [.int 0, .int (-1), .int 0, .null])) := ⟨_, rfl⟩
  rw [← eh1]
  have sp2 : tw_sp d τ (tw_rm h x) g τ h1 := by rw [eh1]; exact sp0.wl tw_rm_s hz
  have f3 : h1 x = some (.inr (13, [.int 0, .int (-1), .int 0, .null])) := by rw [eh1]; exact tw_up_s
  refine tw_aload_n 0 dX9_init_9 rfl rfl ?_
  refine tw_iconst (v := -1) dX9_init_10 (by decide) ?_
  refine tw_put rfl in_13 tyX9 tyX9_ok nmX9 2 dX9_init_11 w_1345 rfl (by decide) f3 rfl rfl rfl rfl (Nat.le_of_ble_eq_true rfl) [.int 0, .int (-1), .int (-1), .null] rfl ?_
  obtain ⟨h4, eh4⟩ : ∃ z : tw_H, z = tw_up h1 x (.inr (13, [.int 0, .int (-1), .int (-1), .null])) := ⟨_, rfl⟩
  rw [← eh4]
  have sp5 : tw_sp d τ (tw_rm h x) g τ h4 := by rw [eh4]; exact sp2.wl tw_rm_s hz
  have f6 : h4 x = some (.inr (13, [.int 0, .int (-1), .int (-1), .null])) := by rw [eh4]; exact tw_up_s
  refine tw_aload_n 0 dX9_init_14 rfl rfl ?_
  refine tw_iconst (v := 2) dX9_init_15 (by decide) ?_
  refine tw_newa (a0 := (2, .inr (.inl (fun _ => 0)))) 1 rfl dX9_init_16 rfl w_1150 (fun _ => rfl) (by decide) (by decide) (by decide) 0 0 (Nat.le_of_ble_eq_true rfl) (Nat.le_of_ble_eq_true rfl) (fun q7 hq8 hA9 => ?_)
  have n10 := sp5.nn hq8
  have z11 := sp5.1.none hq8
  have ne12 := tw_neF f6 hq8
  obtain ⟨h13, eh13⟩ : ∃ z : tw_H, z = tw_up h4 q7 (.inl (d.2 1, 2, .inr (.inl (fun _ => 0)))) := ⟨_, rfl⟩
  rw [← eh13]
  have sp14 : tw_sp d τ (tw_rm h x) g τ h13 := by rw [eh13]; exact sp5.mk hq8
  have f15 : h13 x = some (.inr (13, [.int 0, .int (-1), .int (-1), .null])) := by rw [eh13, tw_up_n ne12]; exact f6
  have f16 : h13 q7 = some (.inl (d.2 1, 2, .inr (.inl (fun _ => 0)))) := by rw [eh13]; exact tw_up_s
  obtain ⟨τ17, eτ17⟩ : ∃ z : tw_K, z = tw_ku τ q7 31 := ⟨_, rfl⟩
  have le18 : tw_le τ τ17 := by rw [eτ17]; exact tw_ku_le z11
  have sp19 : tw_sp d τ (tw_rm h x) g τ17 h13 := by rw [eτ17]; exact sp14.ty n10 z11 f16 (by rw [← eτ17]; exact ⟨_, rfl⟩)
  have k20 : τ17 q7 = 31 := by rw [eτ17]; exact tw_ku_s
  have z21 : τ17 x = 0 := by rw [eτ17, tw_ku_n ne12]; exact hz
  refine tw_put rfl in_13 tyX9 tyX9_ok nmX9 3 dX9_init_18 w_1347 rfl (by decide) f15 rfl rfl rfl rfl (Nat.le_of_ble_eq_true rfl) [.int 0, .int (-1), .int (-1), .ref q7] rfl ?_
  obtain ⟨h22, eh22⟩ : ∃ z : tw_H, z = tw_up h13 x (.inr (13, [.int 0, .int (-1), .int (-1), .ref q7])) := ⟨_, rfl⟩
  rw [← eh22]
  have sp23 : tw_sp d τ (tw_rm h x) g τ17 h22 := by rw [eh22]; exact sp19.wl tw_rm_s z21
  have f24 : h22 x = some (.inr (13, [.int 0, .int (-1), .int (-1), .ref q7])) := by rw [eh22]; exact tw_up_s
  exact tw_vret dX9_init_21 rfl (Or.inl ⟨rfl, _, q7, sp23, f24, z21, k20⟩)

set_option maxHeartbeats 4000000 in
set_option maxRecDepth 100000 in
theorem c_X8_init (d : tw_D) (g : tw_G) (τ : tw_K) (h : tw_H) (hw : tw_wt d g τ h) (x : Nat) (hz : τ x = 0) (hx : h x = some (.inr (12, [.int 0, .int 0, .int 0, .int 0, .int 0]))) : tw_Ct d mX8_init 0 0 [.ref x] h (tw_qv (fun h1 => ∃ (τ1 : tw_K), tw_sp d τ (tw_rm h x) g τ1 h1 ∧ h1 x = some (.inr (12, [.int 0, .int 0, .int 0, .int 0, .int 0])) ∧ τ1 x = 0) tw_nx) := by
  refine tw_of (by decide +kernel) (Nat.le_of_ble_eq_true rfl) ?_
  show tw_W d mX8_init _ 0 [(0, .ref x)] [] h 0 0
  have sp0 := tw_sp.rm hw x
  refine tw_aload_n 0 dX8_init_0 rfl rfl ?_
  refine tw_objInit dX8_init_1 w_1442 w_117 w_118 ⟨by decide, Nat.le_of_ble_eq_true rfl⟩ ?_
  exact tw_vret dX8_init_4 rfl (Or.inl ⟨rfl, _, sp0, hx, hz⟩)

set_option maxHeartbeats 4000000 in
set_option maxRecDepth 100000 in
theorem c_X10_house (d : tw_D) (g : tw_G) (τ : tw_K) (h : tw_H) (hw : tw_wt d g τ h) (x : Nat) (kx : τ x = 36) (a : Int32) (go : Int32) (si : Int32) : tw_Ct d mX10_house 10 60 [.ref x, .int a, .int go, .int si] h (tw_qi (fun r h1 => ∃ g1 τ1, tw_ga g g1 ∧ tw_sp d τ h g1 τ1 h1) tw_nx) := by
  refine tw_of (by decide +kernel) (Nat.le_of_ble_eq_true rfl) ?_
  show tw_W d mX10_house _ 0 [(0, .ref x), (1, .int a), (2, .int go), (3, .int si)] [] h 10 60
  have sp0 := tw_sp.rf hw
  refine tw_aload_n 0 dX10_house_0 rfl rfl ?_
  refine tw_aload_n 0 dX10_house_1 rfl rfl ?_
  refine tw_iload_n 1 dX10_house_2 rfl rfl ?_
  obtain ⟨e1, f2, th_3, td_4, ds_5, fr_6, ca_7, us_8, wo_9, cm_10, lc_11, lh_12, ld_13, rfl, k14, k15, k16, k17, k18, k19, k20, k21, k22, k23, k24, k25, k26, k27, k28, k29, k30, k31⟩ := sp0.1 x 36 kx (by decide)
  refine tw_bi (tw_callV (M := mX10_house) (pc := 3) okX10_isNoCountry dX10_house_3 w_1292 rfl f2 [.int a] [.ref x] rfl rfl ⟨by decide, by decide⟩ (Nat.le_of_ble_eq_true rfl) (c_X10_isNoCountry d g τ h sp0.1 x kx a) 10 60 (Nat.le_of_ble_eq_true rfl) (Nat.le_of_ble_eq_true rfl)) (fun r34 h33 q32 => ?_) (fun E h1 q => q.elim)
  obtain ⟨q32e, q32d⟩ := q32
  rw [q32e]
  rcases q32d with q32r | ⟨q32r, j35, q32j, q32k⟩
  · rw [q32r]
    refine tw_iconst (v := 1) dX10_house_6 (by decide) ?_
    refine tw_bi (tw_callV (M := mX10_house) (pc := 7) okX10_start dX10_house_7 w_1200 rfl f2 [.int 1, .int 1] [] rfl rfl ⟨by decide, by decide⟩ (Nat.le_of_ble_eq_true rfl) (c_X10_start d g τ h sp0.1 x kx 1 1 (by decide)) 10 60 (Nat.le_of_ble_eq_true rfl) (Nat.le_of_ble_eq_true rfl)) (fun r38 h37 q36 => ?_) (fun E h1 q => q.elim)
    obtain ⟨e39, he40, hs41, hr42, h343⟩ := q36
    have sp44 : tw_sp d τ h g τ h37 := by rw [he40]; exact sp0.set kx (by decide) hs41
    rcases hr42 with ei45 | ⟨ei45, ei45b⟩
    · rw [ei45]
      refine tw_if_ne 71 dX10_house_10 (by decide) (fun _ => ?_) (fun c46 => absurd c46 (by decide))
      refine tw_iconst (v := 0) dX10_house_71 (by decide) ?_
      exact tw_iret dX10_house_72 rfl (Or.inl ⟨_, rfl, ⟨_, _, ⟨rfl, rfl⟩, sp44⟩⟩)
    · exact absurd ei45b (by decide)
  · rw [q32r]
    subst q32k
    refine tw_iconst (v := 1) dX10_house_6 (by decide) ?_
    refine tw_bi (tw_callV (M := mX10_house) (pc := 7) okX10_start dX10_house_7 w_1200 rfl f2 [.int 0, .int 1] [] rfl rfl ⟨by decide, by decide⟩ (Nat.le_of_ble_eq_true rfl) (c_X10_start d g τ h sp0.1 x kx 0 1 (by decide)) 10 60 (Nat.le_of_ble_eq_true rfl) (Nat.le_of_ble_eq_true rfl)) (fun r49 h48 q47 => ?_) (fun E h1 q => q.elim)
    obtain ⟨e50, he51, hs52, hr53, h354⟩ := q47
    have sp55 : tw_sp d τ h g τ h48 := by rw [he51]; exact sp0.set kx (by decide) hs52
    rcases hr53 with ei56 | ⟨ei56, ei56b⟩
    · rw [ei56]
      refine tw_if_ne 71 dX10_house_10 (by decide) (fun _ => ?_) (fun c57 => absurd c57 (by decide))
      refine tw_iconst (v := 0) dX10_house_71 (by decide) ?_
      exact tw_iret dX10_house_72 rfl (Or.inl ⟨_, rfl, ⟨_, _, ⟨rfl, rfl⟩, sp55⟩⟩)
    · rw [ei56]
      refine tw_if_ne 71 dX10_house_10 (by decide) (fun c58 => absurd (by decide) c58) (fun _ => ?_)
      refine tw_aload_n 0 dX10_house_13 rfl rfl ?_
      refine tw_iload_n 2 dX10_house_14 rfl rfl ?_
      refine tw_iconst (v := 0) dX10_house_15 (by decide) ?_
      refine tw_ldc (v := 99999) dX10_house_16 w_1199 ?_
      refine tw_bi (tw_callS (M := mX10_house) (pc := 18) okX10_isIn dX10_house_18 w_1196 [.int go, .int 0, .int 99999] [.ref x] rfl rfl ⟨by decide, by decide⟩ (Nat.le_of_ble_eq_true rfl) (c_X10_isIn d g τ h48 sp55.1 go 0 99999) 10 60 (Nat.le_of_ble_eq_true rfl) (Nat.le_of_ble_eq_true rfl)) (fun r61 h60 q59 => ?_) (fun E h1 q => q.elim)
      obtain ⟨q59e, q59d⟩ := q59
      rw [q59e]
      rcases q59d with ⟨q59r, q59n⟩ | ⟨q59r, q59a, q59b⟩
      · rw [q59r]
        refine tw_if_eq 34 dX10_house_21 (by decide) (fun _ => ?_) (fun c62 => absurd (by decide) c62)
        refine tw_iconst (v := 1) dX10_house_34 (by decide) ?_
        refine tw_goto 39 dX10_house_35 (by decide) ?_
        refine tw_iconst (v := 2) dX10_house_39 (by decide) ?_
        obtain ⟨e63, f64, th_65, td_66, ds_67, fr_68, ca_69, us_70, wo_71, cm_72, lc_73, lh_74, ld_75, rfl, k76, k77, k78, k79, k80, k81, k82, k83, k84, k85, k86, k87, k88, k89, k90, k91, k92, k93⟩ := sp55.1 x 36 kx (by decide)
        refine tw_bi (tw_callV (M := mX10_house) (pc := 40) okX10_refuse dX10_house_40 w_1204 rfl f64 [.int 1, .int 2] [] rfl rfl ⟨by decide, by decide⟩ (Nat.le_of_ble_eq_true rfl) (c_X10_refuse d g τ h48 sp55.1 x kx 1 2 (by decide)) 10 60 (Nat.le_of_ble_eq_true rfl) (Nat.le_of_ble_eq_true rfl)) (fun r96 h95 q94 => ?_) (fun E h1 q => q.elim)
        obtain ⟨e97, he98, hs99, hr100, h3101⟩ := q94
        have sp102 : tw_sp d τ h g τ h95 := by rw [he98]; exact sp55.set kx (by decide) hs99
        rcases hr100 with ei103 | ⟨ei103, ei103b⟩
        · rw [ei103]
          refine tw_if_ne 71 dX10_house_43 (by decide) (fun _ => ?_) (fun c104 => absurd c104 (by decide))
          refine tw_iconst (v := 0) dX10_house_71 (by decide) ?_
          exact tw_iret dX10_house_72 rfl (Or.inl ⟨_, rfl, ⟨_, _, ⟨rfl, rfl⟩, sp102⟩⟩)
        · exact absurd ei103b (by decide)
      · rw [q59r]
        refine tw_if_eq 34 dX10_house_21 (by decide) (fun c105 => absurd c105 (by decide)) (fun _ => ?_)
        refine tw_iload_n 3 dX10_house_24 rfl rfl ?_
        refine tw_iconst (v := 0) dX10_house_25 (by decide) ?_
        refine tw_ldc (v := 99999) dX10_house_26 w_1199 ?_
        refine tw_bi (tw_callS (M := mX10_house) (pc := 28) okX10_isIn dX10_house_28 w_1196 [.int si, .int 0, .int 99999] [.ref x] rfl rfl ⟨by decide, by decide⟩ (Nat.le_of_ble_eq_true rfl) (c_X10_isIn d g τ h48 sp55.1 si 0 99999) 10 60 (Nat.le_of_ble_eq_true rfl) (Nat.le_of_ble_eq_true rfl)) (fun r108 h107 q106 => ?_) (fun E h1 q => q.elim)
        obtain ⟨q106e, q106d⟩ := q106
        rw [q106e]
        rcases q106d with ⟨q106r, q106n⟩ | ⟨q106r, q106a, q106b⟩
        · rw [q106r]
          refine tw_if_ne 38 dX10_house_31 (by decide) (fun c109 => absurd (by decide) c109) (fun _ => ?_)
          refine tw_iconst (v := 1) dX10_house_34 (by decide) ?_
          refine tw_goto 39 dX10_house_35 (by decide) ?_
          refine tw_iconst (v := 2) dX10_house_39 (by decide) ?_
          obtain ⟨e110, f111, th_112, td_113, ds_114, fr_115, ca_116, us_117, wo_118, cm_119, lc_120, lh_121, ld_122, rfl, k123, k124, k125, k126, k127, k128, k129, k130, k131, k132, k133, k134, k135, k136, k137, k138, k139, k140⟩ := sp55.1 x 36 kx (by decide)
          refine tw_bi (tw_callV (M := mX10_house) (pc := 40) okX10_refuse dX10_house_40 w_1204 rfl f111 [.int 1, .int 2] [] rfl rfl ⟨by decide, by decide⟩ (Nat.le_of_ble_eq_true rfl) (c_X10_refuse d g τ h48 sp55.1 x kx 1 2 (by decide)) 10 60 (Nat.le_of_ble_eq_true rfl) (Nat.le_of_ble_eq_true rfl)) (fun r143 h142 q141 => ?_) (fun E h1 q => q.elim)
          obtain ⟨e144, he145, hs146, hr147, h3148⟩ := q141
          have sp149 : tw_sp d τ h g τ h142 := by rw [he145]; exact sp55.set kx (by decide) hs146
          rcases hr147 with ei150 | ⟨ei150, ei150b⟩
          · rw [ei150]
            refine tw_if_ne 71 dX10_house_43 (by decide) (fun _ => ?_) (fun c151 => absurd c151 (by decide))
            refine tw_iconst (v := 0) dX10_house_71 (by decide) ?_
            exact tw_iret dX10_house_72 rfl (Or.inl ⟨_, rfl, ⟨_, _, ⟨rfl, rfl⟩, sp149⟩⟩)
          · exact absurd ei150b (by decide)
        · rw [q106r]
          refine tw_if_ne 38 dX10_house_31 (by decide) (fun _ => ?_) (fun c152 => absurd c152 (by decide))
          refine tw_iconst (v := 0) dX10_house_38 (by decide) ?_
          refine tw_iconst (v := 2) dX10_house_39 (by decide) ?_
          obtain ⟨e153, f154, th_155, td_156, ds_157, fr_158, ca_159, us_160, wo_161, cm_162, lc_163, lh_164, ld_165, rfl, k166, k167, k168, k169, k170, k171, k172, k173, k174, k175, k176, k177, k178, k179, k180, k181, k182, k183⟩ := sp55.1 x 36 kx (by decide)
          refine tw_bi (tw_callV (M := mX10_house) (pc := 40) okX10_refuse dX10_house_40 w_1204 rfl f154 [.int 0, .int 2] [] rfl rfl ⟨by decide, by decide⟩ (Nat.le_of_ble_eq_true rfl) (c_X10_refuse d g τ h48 sp55.1 x kx 0 2 (by decide)) 10 60 (Nat.le_of_ble_eq_true rfl) (Nat.le_of_ble_eq_true rfl)) (fun r186 h185 q184 => ?_) (fun E h1 q => q.elim)
          obtain ⟨e187, he188, hs189, hr190, h3191⟩ := q184
          have sp192 : tw_sp d τ h g τ h185 := by rw [he188]; exact sp55.set kx (by decide) hs189
          rcases hr190 with ei193 | ⟨ei193, ei193b⟩
          · rw [ei193]
            refine tw_if_ne 71 dX10_house_43 (by decide) (fun _ => ?_) (fun c194 => absurd c194 (by decide))
            refine tw_iconst (v := 0) dX10_house_71 (by decide) ?_
            exact tw_iret dX10_house_72 rfl (Or.inl ⟨_, rfl, ⟨_, _, ⟨rfl, rfl⟩, sp192⟩⟩)
          · rw [ei193]
            refine tw_if_ne 71 dX10_house_43 (by decide) (fun c195 => absurd (by decide) c195) (fun _ => ?_)
            refine tw_aload_n 0 dX10_house_46 rfl rfl ?_
            refine tw_aload_n 0 dX10_house_47 rfl rfl ?_
            obtain ⟨e196, f197, th_198, td_199, ds_200, fr_201, ca_202, us_203, wo_204, cm_205, lc_206, lh_207, ld_208, rfl, k209, k210, k211, k212, k213, k214, k215, k216, k217, k218, k219, k220, k221, k222, k223, k224, k225, k226⟩ := sp192.1 x 36 kx (by decide)
            refine tw_get (v := .ref lh_207) rfl in_14 10 dX10_house_48 w_1161 rfl (by decide) f197 rfl ?_
            obtain ⟨e227, f228, ⟨el229, rfl, k230⟩, k231⟩ := sp192.1 lh_207 25 k216 (by decide)
            refine tw_bi (tw_callV (M := mX10_house) (pc := 51) okJx4a65c_size_8abf5 dX10_house_51 w_1208 rfl f228 [] [.ref x] rfl rfl ⟨by decide, by decide⟩ (Nat.le_of_ble_eq_true rfl) (c25_size d g τ h185 sp192.1 lh_207 k216) 10 60 (Nat.le_of_ble_eq_true rfl) (Nat.le_of_ble_eq_true rfl)) (fun r234 h233 q232 => ?_) (fun E h1 q => q.elim)
            obtain ⟨q232e, q232r⟩ := q232
            rw [q232e, q232r]
            refine tw_bipush (v := 6) dX10_house_54 (by decide) ?_
            refine tw_icmp_ne 63 dX10_house_56 (by decide) (fun c235 => ?_) (fun c235 => ?_)
            · refine tw_iconst (v := 0) dX10_house_63 (by decide) ?_
              refine tw_iconst (v := 3) dX10_house_64 (by decide) ?_
              refine tw_bi (tw_callV (M := mX10_house) (pc := 65) okX10_refuse dX10_house_65 w_1204 rfl f197 [.int 0, .int 3] [] rfl rfl ⟨by decide, by decide⟩ (Nat.le_of_ble_eq_true rfl) (c_X10_refuse d g τ h185 sp192.1 x kx 0 3 (by decide)) 10 60 (Nat.le_of_ble_eq_true rfl) (Nat.le_of_ble_eq_true rfl)) (fun r238 h237 q236 => ?_) (fun E h1 q => q.elim)
              obtain ⟨e239, he240, hs241, hr242, h3243⟩ := q236
              have sp244 : tw_sp d τ h g τ h237 := by rw [he240]; exact sp192.set kx (by decide) hs241
              have f245 : h237 lh_207 = some (.inr (3, [.int (g.1 4), .ref el229, .int (nI (g.2 4))])) := by rw [he240, tw_up_n (fun q => absurd (k216) (by rw [q, kx]; decide))]; exact f228
              rcases hr242 with ei246 | ⟨ei246, ei246b⟩
              · rw [ei246]
                refine tw_if_eq 73 dX10_house_68 (by decide) (fun c247 => absurd c247 (by decide)) (fun _ => ?_)
                refine tw_iconst (v := 0) dX10_house_71 (by decide) ?_
                exact tw_iret dX10_house_72 rfl (Or.inl ⟨_, rfl, ⟨_, _, ⟨rfl, rfl⟩, sp244⟩⟩)
              · rw [ei246]
                refine tw_if_eq 73 dX10_house_68 (by decide) (fun _ => ?_) (fun c248 => absurd (by decide) c248)
                refine tw_new (ci := 13) rfl in_13 tyX9 tyX9_ok dX10_house_73 w_1336 w_1337 w_100 (fs := [.int 0, .int 0, .int 0, .null]) (fun j hj => by rcases (show j = 0 ∨ j = 1 ∨ j = 2 ∨ j = 3 by omega) with rfl | rfl | rfl | rfl <;> rfl) 9 56 (Nat.le_of_ble_eq_true rfl) (Nat.le_of_ble_eq_true rfl) (fun q249 hq250 hA251 => ?_)
                have n252 := sp244.nn hq250
                have z253 := sp244.1.none hq250
                obtain ⟨h254, eh254⟩ : ∃ z : tw_H, z = tw_up h237 q249 (.inr (13, [.int 0, .int 0, .int 0, .null])) := ⟨_, rfl⟩
                rw [← eh254]
                have sp255 : tw_sp d τ h g τ h254 := by rw [eh254]; exact sp244.mk hq250
                have f256 : h254 q249 = some (.inr (13, [.int 0, .int 0, .int 0, .null])) := by rw [eh254]; exact tw_up_s
                refine tw_dup dX10_house_76 rfl ?_
                refine tw_bv (tw_callIN (M := mX10_house) (pc := 77) okX9_init dX10_house_77 w_1338 rfl [] [.ref q249] rfl rfl ⟨by decide, by decide⟩ (Nat.le_of_ble_eq_true rfl) (c_X9_init d g τ h254 sp255.1 q249 z253 f256) 8 54 (Nat.le_of_ble_eq_true rfl) (Nat.le_of_ble_eq_true rfl)) (fun h258 q257 => ?_) (fun E h1 q => q.elim)
                obtain ⟨τ259, p260, q257s, f261, z262, k263⟩ := q257
                have sp264 := sp255.trm n252 q257s
                have k265 : τ259 x = 36 := q257s.2.1.k kx (by decide)
                have k266 : τ259 ds_5 = 34 := q257s.2.1.k k14 (by decide)
                have k267 : τ259 fr_6 = 34 := q257s.2.1.k k15 (by decide)
                have k268 : τ259 ca_7 = 31 := q257s.2.1.k k16 (by decide)
                have k269 : τ259 us_8 = 31 := q257s.2.1.k k17 (by decide)
                have k270 : τ259 wo_9 = 31 := q257s.2.1.k k18 (by decide)
                have k271 : τ259 cm_10 = 31 := q257s.2.1.k k19 (by decide)
                have k272 : τ259 lc_11 = 24 := q257s.2.1.k k20 (by decide)
                have k273 : τ259 lh_12 = 25 := q257s.2.1.k k21 (by decide)
                have k274 : τ259 ld_13 = 26 := q257s.2.1.k k22 (by decide)
                have k275 : τ259 ds_157 = 34 := q257s.2.1.k k166 (by decide)
                have k276 : τ259 fr_158 = 34 := q257s.2.1.k k167 (by decide)
                have k277 : τ259 ca_159 = 31 := q257s.2.1.k k168 (by decide)
                have k278 : τ259 us_160 = 31 := q257s.2.1.k k169 (by decide)
                have k279 : τ259 wo_161 = 31 := q257s.2.1.k k170 (by decide)
                have k280 : τ259 cm_162 = 31 := q257s.2.1.k k171 (by decide)
                have k281 : τ259 lc_163 = 24 := q257s.2.1.k k172 (by decide)
                have k282 : τ259 lh_164 = 25 := q257s.2.1.k k173 (by decide)
                have k283 : τ259 ld_165 = 26 := q257s.2.1.k k174 (by decide)
                have k284 : τ259 ds_200 = 34 := q257s.2.1.k k209 (by decide)
                have k285 : τ259 fr_201 = 34 := q257s.2.1.k k210 (by decide)
                have k286 : τ259 ca_202 = 31 := q257s.2.1.k k211 (by decide)
                have k287 : τ259 us_203 = 31 := q257s.2.1.k k212 (by decide)
                have k288 : τ259 wo_204 = 31 := q257s.2.1.k k213 (by decide)
                have k289 : τ259 cm_205 = 31 := q257s.2.1.k k214 (by decide)
                have k290 : τ259 lc_206 = 24 := q257s.2.1.k k215 (by decide)
                have k291 : τ259 lh_207 = 25 := q257s.2.1.k k216 (by decide)
                have k292 : τ259 ld_208 = 26 := q257s.2.1.k k217 (by decide)
                refine tw_astore [(4, .ref q249), (0, .ref x), (1, .int (nI j35)), (2, .int go), (3, .int si)] dX10_house_80 (by decide) rfl ?_
                refine tw_aload 0 dX10_house_82 rfl ?_
                refine tw_iload_n 2 dX10_house_84 rfl rfl ?_
                refine tw_put rfl in_13 tyX9 tyX9_ok nmX9 0 dX10_house_85 w_1342 rfl (by decide) f261 rfl rfl rfl rfl (Nat.le_of_ble_eq_true rfl) [.int (nI j35), .int (-1), .int (-1), .ref p260] rfl ?_
                obtain ⟨h293, eh293⟩ : ∃ z : tw_H, z = tw_up h258 q249 (.inr (13, [.int (nI j35), .int (-1), .int (-1), .ref p260])) := ⟨_, rfl⟩
                rw [← eh293]
                have sp294 : tw_sp d τ h g τ259 h293 := by rw [eh293]; exact sp264.wl n252 z262
                have f295 : h293 q249 = some (.inr (13, [.int (nI j35), .int (-1), .int (-1), .ref p260])) := by rw [eh293]; exact tw_up_s
                refine tw_aload 0 dX10_house_88 rfl ?_
                refine tw_get (v := .ref p260) rfl in_13 3 dX10_house_90 w_1348 rfl (by decide) f295 rfl ?_
                refine tw_iconst (v := 0) dX10_house_93 (by decide) ?_
                refine tw_iload_n 3 dX10_house_94 rfl rfl ?_
                refine tw_i2l dX10_house_95 ?_
                refine tw_nml (fun v296 ev296 => ?_)
                obtain ⟨e297, f298, F299, rfl⟩ := sp294.1 p260 31 k263 (by decide)
                refine tw_last dX10_house_96 f298 (vp_in_nI (n := 0) (by decide) (by decide)) ?_
                obtain ⟨h300, eh300⟩ : ∃ z : tw_H, z = tw_up h293 p260 (.inl (d.2 1, 2, .inr (.inl (vp_updL F299 (0 : Int32).toNatClampNeg v296)))) := ⟨_, rfl⟩
                rw [← eh300]
                have sp301 : tw_sp d τ h g τ259 h300 := by rw [eh300]; exact sp294.set k263 (by decide) ⟨_, rfl⟩
                have f302 : h300 q249 = some (.inr (13, [.int (nI j35), .int (-1), .int (-1), .ref p260])) := by rw [eh300, tw_up_n (fun q => absurd (z262) (by rw [q, k263]; decide))]; exact f295
                refine tw_aload 0 dX10_house_97 rfl ?_
                refine tw_get (v := .ref p260) rfl in_13 3 dX10_house_99 w_1348 rfl (by decide) f302 rfl ?_
                refine tw_iconst (v := 1) dX10_house_102 (by decide) ?_
                refine tw_iload_n 4 dX10_house_103 rfl rfl ?_
                refine tw_i2l dX10_house_104 ?_
                refine tw_nml (fun v303 ev303 => ?_)
                obtain ⟨e304, f305, F306, rfl⟩ := sp301.1 p260 31 k263 (by decide)
                refine tw_last dX10_house_105 f305 (vp_in_nI (n := 1) (by decide) (by decide)) ?_
                obtain ⟨h307, eh307⟩ : ∃ z : tw_H, z = tw_up h300 p260 (.inl (d.2 1, 2, .inr (.inl (vp_updL F306 (1 : Int32).toNatClampNeg v303)))) := ⟨_, rfl⟩
                rw [← eh307]
                have sp308 : tw_sp d τ h g τ259 h307 := by rw [eh307]; exact sp301.set k263 (by decide) ⟨_, rfl⟩
                have f309 : h307 q249 = some (.inr (13, [.int (nI j35), .int (-1), .int (-1), .ref p260])) := by rw [eh307, tw_up_n (fun q => absurd (z262) (by rw [q, k263]; decide))]; exact f302
                refine tw_aload_n 1 dX10_house_106 rfl rfl ?_
                obtain ⟨e310, f311, th_312, td_313, ds_314, fr_315, ca_316, us_317, wo_318, cm_319, lc_320, lh_321, ld_322, rfl, k323, k324, k325, k326, k327, k328, k329, k330, k331, k332, k333, k334, k335, k336, k337, k338, k339, k340⟩ := sp308.1 x 36 k265 (by decide)
                refine tw_get (v := .ref cm_319) rfl in_14 8 dX10_house_107 w_1159 rfl (by decide) f311 rfl ?_
                refine tw_iconst (v := 0) dX10_house_110 (by decide) ?_
                refine tw_dup2 dX10_house_111 rfl rfl ?_
                obtain ⟨e341, f342, F343, rfl⟩ := sp308.1 cm_319 31 k328 (by decide)
                obtain ⟨v344, ev344⟩ : ∃ y : Int64, F343 (0 : Int32).toNatClampNeg = y := ⟨_, rfl⟩
                refine tw_lald (v := v344) dX10_house_112 f342 (vp_in_nI (n := 0) (by decide) (by decide)) ev344 ?_
                refine tw_iload_n 3 dX10_house_113 rfl rfl ?_
                refine tw_i2l dX10_house_114 ?_
                refine tw_nml (fun v345 ev345 => ?_)
                refine tw_ladd dX10_house_115 ?_
                refine tw_nml (fun v346 ev346 => ?_)
                refine tw_last dX10_house_116 f342 (vp_in_nI (n := 0) (by decide) (by decide)) ?_
                obtain ⟨h347, eh347⟩ : ∃ z : tw_H, z = tw_up h307 cm_319 (.inl (d.2 1, 2, .inr (.inl (vp_updL F343 (0 : Int32).toNatClampNeg v346)))) := ⟨_, rfl⟩
                rw [← eh347]
                have sp348 : tw_sp d τ h g τ259 h347 := by rw [eh347]; exact sp308.set k328 (by decide) ⟨_, rfl⟩
                have f349 : h347 q249 = some (.inr (13, [.int (nI j35), .int (-1), .int (-1), .ref p260])) := by rw [eh347, tw_up_n (fun q => absurd (z262) (by rw [q, k328]; decide))]; exact f309
                refine tw_aload_n 1 dX10_house_117 rfl rfl ?_
                obtain ⟨e350, f351, th_352, td_353, ds_354, fr_355, ca_356, us_357, wo_358, cm_359, lc_360, lh_361, ld_362, rfl, k363, k364, k365, k366, k367, k368, k369, k370, k371, k372, k373, k374, k375, k376, k377, k378, k379, k380⟩ := sp348.1 x 36 k265 (by decide)
                refine tw_get (v := .ref cm_359) rfl in_14 8 dX10_house_118 w_1159 rfl (by decide) f351 rfl ?_
                refine tw_iconst (v := 1) dX10_house_121 (by decide) ?_
                refine tw_dup2 dX10_house_122 rfl rfl ?_
                obtain ⟨e381, f382, F383, rfl⟩ := sp348.1 cm_359 31 k368 (by decide)
                obtain ⟨v384, ev384⟩ : ∃ y : Int64, F383 (1 : Int32).toNatClampNeg = y := ⟨_, rfl⟩
                refine tw_lald (v := v384) dX10_house_123 f382 (vp_in_nI (n := 1) (by decide) (by decide)) ev384 ?_
                refine tw_iload_n 4 dX10_house_124 rfl rfl ?_
                refine tw_i2l dX10_house_125 ?_
                refine tw_nml (fun v385 ev385 => ?_)
                refine tw_ladd dX10_house_126 ?_
                refine tw_nml (fun v386 ev386 => ?_)
                refine tw_last dX10_house_127 f382 (vp_in_nI (n := 1) (by decide) (by decide)) ?_
                obtain ⟨h387, eh387⟩ : ∃ z : tw_H, z = tw_up h347 cm_359 (.inl (d.2 1, 2, .inr (.inl (vp_updL F383 (1 : Int32).toNatClampNeg v386)))) := ⟨_, rfl⟩
                rw [← eh387]
                have sp388 : tw_sp d τ h g τ259 h387 := by rw [eh387]; exact sp348.set k368 (by decide) ⟨_, rfl⟩
                have f389 : h387 q249 = some (.inr (13, [.int (nI j35), .int (-1), .int (-1), .ref p260])) := by rw [eh387, tw_up_n (fun q => absurd (z262) (by rw [q, k368]; decide))]; exact f349
                refine tw_aload_n 1 dX10_house_128 rfl rfl ?_
                obtain ⟨e390, f391, th_392, td_393, ds_394, fr_395, ca_396, us_397, wo_398, cm_399, lc_400, lh_401, ld_402, rfl, k403, k404, k405, k406, k407, k408, k409, k410, k411, k412, k413, k414, k415, k416, k417, k418, k419, k420⟩ := sp388.1 x 36 k265 (by decide)
                refine tw_get (v := .ref lh_401) rfl in_14 10 dX10_house_129 w_1161 rfl (by decide) f391 rfl ?_
                refine tw_aload 0 dX10_house_132 rfl ?_
                obtain ⟨τ421, eτ421⟩ : ∃ z : tw_K, z = tw_ku τ259 q249 23 := ⟨_, rfl⟩
                have le422 : tw_le τ259 τ421 := by rw [eτ421]; exact tw_ku_le z262
                have k423 : τ421 x = 36 := le422.k k265 (by decide)
                have k424 : τ421 ds_5 = 34 := le422.k k266 (by decide)
                have k425 : τ421 fr_6 = 34 := le422.k k267 (by decide)
                have k426 : τ421 ca_7 = 31 := le422.k k268 (by decide)
                have k427 : τ421 us_8 = 31 := le422.k k269 (by decide)
                have k428 : τ421 wo_9 = 31 := le422.k k270 (by decide)
                have k429 : τ421 cm_10 = 31 := le422.k k271 (by decide)
                have k430 : τ421 lc_11 = 24 := le422.k k272 (by decide)
                have k431 : τ421 lh_12 = 25 := le422.k k273 (by decide)
                have k432 : τ421 ld_13 = 26 := le422.k k274 (by decide)
                have k433 : τ421 ds_157 = 34 := le422.k k275 (by decide)
                have k434 : τ421 fr_158 = 34 := le422.k k276 (by decide)
                have k435 : τ421 ca_159 = 31 := le422.k k277 (by decide)
                have k436 : τ421 us_160 = 31 := le422.k k278 (by decide)
                have k437 : τ421 wo_161 = 31 := le422.k k279 (by decide)
                have k438 : τ421 cm_162 = 31 := le422.k k280 (by decide)
                have k439 : τ421 lc_163 = 24 := le422.k k281 (by decide)
                have k440 : τ421 lh_164 = 25 := le422.k k282 (by decide)
                have k441 : τ421 ld_165 = 26 := le422.k k283 (by decide)
                have k442 : τ421 ds_200 = 34 := le422.k k284 (by decide)
                have k443 : τ421 fr_201 = 34 := le422.k k285 (by decide)
                have k444 : τ421 ca_202 = 31 := le422.k k286 (by decide)
                have k445 : τ421 us_203 = 31 := le422.k k287 (by decide)
                have k446 : τ421 wo_204 = 31 := le422.k k288 (by decide)
                have k447 : τ421 cm_205 = 31 := le422.k k289 (by decide)
                have k448 : τ421 lc_206 = 24 := le422.k k290 (by decide)
                have k449 : τ421 lh_207 = 25 := le422.k k291 (by decide)
                have k450 : τ421 ld_208 = 26 := le422.k k292 (by decide)
                have k451 : τ421 p260 = 31 := le422.k k263 (by decide)
                have k452 : τ421 ds_314 = 34 := le422.k k323 (by decide)
                have k453 : τ421 fr_315 = 34 := le422.k k324 (by decide)
                have k454 : τ421 ca_316 = 31 := le422.k k325 (by decide)
                have k455 : τ421 us_317 = 31 := le422.k k326 (by decide)
                have k456 : τ421 wo_318 = 31 := le422.k k327 (by decide)
                have k457 : τ421 cm_319 = 31 := le422.k k328 (by decide)
                have k458 : τ421 lc_320 = 24 := le422.k k329 (by decide)
                have k459 : τ421 lh_321 = 25 := le422.k k330 (by decide)
                have k460 : τ421 ld_322 = 26 := le422.k k331 (by decide)
                have k461 : τ421 ds_354 = 34 := le422.k k363 (by decide)
                have k462 : τ421 fr_355 = 34 := le422.k k364 (by decide)
                have k463 : τ421 ca_356 = 31 := le422.k k365 (by decide)
                have k464 : τ421 us_357 = 31 := le422.k k366 (by decide)
                have k465 : τ421 wo_358 = 31 := le422.k k367 (by decide)
                have k466 : τ421 cm_359 = 31 := le422.k k368 (by decide)
                have k467 : τ421 lc_360 = 24 := le422.k k369 (by decide)
                have k468 : τ421 lh_361 = 25 := le422.k k370 (by decide)
                have k469 : τ421 ld_362 = 26 := le422.k k371 (by decide)
                have k470 : τ421 ds_394 = 34 := le422.k k403 (by decide)
                have k471 : τ421 fr_395 = 34 := le422.k k404 (by decide)
                have k472 : τ421 ca_396 = 31 := le422.k k405 (by decide)
                have k473 : τ421 us_397 = 31 := le422.k k406 (by decide)
                have k474 : τ421 wo_398 = 31 := le422.k k407 (by decide)
                have k475 : τ421 cm_399 = 31 := le422.k k408 (by decide)
                have k476 : τ421 lc_400 = 24 := le422.k k409 (by decide)
                have k477 : τ421 lh_401 = 25 := le422.k k410 (by decide)
                have k478 : τ421 ld_402 = 26 := le422.k k411 (by decide)
                have sp479 : tw_sp d τ h g τ421 h387 := by rw [eτ421]; exact sp388.ty n252 z262 f389 (by rw [← eτ421]; exact ⟨(nI j35), (-1), (-1), p260, rfl, k451, (Or.inr ⟨_, (by omega), rfl⟩), (Or.inl rfl)⟩)
                have k480 : τ421 q249 = 23 := by rw [eτ421]; exact tw_ku_s
                obtain ⟨e481, f482, ⟨el483, rfl, k484⟩, k485⟩ := sp479.1 lh_401 25 k477 (by decide)
                have hb9 : g.2 4 + 1 ≤ 6 := (tw_n4 c235 k413 (by decide))
                rcases k484 with k484p | k484p
                · obtain ⟨pa, pn, pf⟩ := k484p
                  subst pa
                  have f9 : h387 lh_401 = some (.inr (3, [.int (g.1 4), .ref (d.2 102), .int (nI 0)])) := by have z := f482; rw [pn] at z; exact z
                  refine tw_bi (tw_callV (M := mX10_house) (pc := 134) okJx4a65c_add_9ea2d dX10_house_134 w_1238 rfl f482 [.ref q249] [] rfl rfl ⟨by decide, by decide⟩ (Nat.le_of_ble_eq_true rfl) (c_add_new d h387 lh_401 (g.1 4) f9 q249 13 _ _ rfl (ng_13) f389 (by decide)) 7 44 (Nat.le_of_ble_eq_true rfl) (Nat.le_of_ble_eq_true rfl)) (fun r9 h486 q9 => ?_) (fun E h1 q => q.elim)
                  obtain ⟨r8, hr8, q1, q2, q3⟩ := q9
                  obtain ⟨g9, τ9, ⟨hga, hg1⟩, sp9⟩ := tw_gadd25 (F := fun _ => none) sp479.1 k477 k480 hb9 (fun j hj => by rw [pn] at hj; exact absurd hj (Nat.not_lt_zero _)) (Or.inr ⟨hr8, pf⟩) (by rw [pn]; exact q1) (by rw [pn]; exact q2) q3
                  have sp487 := sp479.tr sp9
                  have k488 : τ9 x = 36 := sp9.2.1.k k423 (by decide)
                  have k489 : τ9 ds_5 = 34 := sp9.2.1.k k424 (by decide)
                  have k490 : τ9 fr_6 = 34 := sp9.2.1.k k425 (by decide)
                  have k491 : τ9 ca_7 = 31 := sp9.2.1.k k426 (by decide)
                  have k492 : τ9 us_8 = 31 := sp9.2.1.k k427 (by decide)
                  have k493 : τ9 wo_9 = 31 := sp9.2.1.k k428 (by decide)
                  have k494 : τ9 cm_10 = 31 := sp9.2.1.k k429 (by decide)
                  have k495 : τ9 lc_11 = 24 := sp9.2.1.k k430 (by decide)
                  have k496 : τ9 lh_12 = 25 := sp9.2.1.k k431 (by decide)
                  have k497 : τ9 ld_13 = 26 := sp9.2.1.k k432 (by decide)
                  have k498 : τ9 ds_157 = 34 := sp9.2.1.k k433 (by decide)
                  have k499 : τ9 fr_158 = 34 := sp9.2.1.k k434 (by decide)
                  have k500 : τ9 ca_159 = 31 := sp9.2.1.k k435 (by decide)
                  have k501 : τ9 us_160 = 31 := sp9.2.1.k k436 (by decide)
                  have k502 : τ9 wo_161 = 31 := sp9.2.1.k k437 (by decide)
                  have k503 : τ9 cm_162 = 31 := sp9.2.1.k k438 (by decide)
                  have k504 : τ9 lc_163 = 24 := sp9.2.1.k k439 (by decide)
                  have k505 : τ9 lh_164 = 25 := sp9.2.1.k k440 (by decide)
                  have k506 : τ9 ld_165 = 26 := sp9.2.1.k k441 (by decide)
                  have k507 : τ9 ds_200 = 34 := sp9.2.1.k k442 (by decide)
                  have k508 : τ9 fr_201 = 34 := sp9.2.1.k k443 (by decide)
                  have k509 : τ9 ca_202 = 31 := sp9.2.1.k k444 (by decide)
                  have k510 : τ9 us_203 = 31 := sp9.2.1.k k445 (by decide)
                  have k511 : τ9 wo_204 = 31 := sp9.2.1.k k446 (by decide)
                  have k512 : τ9 cm_205 = 31 := sp9.2.1.k k447 (by decide)
                  have k513 : τ9 lc_206 = 24 := sp9.2.1.k k448 (by decide)
                  have k514 : τ9 lh_207 = 25 := sp9.2.1.k k449 (by decide)
                  have k515 : τ9 ld_208 = 26 := sp9.2.1.k k450 (by decide)
                  have k516 : τ9 p260 = 31 := sp9.2.1.k k451 (by decide)
                  have k517 : τ9 ds_314 = 34 := sp9.2.1.k k452 (by decide)
                  have k518 : τ9 fr_315 = 34 := sp9.2.1.k k453 (by decide)
                  have k519 : τ9 ca_316 = 31 := sp9.2.1.k k454 (by decide)
                  have k520 : τ9 us_317 = 31 := sp9.2.1.k k455 (by decide)
                  have k521 : τ9 wo_318 = 31 := sp9.2.1.k k456 (by decide)
                  have k522 : τ9 cm_319 = 31 := sp9.2.1.k k457 (by decide)
                  have k523 : τ9 lc_320 = 24 := sp9.2.1.k k458 (by decide)
                  have k524 : τ9 lh_321 = 25 := sp9.2.1.k k459 (by decide)
                  have k525 : τ9 ld_322 = 26 := sp9.2.1.k k460 (by decide)
                  have k526 : τ9 ds_354 = 34 := sp9.2.1.k k461 (by decide)
                  have k527 : τ9 fr_355 = 34 := sp9.2.1.k k462 (by decide)
                  have k528 : τ9 ca_356 = 31 := sp9.2.1.k k463 (by decide)
                  have k529 : τ9 us_357 = 31 := sp9.2.1.k k464 (by decide)
                  have k530 : τ9 wo_358 = 31 := sp9.2.1.k k465 (by decide)
                  have k531 : τ9 cm_359 = 31 := sp9.2.1.k k466 (by decide)
                  have k532 : τ9 lc_360 = 24 := sp9.2.1.k k467 (by decide)
                  have k533 : τ9 lh_361 = 25 := sp9.2.1.k k468 (by decide)
                  have k534 : τ9 ld_362 = 26 := sp9.2.1.k k469 (by decide)
                  have k535 : τ9 ds_394 = 34 := sp9.2.1.k k470 (by decide)
                  have k536 : τ9 fr_395 = 34 := sp9.2.1.k k471 (by decide)
                  have k537 : τ9 ca_396 = 31 := sp9.2.1.k k472 (by decide)
                  have k538 : τ9 us_397 = 31 := sp9.2.1.k k473 (by decide)
                  have k539 : τ9 wo_398 = 31 := sp9.2.1.k k474 (by decide)
                  have k540 : τ9 cm_399 = 31 := sp9.2.1.k k475 (by decide)
                  have k541 : τ9 lc_400 = 24 := sp9.2.1.k k476 (by decide)
                  have k542 : τ9 lh_401 = 25 := sp9.2.1.k k477 (by decide)
                  have k543 : τ9 ld_402 = 26 := sp9.2.1.k k478 (by decide)
                  have k544 : τ9 q249 = 23 := sp9.2.1.k k480 (by decide)
                  refine tw_pop dX10_house_137 rfl ?_
                  refine tw_aload_n 1 dX10_house_138 rfl rfl ?_
                  obtain ⟨e545, f546, th_547, td_548, ds_549, fr_550, ca_551, us_552, wo_553, cm_554, lc_555, lh_556, ld_557, rfl, k558, k559, k560, k561, k562, k563, k564, k565, k566, k567, k568, k569, k570, k571, k572, k573, k574, k575⟩ := sp487.1 x 36 k488 (by decide)
                  refine tw_get (v := .ref lh_556) rfl in_14 10 dX10_house_139 w_1161 rfl (by decide) f546 rfl ?_
                  obtain ⟨e576, f577, ⟨el578, rfl, k579⟩, k580⟩ := sp487.1 lh_556 25 k565 (by decide)
                  refine tw_bi (tw_callV (M := mX10_house) (pc := 142) okJx4a65c_size_8abf5 dX10_house_142 w_1208 rfl f577 [] [] rfl rfl ⟨by decide, by decide⟩ (Nat.le_of_ble_eq_true rfl) (c25_size d g9 τ9 h486 sp487.1 lh_556 k565) 7 44 (Nat.le_of_ble_eq_true rfl) (Nat.le_of_ble_eq_true rfl)) (fun r583 h582 q581 => ?_) (fun E h1 q => q.elim)
                  obtain ⟨q581e, q581r⟩ := q581
                  rw [q581e, q581r]
                  refine tw_iconst (v := 1) dX10_house_145 (by decide) ?_
                  refine tw_isub dX10_house_146 ?_
                  refine tw_nmi (fun v584 ev584 => ?_)
                  exact tw_iret dX10_house_147 rfl (Or.inl ⟨_, rfl, ⟨_, _, hga, sp487⟩⟩)
                · obtain ⟨e9, fa9, ⟨F9, rfl, hc9, h49⟩, un9⟩ := sp479.1 el483 28 k484p (by decide)
                  refine tw_bi (tw_callV (M := mX10_house) (pc := 134) okJx4a65c_add_9ea2d dX10_house_134 w_1238 rfl f482 [.ref q249] [] rfl rfl ⟨by decide, by decide⟩ (Nat.le_of_ble_eq_true rfl) (c_add_old d h387 lh_401 el483 (g.2 4) F9 (g.1 4) (by omega) f482 fa9 q249 13 _ _ rfl (ng_13) f389 (by decide)) 7 44 (Nat.le_of_ble_eq_true rfl) (Nat.le_of_ble_eq_true rfl)) (fun r9 h585 q9 => ?_) (fun E h1 q => q.elim)
                  obtain ⟨q1, q2, q3⟩ := q9
                  obtain ⟨g9, τ9, ⟨hga, hg1⟩, sp9⟩ := tw_gadd25 sp479.1 k477 k480 hb9 h49 (Or.inl k484p) q1 q2 q3
                  have sp586 := sp479.tr sp9
                  have k587 : τ9 x = 36 := sp9.2.1.k k423 (by decide)
                  have k588 : τ9 ds_5 = 34 := sp9.2.1.k k424 (by decide)
                  have k589 : τ9 fr_6 = 34 := sp9.2.1.k k425 (by decide)
                  have k590 : τ9 ca_7 = 31 := sp9.2.1.k k426 (by decide)
                  have k591 : τ9 us_8 = 31 := sp9.2.1.k k427 (by decide)
                  have k592 : τ9 wo_9 = 31 := sp9.2.1.k k428 (by decide)
                  have k593 : τ9 cm_10 = 31 := sp9.2.1.k k429 (by decide)
                  have k594 : τ9 lc_11 = 24 := sp9.2.1.k k430 (by decide)
                  have k595 : τ9 lh_12 = 25 := sp9.2.1.k k431 (by decide)
                  have k596 : τ9 ld_13 = 26 := sp9.2.1.k k432 (by decide)
                  have k597 : τ9 ds_157 = 34 := sp9.2.1.k k433 (by decide)
                  have k598 : τ9 fr_158 = 34 := sp9.2.1.k k434 (by decide)
                  have k599 : τ9 ca_159 = 31 := sp9.2.1.k k435 (by decide)
                  have k600 : τ9 us_160 = 31 := sp9.2.1.k k436 (by decide)
                  have k601 : τ9 wo_161 = 31 := sp9.2.1.k k437 (by decide)
                  have k602 : τ9 cm_162 = 31 := sp9.2.1.k k438 (by decide)
                  have k603 : τ9 lc_163 = 24 := sp9.2.1.k k439 (by decide)
                  have k604 : τ9 lh_164 = 25 := sp9.2.1.k k440 (by decide)
                  have k605 : τ9 ld_165 = 26 := sp9.2.1.k k441 (by decide)
                  have k606 : τ9 ds_200 = 34 := sp9.2.1.k k442 (by decide)
                  have k607 : τ9 fr_201 = 34 := sp9.2.1.k k443 (by decide)
                  have k608 : τ9 ca_202 = 31 := sp9.2.1.k k444 (by decide)
                  have k609 : τ9 us_203 = 31 := sp9.2.1.k k445 (by decide)
                  have k610 : τ9 wo_204 = 31 := sp9.2.1.k k446 (by decide)
                  have k611 : τ9 cm_205 = 31 := sp9.2.1.k k447 (by decide)
                  have k612 : τ9 lc_206 = 24 := sp9.2.1.k k448 (by decide)
                  have k613 : τ9 lh_207 = 25 := sp9.2.1.k k449 (by decide)
                  have k614 : τ9 ld_208 = 26 := sp9.2.1.k k450 (by decide)
                  have k615 : τ9 p260 = 31 := sp9.2.1.k k451 (by decide)
                  have k616 : τ9 ds_314 = 34 := sp9.2.1.k k452 (by decide)
                  have k617 : τ9 fr_315 = 34 := sp9.2.1.k k453 (by decide)
                  have k618 : τ9 ca_316 = 31 := sp9.2.1.k k454 (by decide)
                  have k619 : τ9 us_317 = 31 := sp9.2.1.k k455 (by decide)
                  have k620 : τ9 wo_318 = 31 := sp9.2.1.k k456 (by decide)
                  have k621 : τ9 cm_319 = 31 := sp9.2.1.k k457 (by decide)
                  have k622 : τ9 lc_320 = 24 := sp9.2.1.k k458 (by decide)
                  have k623 : τ9 lh_321 = 25 := sp9.2.1.k k459 (by decide)
                  have k624 : τ9 ld_322 = 26 := sp9.2.1.k k460 (by decide)
                  have k625 : τ9 ds_354 = 34 := sp9.2.1.k k461 (by decide)
                  have k626 : τ9 fr_355 = 34 := sp9.2.1.k k462 (by decide)
                  have k627 : τ9 ca_356 = 31 := sp9.2.1.k k463 (by decide)
                  have k628 : τ9 us_357 = 31 := sp9.2.1.k k464 (by decide)
                  have k629 : τ9 wo_358 = 31 := sp9.2.1.k k465 (by decide)
                  have k630 : τ9 cm_359 = 31 := sp9.2.1.k k466 (by decide)
                  have k631 : τ9 lc_360 = 24 := sp9.2.1.k k467 (by decide)
                  have k632 : τ9 lh_361 = 25 := sp9.2.1.k k468 (by decide)
                  have k633 : τ9 ld_362 = 26 := sp9.2.1.k k469 (by decide)
                  have k634 : τ9 ds_394 = 34 := sp9.2.1.k k470 (by decide)
                  have k635 : τ9 fr_395 = 34 := sp9.2.1.k k471 (by decide)
                  have k636 : τ9 ca_396 = 31 := sp9.2.1.k k472 (by decide)
                  have k637 : τ9 us_397 = 31 := sp9.2.1.k k473 (by decide)
                  have k638 : τ9 wo_398 = 31 := sp9.2.1.k k474 (by decide)
                  have k639 : τ9 cm_399 = 31 := sp9.2.1.k k475 (by decide)
                  have k640 : τ9 lc_400 = 24 := sp9.2.1.k k476 (by decide)
                  have k641 : τ9 lh_401 = 25 := sp9.2.1.k k477 (by decide)
                  have k642 : τ9 ld_402 = 26 := sp9.2.1.k k478 (by decide)
                  have k643 : τ9 q249 = 23 := sp9.2.1.k k480 (by decide)
                  refine tw_pop dX10_house_137 rfl ?_
                  refine tw_aload_n 1 dX10_house_138 rfl rfl ?_
                  obtain ⟨e644, f645, th_646, td_647, ds_648, fr_649, ca_650, us_651, wo_652, cm_653, lc_654, lh_655, ld_656, rfl, k657, k658, k659, k660, k661, k662, k663, k664, k665, k666, k667, k668, k669, k670, k671, k672, k673, k674⟩ := sp586.1 x 36 k587 (by decide)
                  refine tw_get (v := .ref lh_655) rfl in_14 10 dX10_house_139 w_1161 rfl (by decide) f645 rfl ?_
                  obtain ⟨e675, f676, ⟨el677, rfl, k678⟩, k679⟩ := sp586.1 lh_655 25 k664 (by decide)
                  refine tw_bi (tw_callV (M := mX10_house) (pc := 142) okJx4a65c_size_8abf5 dX10_house_142 w_1208 rfl f676 [] [] rfl rfl ⟨by decide, by decide⟩ (Nat.le_of_ble_eq_true rfl) (c25_size d g9 τ9 h585 sp586.1 lh_655 k664) 7 44 (Nat.le_of_ble_eq_true rfl) (Nat.le_of_ble_eq_true rfl)) (fun r682 h681 q680 => ?_) (fun E h1 q => q.elim)
                  obtain ⟨q680e, q680r⟩ := q680
                  rw [q680e, q680r]
                  refine tw_iconst (v := 1) dX10_house_145 (by decide) ?_
                  refine tw_isub dX10_house_146 ?_
                  refine tw_nmi (fun v683 ev683 => ?_)
                  exact tw_iret dX10_house_147 rfl (Or.inl ⟨_, rfl, ⟨_, _, hga, sp586⟩⟩)
            · refine tw_iconst (v := 1) dX10_house_59 (by decide) ?_
              refine tw_goto 64 dX10_house_60 (by decide) ?_
              refine tw_iconst (v := 3) dX10_house_64 (by decide) ?_
              refine tw_bi (tw_callV (M := mX10_house) (pc := 65) okX10_refuse dX10_house_65 w_1204 rfl f197 [.int 1, .int 3] [] rfl rfl ⟨by decide, by decide⟩ (Nat.le_of_ble_eq_true rfl) (c_X10_refuse d g τ h185 sp192.1 x kx 1 3 (by decide)) 10 60 (Nat.le_of_ble_eq_true rfl) (Nat.le_of_ble_eq_true rfl)) (fun r686 h685 q684 => ?_) (fun E h1 q => q.elim)
              obtain ⟨e687, he688, hs689, hr690, h3691⟩ := q684
              have sp692 : tw_sp d τ h g τ h685 := by rw [he688]; exact sp192.set kx (by decide) hs689
              have f693 : h685 lh_207 = some (.inr (3, [.int (g.1 4), .ref el229, .int (nI (g.2 4))])) := by rw [he688, tw_up_n (fun q => absurd (k216) (by rw [q, kx]; decide))]; exact f228
              rcases hr690 with ei694 | ⟨ei694, ei694b⟩
              · rw [ei694]
                refine tw_if_eq 73 dX10_house_68 (by decide) (fun c695 => absurd c695 (by decide)) (fun _ => ?_)
                refine tw_iconst (v := 0) dX10_house_71 (by decide) ?_
                exact tw_iret dX10_house_72 rfl (Or.inl ⟨_, rfl, ⟨_, _, ⟨rfl, rfl⟩, sp692⟩⟩)
              · exact absurd ei694b (by decide)

set_option maxHeartbeats 4000000 in
set_option maxRecDepth 100000 in
theorem c_X10_owe (d : tw_D) (g : tw_G) (τ : tw_K) (h : tw_H) (hw : tw_wt d g τ h) (x : Nat) (kx : τ x = 36) (a : Int32) (b : Int32) (v : Int32) (dy : Int32) : tw_Ct d mX10_owe 10 60 [.ref x, .int a, .int b, .int v, .int dy] h (tw_qi (fun r h1 => ∃ g1 τ1, tw_ga g g1 ∧ tw_sp d τ h g1 τ1 h1) tw_nx) := by
  refine tw_of (by decide +kernel) (Nat.le_of_ble_eq_true rfl) ?_
  show tw_W d mX10_owe _ 0 [(0, .ref x), (1, .int a), (2, .int b), (3, .int v), (4, .int dy)] [] h 10 60
  have sp0 := tw_sp.rf hw
  refine tw_aload_n 0 dX10_owe_0 rfl rfl ?_
  refine tw_aload_n 0 dX10_owe_1 rfl rfl ?_
  refine tw_iload_n 1 dX10_owe_2 rfl rfl ?_
  obtain ⟨e1, f2, th_3, td_4, ds_5, fr_6, ca_7, us_8, wo_9, cm_10, lc_11, lh_12, ld_13, rfl, k14, k15, k16, k17, k18, k19, k20, k21, k22, k23, k24, k25, k26, k27, k28, k29, k30, k31⟩ := sp0.1 x 36 kx (by decide)
  refine tw_bi (tw_callV (M := mX10_owe) (pc := 3) okX10_isNoHouse dX10_owe_3 w_1362 rfl f2 [.int a] [.ref x] rfl rfl ⟨by decide, by decide⟩ (Nat.le_of_ble_eq_true rfl) (c_X10_isNoHouse d g τ h sp0.1 x kx a) 10 60 (Nat.le_of_ble_eq_true rfl) (Nat.le_of_ble_eq_true rfl)) (fun r34 h33 q32 => ?_) (fun E h1 q => q.elim)
  obtain ⟨q32e, q32d⟩ := q32
  rw [q32e]
  rcases q32d with q32r | ⟨q32r, j35, q32j, q32k⟩
  · rw [q32r]
    refine tw_if_ne 17 dX10_owe_6 (by decide) (fun _ => ?_) (fun c36 => absurd c36 (by decide))
    refine tw_iconst (v := 1) dX10_owe_17 (by decide) ?_
    refine tw_goto 22 dX10_owe_18 (by decide) ?_
    refine tw_iconst (v := 1) dX10_owe_22 (by decide) ?_
    refine tw_bi (tw_callV (M := mX10_owe) (pc := 23) okX10_start dX10_owe_23 w_1200 rfl f2 [.int 1, .int 1] [] rfl rfl ⟨by decide, by decide⟩ (Nat.le_of_ble_eq_true rfl) (c_X10_start d g τ h sp0.1 x kx 1 1 (by decide)) 10 60 (Nat.le_of_ble_eq_true rfl) (Nat.le_of_ble_eq_true rfl)) (fun r39 h38 q37 => ?_) (fun E h1 q => q.elim)
    obtain ⟨e40, he41, hs42, hr43, h344⟩ := q37
    have sp45 : tw_sp d τ h g τ h38 := by rw [he41]; exact sp0.set kx (by decide) hs42
    rcases hr43 with ei46 | ⟨ei46, ei46b⟩
    · rw [ei46]
      refine tw_if_ne 95 dX10_owe_26 (by decide) (fun _ => ?_) (fun c47 => absurd c47 (by decide))
      refine tw_iconst (v := 0) dX10_owe_95 (by decide) ?_
      exact tw_iret dX10_owe_96 rfl (Or.inl ⟨_, rfl, ⟨_, _, ⟨rfl, rfl⟩, sp45⟩⟩)
    · exact absurd ei46b (by decide)
  · rw [q32r]
    subst q32k
    refine tw_if_ne 17 dX10_owe_6 (by decide) (fun c48 => absurd (by decide) c48) (fun _ => ?_)
    refine tw_aload_n 0 dX10_owe_9 rfl rfl ?_
    refine tw_iload_n 2 dX10_owe_10 rfl rfl ?_
    refine tw_bi (tw_callV (M := mX10_owe) (pc := 11) okX10_isNoHouse dX10_owe_11 w_1362 rfl f2 [.int b] [.ref x] rfl rfl ⟨by decide, by decide⟩ (Nat.le_of_ble_eq_true rfl) (c_X10_isNoHouse d g τ h sp0.1 x kx b) 10 60 (Nat.le_of_ble_eq_true rfl) (Nat.le_of_ble_eq_true rfl)) (fun r51 h50 q49 => ?_) (fun E h1 q => q.elim)
    obtain ⟨q49e, q49d⟩ := q49
    rw [q49e]
    rcases q49d with q49r | ⟨q49r, j52, q49j, q49k⟩
    · rw [q49r]
      refine tw_if_eq 21 dX10_owe_14 (by decide) (fun c53 => absurd c53 (by decide)) (fun _ => ?_)
      refine tw_iconst (v := 1) dX10_owe_17 (by decide) ?_
      refine tw_goto 22 dX10_owe_18 (by decide) ?_
      refine tw_iconst (v := 1) dX10_owe_22 (by decide) ?_
      refine tw_bi (tw_callV (M := mX10_owe) (pc := 23) okX10_start dX10_owe_23 w_1200 rfl f2 [.int 1, .int 1] [] rfl rfl ⟨by decide, by decide⟩ (Nat.le_of_ble_eq_true rfl) (c_X10_start d g τ h sp0.1 x kx 1 1 (by decide)) 10 60 (Nat.le_of_ble_eq_true rfl) (Nat.le_of_ble_eq_true rfl)) (fun r56 h55 q54 => ?_) (fun E h1 q => q.elim)
      obtain ⟨e57, he58, hs59, hr60, h361⟩ := q54
      have sp62 : tw_sp d τ h g τ h55 := by rw [he58]; exact sp0.set kx (by decide) hs59
      rcases hr60 with ei63 | ⟨ei63, ei63b⟩
      · rw [ei63]
        refine tw_if_ne 95 dX10_owe_26 (by decide) (fun _ => ?_) (fun c64 => absurd c64 (by decide))
        refine tw_iconst (v := 0) dX10_owe_95 (by decide) ?_
        exact tw_iret dX10_owe_96 rfl (Or.inl ⟨_, rfl, ⟨_, _, ⟨rfl, rfl⟩, sp62⟩⟩)
      · exact absurd ei63b (by decide)
    · rw [q49r]
      subst q49k
      refine tw_if_eq 21 dX10_owe_14 (by decide) (fun _ => ?_) (fun c65 => absurd (by decide) c65)
      refine tw_iconst (v := 0) dX10_owe_21 (by decide) ?_
      refine tw_iconst (v := 1) dX10_owe_22 (by decide) ?_
      refine tw_bi (tw_callV (M := mX10_owe) (pc := 23) okX10_start dX10_owe_23 w_1200 rfl f2 [.int 0, .int 1] [] rfl rfl ⟨by decide, by decide⟩ (Nat.le_of_ble_eq_true rfl) (c_X10_start d g τ h sp0.1 x kx 0 1 (by decide)) 10 60 (Nat.le_of_ble_eq_true rfl) (Nat.le_of_ble_eq_true rfl)) (fun r68 h67 q66 => ?_) (fun E h1 q => q.elim)
      obtain ⟨e69, he70, hs71, hr72, h373⟩ := q66
      have sp74 : tw_sp d τ h g τ h67 := by rw [he70]; exact sp0.set kx (by decide) hs71
      rcases hr72 with ei75 | ⟨ei75, ei75b⟩
      · rw [ei75]
        refine tw_if_ne 95 dX10_owe_26 (by decide) (fun _ => ?_) (fun c76 => absurd c76 (by decide))
        refine tw_iconst (v := 0) dX10_owe_95 (by decide) ?_
        exact tw_iret dX10_owe_96 rfl (Or.inl ⟨_, rfl, ⟨_, _, ⟨rfl, rfl⟩, sp74⟩⟩)
      · rw [ei75]
        refine tw_if_ne 95 dX10_owe_26 (by decide) (fun c77 => absurd (by decide) c77) (fun _ => ?_)
        refine tw_aload_n 0 dX10_owe_29 rfl rfl ?_
        refine tw_iload_n 1 dX10_owe_30 rfl rfl ?_
        refine tw_iload_n 2 dX10_owe_31 rfl rfl ?_
        refine tw_icmp_eq 58 dX10_owe_32 (by decide) (fun c78 => ?_) (fun c78 => ?_)
        · refine tw_iconst (v := 1) dX10_owe_58 (by decide) ?_
          refine tw_goto 63 dX10_owe_59 (by decide) ?_
          refine tw_iconst (v := 2) dX10_owe_63 (by decide) ?_
          obtain ⟨e79, f80, th_81, td_82, ds_83, fr_84, ca_85, us_86, wo_87, cm_88, lc_89, lh_90, ld_91, rfl, k92, k93, k94, k95, k96, k97, k98, k99, k100, k101, k102, k103, k104, k105, k106, k107, k108, k109⟩ := sp74.1 x 36 kx (by decide)
          refine tw_bi (tw_callV (M := mX10_owe) (pc := 64) okX10_refuse dX10_owe_64 w_1204 rfl f80 [.int 1, .int 2] [] rfl rfl ⟨by decide, by decide⟩ (Nat.le_of_ble_eq_true rfl) (c_X10_refuse d g τ h67 sp74.1 x kx 1 2 (by decide)) 10 60 (Nat.le_of_ble_eq_true rfl) (Nat.le_of_ble_eq_true rfl)) (fun r112 h111 q110 => ?_) (fun E h1 q => q.elim)
          obtain ⟨e113, he114, hs115, hr116, h3117⟩ := q110
          have sp118 : tw_sp d τ h g τ h111 := by rw [he114]; exact sp74.set kx (by decide) hs115
          rcases hr116 with ei119 | ⟨ei119, ei119b⟩
          · rw [ei119]
            refine tw_if_ne 95 dX10_owe_67 (by decide) (fun _ => ?_) (fun c120 => absurd c120 (by decide))
            refine tw_iconst (v := 0) dX10_owe_95 (by decide) ?_
            exact tw_iret dX10_owe_96 rfl (Or.inl ⟨_, rfl, ⟨_, _, ⟨rfl, rfl⟩, sp118⟩⟩)
          · exact absurd ei119b (by decide)
        · refine tw_iload_n 3 dX10_owe_35 rfl rfl ?_
          refine tw_iconst (v := 1) dX10_owe_36 (by decide) ?_
          refine tw_sipush (v := 9999) dX10_owe_37 (by decide) ?_
          refine tw_bi (tw_callS (M := mX10_owe) (pc := 40) okX10_isIn dX10_owe_40 w_1196 [.int v, .int 1, .int 9999] [.ref x] rfl rfl ⟨by decide, by decide⟩ (Nat.le_of_ble_eq_true rfl) (c_X10_isIn d g τ h67 sp74.1 v 1 9999) 10 60 (Nat.le_of_ble_eq_true rfl) (Nat.le_of_ble_eq_true rfl)) (fun r123 h122 q121 => ?_) (fun E h1 q => q.elim)
          obtain ⟨q121e, q121d⟩ := q121
          rw [q121e]
          rcases q121d with ⟨q121r, q121n⟩ | ⟨q121r, q121a, q121b⟩
          · rw [q121r]
            refine tw_if_eq 58 dX10_owe_43 (by decide) (fun _ => ?_) (fun c124 => absurd (by decide) c124)
            refine tw_iconst (v := 1) dX10_owe_58 (by decide) ?_
            refine tw_goto 63 dX10_owe_59 (by decide) ?_
            refine tw_iconst (v := 2) dX10_owe_63 (by decide) ?_
            obtain ⟨e125, f126, th_127, td_128, ds_129, fr_130, ca_131, us_132, wo_133, cm_134, lc_135, lh_136, ld_137, rfl, k138, k139, k140, k141, k142, k143, k144, k145, k146, k147, k148, k149, k150, k151, k152, k153, k154, k155⟩ := sp74.1 x 36 kx (by decide)
            refine tw_bi (tw_callV (M := mX10_owe) (pc := 64) okX10_refuse dX10_owe_64 w_1204 rfl f126 [.int 1, .int 2] [] rfl rfl ⟨by decide, by decide⟩ (Nat.le_of_ble_eq_true rfl) (c_X10_refuse d g τ h67 sp74.1 x kx 1 2 (by decide)) 10 60 (Nat.le_of_ble_eq_true rfl) (Nat.le_of_ble_eq_true rfl)) (fun r158 h157 q156 => ?_) (fun E h1 q => q.elim)
            obtain ⟨e159, he160, hs161, hr162, h3163⟩ := q156
            have sp164 : tw_sp d τ h g τ h157 := by rw [he160]; exact sp74.set kx (by decide) hs161
            rcases hr162 with ei165 | ⟨ei165, ei165b⟩
            · rw [ei165]
              refine tw_if_ne 95 dX10_owe_67 (by decide) (fun _ => ?_) (fun c166 => absurd c166 (by decide))
              refine tw_iconst (v := 0) dX10_owe_95 (by decide) ?_
              exact tw_iret dX10_owe_96 rfl (Or.inl ⟨_, rfl, ⟨_, _, ⟨rfl, rfl⟩, sp164⟩⟩)
            · exact absurd ei165b (by decide)
          · rw [q121r]
            refine tw_if_eq 58 dX10_owe_43 (by decide) (fun c167 => absurd c167 (by decide)) (fun _ => ?_)
            refine tw_iload 4 dX10_owe_46 rfl ?_
            refine tw_iconst (v := 0) dX10_owe_48 (by decide) ?_
            refine tw_sipush (v := 1000) dX10_owe_49 (by decide) ?_
            refine tw_bi (tw_callS (M := mX10_owe) (pc := 52) okX10_isIn dX10_owe_52 w_1196 [.int dy, .int 0, .int 1000] [.ref x] rfl rfl ⟨by decide, by decide⟩ (Nat.le_of_ble_eq_true rfl) (c_X10_isIn d g τ h67 sp74.1 dy 0 1000) 10 60 (Nat.le_of_ble_eq_true rfl) (Nat.le_of_ble_eq_true rfl)) (fun r170 h169 q168 => ?_) (fun E h1 q => q.elim)
            obtain ⟨q168e, q168d⟩ := q168
            rw [q168e]
            rcases q168d with ⟨q168r, q168n⟩ | ⟨q168r, q168a, q168b⟩
            · rw [q168r]
              refine tw_if_ne 62 dX10_owe_55 (by decide) (fun c171 => absurd (by decide) c171) (fun _ => ?_)
              refine tw_iconst (v := 1) dX10_owe_58 (by decide) ?_
              refine tw_goto 63 dX10_owe_59 (by decide) ?_
              refine tw_iconst (v := 2) dX10_owe_63 (by decide) ?_
              obtain ⟨e172, f173, th_174, td_175, ds_176, fr_177, ca_178, us_179, wo_180, cm_181, lc_182, lh_183, ld_184, rfl, k185, k186, k187, k188, k189, k190, k191, k192, k193, k194, k195, k196, k197, k198, k199, k200, k201, k202⟩ := sp74.1 x 36 kx (by decide)
              refine tw_bi (tw_callV (M := mX10_owe) (pc := 64) okX10_refuse dX10_owe_64 w_1204 rfl f173 [.int 1, .int 2] [] rfl rfl ⟨by decide, by decide⟩ (Nat.le_of_ble_eq_true rfl) (c_X10_refuse d g τ h67 sp74.1 x kx 1 2 (by decide)) 10 60 (Nat.le_of_ble_eq_true rfl) (Nat.le_of_ble_eq_true rfl)) (fun r205 h204 q203 => ?_) (fun E h1 q => q.elim)
              obtain ⟨e206, he207, hs208, hr209, h3210⟩ := q203
              have sp211 : tw_sp d τ h g τ h204 := by rw [he207]; exact sp74.set kx (by decide) hs208
              rcases hr209 with ei212 | ⟨ei212, ei212b⟩
              · rw [ei212]
                refine tw_if_ne 95 dX10_owe_67 (by decide) (fun _ => ?_) (fun c213 => absurd c213 (by decide))
                refine tw_iconst (v := 0) dX10_owe_95 (by decide) ?_
                exact tw_iret dX10_owe_96 rfl (Or.inl ⟨_, rfl, ⟨_, _, ⟨rfl, rfl⟩, sp211⟩⟩)
              · exact absurd ei212b (by decide)
            · rw [q168r]
              refine tw_if_ne 62 dX10_owe_55 (by decide) (fun _ => ?_) (fun c214 => absurd c214 (by decide))
              refine tw_iconst (v := 0) dX10_owe_62 (by decide) ?_
              refine tw_iconst (v := 2) dX10_owe_63 (by decide) ?_
              obtain ⟨e215, f216, th_217, td_218, ds_219, fr_220, ca_221, us_222, wo_223, cm_224, lc_225, lh_226, ld_227, rfl, k228, k229, k230, k231, k232, k233, k234, k235, k236, k237, k238, k239, k240, k241, k242, k243, k244, k245⟩ := sp74.1 x 36 kx (by decide)
              refine tw_bi (tw_callV (M := mX10_owe) (pc := 64) okX10_refuse dX10_owe_64 w_1204 rfl f216 [.int 0, .int 2] [] rfl rfl ⟨by decide, by decide⟩ (Nat.le_of_ble_eq_true rfl) (c_X10_refuse d g τ h67 sp74.1 x kx 0 2 (by decide)) 10 60 (Nat.le_of_ble_eq_true rfl) (Nat.le_of_ble_eq_true rfl)) (fun r248 h247 q246 => ?_) (fun E h1 q => q.elim)
              obtain ⟨e249, he250, hs251, hr252, h3253⟩ := q246
              have sp254 : tw_sp d τ h g τ h247 := by rw [he250]; exact sp74.set kx (by decide) hs251
              rcases hr252 with ei255 | ⟨ei255, ei255b⟩
              · rw [ei255]
                refine tw_if_ne 95 dX10_owe_67 (by decide) (fun _ => ?_) (fun c256 => absurd c256 (by decide))
                refine tw_iconst (v := 0) dX10_owe_95 (by decide) ?_
                exact tw_iret dX10_owe_96 rfl (Or.inl ⟨_, rfl, ⟨_, _, ⟨rfl, rfl⟩, sp254⟩⟩)
              · rw [ei255]
                refine tw_if_ne 95 dX10_owe_67 (by decide) (fun c257 => absurd (by decide) c257) (fun _ => ?_)
                refine tw_aload_n 0 dX10_owe_70 rfl rfl ?_
                refine tw_aload_n 0 dX10_owe_71 rfl rfl ?_
                obtain ⟨e258, f259, th_260, td_261, ds_262, fr_263, ca_264, us_265, wo_266, cm_267, lc_268, lh_269, ld_270, rfl, k271, k272, k273, k274, k275, k276, k277, k278, k279, k280, k281, k282, k283, k284, k285, k286, k287, k288⟩ := sp254.1 x 36 kx (by decide)
                refine tw_get (v := .ref ld_270) rfl in_14 11 dX10_owe_72 w_1162 rfl (by decide) f259 rfl ?_
                obtain ⟨e289, f290, ⟨el291, rfl, k292⟩, k293⟩ := sp254.1 ld_270 26 k279 (by decide)
                refine tw_bi (tw_callV (M := mX10_owe) (pc := 75) okJx4a65c_size_8abf5 dX10_owe_75 w_1208 rfl f290 [] [.ref x] rfl rfl ⟨by decide, by decide⟩ (Nat.le_of_ble_eq_true rfl) (c26_size d g τ h247 sp254.1 ld_270 k279) 10 60 (Nat.le_of_ble_eq_true rfl) (Nat.le_of_ble_eq_true rfl)) (fun r296 h295 q294 => ?_) (fun E h1 q => q.elim)
                obtain ⟨q294e, q294r⟩ := q294
                rw [q294e, q294r]
                refine tw_bipush (v := 10) dX10_owe_78 (by decide) ?_
                refine tw_icmp_ne 87 dX10_owe_80 (by decide) (fun c297 => ?_) (fun c297 => ?_)
                · refine tw_iconst (v := 0) dX10_owe_87 (by decide) ?_
                  refine tw_iconst (v := 3) dX10_owe_88 (by decide) ?_
                  refine tw_bi (tw_callV (M := mX10_owe) (pc := 89) okX10_refuse dX10_owe_89 w_1204 rfl f259 [.int 0, .int 3] [] rfl rfl ⟨by decide, by decide⟩ (Nat.le_of_ble_eq_true rfl) (c_X10_refuse d g τ h247 sp254.1 x kx 0 3 (by decide)) 10 60 (Nat.le_of_ble_eq_true rfl) (Nat.le_of_ble_eq_true rfl)) (fun r300 h299 q298 => ?_) (fun E h1 q => q.elim)
                  obtain ⟨e301, he302, hs303, hr304, h3305⟩ := q298
                  have sp306 : tw_sp d τ h g τ h299 := by rw [he302]; exact sp254.set kx (by decide) hs303
                  have f307 : h299 ld_270 = some (.inr (3, [.int (g.1 5), .ref el291, .int (nI (g.2 5))])) := by rw [he302, tw_up_n (fun q => absurd (k279) (by rw [q, kx]; decide))]; exact f290
                  rcases hr304 with ei308 | ⟨ei308, ei308b⟩
                  · rw [ei308]
                    refine tw_if_eq 97 dX10_owe_92 (by decide) (fun c309 => absurd c309 (by decide)) (fun _ => ?_)
                    refine tw_iconst (v := 0) dX10_owe_95 (by decide) ?_
                    exact tw_iret dX10_owe_96 rfl (Or.inl ⟨_, rfl, ⟨_, _, ⟨rfl, rfl⟩, sp306⟩⟩)
                  · rw [ei308]
                    refine tw_if_eq 97 dX10_owe_92 (by decide) (fun _ => ?_) (fun c310 => absurd (by decide) c310)
                    refine tw_new (ci := 12) rfl in_12 tyX8 tyX8_ok dX10_owe_97 w_1437 w_1438 w_103 (fs := [.int 0, .int 0, .int 0, .int 0, .int 0]) (fun j hj => by rcases (show j = 0 ∨ j = 1 ∨ j = 2 ∨ j = 3 ∨ j = 4 by omega) with rfl | rfl | rfl | rfl | rfl <;> rfl) 9 55 (Nat.le_of_ble_eq_true rfl) (Nat.le_of_ble_eq_true rfl) (fun q311 hq312 hA313 => ?_)
                    have n314 := sp306.nn hq312
                    have z315 := sp306.1.none hq312
                    obtain ⟨h316, eh316⟩ : ∃ z : tw_H, z = tw_up h299 q311 (.inr (12, [.int 0, .int 0, .int 0, .int 0, .int 0])) := ⟨_, rfl⟩
                    rw [← eh316]
                    have sp317 : tw_sp d τ h g τ h316 := by rw [eh316]; exact sp306.mk hq312
                    have f318 : h316 q311 = some (.inr (12, [.int 0, .int 0, .int 0, .int 0, .int 0])) := by rw [eh316]; exact tw_up_s
                    refine tw_dup dX10_owe_100 rfl ?_
                    refine tw_bv (tw_callIN (M := mX10_owe) (pc := 101) okX8_init dX10_owe_101 w_1439 rfl [] [.ref q311] rfl rfl ⟨by decide, by decide⟩ (Nat.le_of_ble_eq_true rfl) (c_X8_init d g τ h316 sp317.1 q311 z315 f318) 9 55 (Nat.le_of_ble_eq_true rfl) (Nat.le_of_ble_eq_true rfl)) (fun h320 q319 => ?_) (fun E h1 q => q.elim)
                    obtain ⟨τ321, q319s, f322, z323⟩ := q319
                    have sp324 := sp317.trm n314 q319s
                    have k325 : τ321 x = 36 := q319s.2.1.k kx (by decide)
                    have k326 : τ321 ds_5 = 34 := q319s.2.1.k k14 (by decide)
                    have k327 : τ321 fr_6 = 34 := q319s.2.1.k k15 (by decide)
                    have k328 : τ321 ca_7 = 31 := q319s.2.1.k k16 (by decide)
                    have k329 : τ321 us_8 = 31 := q319s.2.1.k k17 (by decide)
                    have k330 : τ321 wo_9 = 31 := q319s.2.1.k k18 (by decide)
                    have k331 : τ321 cm_10 = 31 := q319s.2.1.k k19 (by decide)
                    have k332 : τ321 lc_11 = 24 := q319s.2.1.k k20 (by decide)
                    have k333 : τ321 lh_12 = 25 := q319s.2.1.k k21 (by decide)
                    have k334 : τ321 ld_13 = 26 := q319s.2.1.k k22 (by decide)
                    have k335 : τ321 ds_219 = 34 := q319s.2.1.k k228 (by decide)
                    have k336 : τ321 fr_220 = 34 := q319s.2.1.k k229 (by decide)
                    have k337 : τ321 ca_221 = 31 := q319s.2.1.k k230 (by decide)
                    have k338 : τ321 us_222 = 31 := q319s.2.1.k k231 (by decide)
                    have k339 : τ321 wo_223 = 31 := q319s.2.1.k k232 (by decide)
                    have k340 : τ321 cm_224 = 31 := q319s.2.1.k k233 (by decide)
                    have k341 : τ321 lc_225 = 24 := q319s.2.1.k k234 (by decide)
                    have k342 : τ321 lh_226 = 25 := q319s.2.1.k k235 (by decide)
                    have k343 : τ321 ld_227 = 26 := q319s.2.1.k k236 (by decide)
                    have k344 : τ321 ds_262 = 34 := q319s.2.1.k k271 (by decide)
                    have k345 : τ321 fr_263 = 34 := q319s.2.1.k k272 (by decide)
                    have k346 : τ321 ca_264 = 31 := q319s.2.1.k k273 (by decide)
                    have k347 : τ321 us_265 = 31 := q319s.2.1.k k274 (by decide)
                    have k348 : τ321 wo_266 = 31 := q319s.2.1.k k275 (by decide)
                    have k349 : τ321 cm_267 = 31 := q319s.2.1.k k276 (by decide)
                    have k350 : τ321 lc_268 = 24 := q319s.2.1.k k277 (by decide)
                    have k351 : τ321 lh_269 = 25 := q319s.2.1.k k278 (by decide)
                    have k352 : τ321 ld_270 = 26 := q319s.2.1.k k279 (by decide)
                    refine tw_astore [(5, .ref q311), (0, .ref x), (1, .int (nI j35)), (2, .int (nI j52)), (3, .int v), (4, .int dy)] dX10_owe_104 (by decide) rfl ?_
                    refine tw_aload 0 dX10_owe_106 rfl ?_
                    refine tw_iload_n 2 dX10_owe_108 rfl rfl ?_
                    refine tw_put rfl in_12 tyX8 tyX8_ok nmX8 0 dX10_owe_109 w_1443 rfl (by decide) f322 rfl rfl rfl rfl (Nat.le_of_ble_eq_true rfl) [.int (nI j35), .int 0, .int 0, .int 0, .int 0] rfl ?_
                    obtain ⟨h353, eh353⟩ : ∃ z : tw_H, z = tw_up h320 q311 (.inr (12, [.int (nI j35), .int 0, .int 0, .int 0, .int 0])) := ⟨_, rfl⟩
                    rw [← eh353]
                    have sp354 : tw_sp d τ h g τ321 h353 := by rw [eh353]; exact sp324.wl n314 z323
                    have f355 : h353 q311 = some (.inr (12, [.int (nI j35), .int 0, .int 0, .int 0, .int 0])) := by rw [eh353]; exact tw_up_s
                    refine tw_aload 0 dX10_owe_112 rfl ?_
                    refine tw_iload_n 3 dX10_owe_114 rfl rfl ?_
                    refine tw_put rfl in_12 tyX8 tyX8_ok nmX8 1 dX10_owe_115 w_1444 rfl (by decide) f355 rfl rfl rfl rfl (Nat.le_of_ble_eq_true rfl) [.int (nI j35), .int (nI j52), .int 0, .int 0, .int 0] rfl ?_
                    obtain ⟨h356, eh356⟩ : ∃ z : tw_H, z = tw_up h353 q311 (.inr (12, [.int (nI j35), .int (nI j52), .int 0, .int 0, .int 0])) := ⟨_, rfl⟩
                    rw [← eh356]
                    have sp357 : tw_sp d τ h g τ321 h356 := by rw [eh356]; exact sp354.wl n314 z323
                    have f358 : h356 q311 = some (.inr (12, [.int (nI j35), .int (nI j52), .int 0, .int 0, .int 0])) := by rw [eh356]; exact tw_up_s
                    refine tw_aload 0 dX10_owe_118 rfl ?_
                    refine tw_iload_n 4 dX10_owe_120 rfl rfl ?_
                    refine tw_put rfl in_12 tyX8 tyX8_ok nmX8 2 dX10_owe_121 w_1445 rfl (by decide) f358 rfl rfl rfl rfl (Nat.le_of_ble_eq_true rfl) [.int (nI j35), .int (nI j52), .int v, .int 0, .int 0] rfl ?_
                    obtain ⟨h359, eh359⟩ : ∃ z : tw_H, z = tw_up h356 q311 (.inr (12, [.int (nI j35), .int (nI j52), .int v, .int 0, .int 0])) := ⟨_, rfl⟩
                    rw [← eh359]
                    have sp360 : tw_sp d τ h g τ321 h359 := by rw [eh359]; exact sp357.wl n314 z323
                    have f361 : h359 q311 = some (.inr (12, [.int (nI j35), .int (nI j52), .int v, .int 0, .int 0])) := by rw [eh359]; exact tw_up_s
                    refine tw_aload 0 dX10_owe_124 rfl ?_
                    refine tw_aload_n 1 dX10_owe_126 rfl rfl ?_
                    obtain ⟨e362, f363, th_364, td_365, ds_366, fr_367, ca_368, us_369, wo_370, cm_371, lc_372, lh_373, ld_374, rfl, k375, k376, k377, k378, k379, k380, k381, k382, k383, k384, k385, k386, k387, k388, k389, k390, k391, k392⟩ := sp360.1 x 36 k325 (by decide)
                    refine tw_get (v := .int td_365) rfl in_14 1 dX10_owe_127 w_1152 rfl (by decide) f363 rfl ?_
                    refine tw_iload 5 dX10_owe_130 rfl ?_
                    refine tw_iadd dX10_owe_132 ?_
                    refine tw_nmi (fun v393 ev393 => ?_)
                    refine tw_put rfl in_12 tyX8 tyX8_ok nmX8 3 dX10_owe_133 w_1446 rfl (by decide) f361 rfl rfl rfl rfl (Nat.le_of_ble_eq_true rfl) [.int (nI j35), .int (nI j52), .int v, .int v393, .int 0] rfl ?_
                    obtain ⟨h394, eh394⟩ : ∃ z : tw_H, z = tw_up h359 q311 (.inr (12, [.int (nI j35), .int (nI j52), .int v, .int v393, .int 0])) := ⟨_, rfl⟩
                    rw [← eh394]
                    have sp395 : tw_sp d τ h g τ321 h394 := by rw [eh394]; exact sp360.wl n314 z323
                    have f396 : h394 q311 = some (.inr (12, [.int (nI j35), .int (nI j52), .int v, .int v393, .int 0])) := by rw [eh394]; exact tw_up_s
                    refine tw_aload_n 1 dX10_owe_136 rfl rfl ?_
                    obtain ⟨e397, f398, th_399, td_400, ds_401, fr_402, ca_403, us_404, wo_405, cm_406, lc_407, lh_408, ld_409, rfl, k410, k411, k412, k413, k414, k415, k416, k417, k418, k419, k420, k421, k422, k423, k424, k425, k426, k427⟩ := sp395.1 x 36 k325 (by decide)
                    refine tw_get (v := .ref ld_409) rfl in_14 11 dX10_owe_137 w_1162 rfl (by decide) f398 rfl ?_
                    refine tw_aload 0 dX10_owe_140 rfl ?_
                    obtain ⟨τ428, eτ428⟩ : ∃ z : tw_K, z = tw_ku τ321 q311 22 := ⟨_, rfl⟩
                    have le429 : tw_le τ321 τ428 := by rw [eτ428]; exact tw_ku_le z323
                    have k430 : τ428 x = 36 := le429.k k325 (by decide)
                    have k431 : τ428 ds_5 = 34 := le429.k k326 (by decide)
                    have k432 : τ428 fr_6 = 34 := le429.k k327 (by decide)
                    have k433 : τ428 ca_7 = 31 := le429.k k328 (by decide)
                    have k434 : τ428 us_8 = 31 := le429.k k329 (by decide)
                    have k435 : τ428 wo_9 = 31 := le429.k k330 (by decide)
                    have k436 : τ428 cm_10 = 31 := le429.k k331 (by decide)
                    have k437 : τ428 lc_11 = 24 := le429.k k332 (by decide)
                    have k438 : τ428 lh_12 = 25 := le429.k k333 (by decide)
                    have k439 : τ428 ld_13 = 26 := le429.k k334 (by decide)
                    have k440 : τ428 ds_219 = 34 := le429.k k335 (by decide)
                    have k441 : τ428 fr_220 = 34 := le429.k k336 (by decide)
                    have k442 : τ428 ca_221 = 31 := le429.k k337 (by decide)
                    have k443 : τ428 us_222 = 31 := le429.k k338 (by decide)
                    have k444 : τ428 wo_223 = 31 := le429.k k339 (by decide)
                    have k445 : τ428 cm_224 = 31 := le429.k k340 (by decide)
                    have k446 : τ428 lc_225 = 24 := le429.k k341 (by decide)
                    have k447 : τ428 lh_226 = 25 := le429.k k342 (by decide)
                    have k448 : τ428 ld_227 = 26 := le429.k k343 (by decide)
                    have k449 : τ428 ds_262 = 34 := le429.k k344 (by decide)
                    have k450 : τ428 fr_263 = 34 := le429.k k345 (by decide)
                    have k451 : τ428 ca_264 = 31 := le429.k k346 (by decide)
                    have k452 : τ428 us_265 = 31 := le429.k k347 (by decide)
                    have k453 : τ428 wo_266 = 31 := le429.k k348 (by decide)
                    have k454 : τ428 cm_267 = 31 := le429.k k349 (by decide)
                    have k455 : τ428 lc_268 = 24 := le429.k k350 (by decide)
                    have k456 : τ428 lh_269 = 25 := le429.k k351 (by decide)
                    have k457 : τ428 ld_270 = 26 := le429.k k352 (by decide)
                    have k458 : τ428 ds_366 = 34 := le429.k k375 (by decide)
                    have k459 : τ428 fr_367 = 34 := le429.k k376 (by decide)
                    have k460 : τ428 ca_368 = 31 := le429.k k377 (by decide)
                    have k461 : τ428 us_369 = 31 := le429.k k378 (by decide)
                    have k462 : τ428 wo_370 = 31 := le429.k k379 (by decide)
                    have k463 : τ428 cm_371 = 31 := le429.k k380 (by decide)
                    have k464 : τ428 lc_372 = 24 := le429.k k381 (by decide)
                    have k465 : τ428 lh_373 = 25 := le429.k k382 (by decide)
                    have k466 : τ428 ld_374 = 26 := le429.k k383 (by decide)
                    have k467 : τ428 ds_401 = 34 := le429.k k410 (by decide)
                    have k468 : τ428 fr_402 = 34 := le429.k k411 (by decide)
                    have k469 : τ428 ca_403 = 31 := le429.k k412 (by decide)
                    have k470 : τ428 us_404 = 31 := le429.k k413 (by decide)
                    have k471 : τ428 wo_405 = 31 := le429.k k414 (by decide)
                    have k472 : τ428 cm_406 = 31 := le429.k k415 (by decide)
                    have k473 : τ428 lc_407 = 24 := le429.k k416 (by decide)
                    have k474 : τ428 lh_408 = 25 := le429.k k417 (by decide)
                    have k475 : τ428 ld_409 = 26 := le429.k k418 (by decide)
                    have sp476 : tw_sp d τ h g τ428 h394 := by rw [eτ428]; exact sp395.ty n314 z323 f396 (by rw [← eτ428]; exact ⟨v, v393, 0, j35, j52, rfl, (by omega), (by omega), (by unfold tw_01; decide)⟩)
                    have k477 : τ428 q311 = 22 := by rw [eτ428]; exact tw_ku_s
                    obtain ⟨e478, f479, ⟨el480, rfl, k481⟩, k482⟩ := sp476.1 ld_409 26 k475 (by decide)
                    have hb9 : g.2 5 + 1 ≤ 10 := (tw_n4 c297 k421 (by decide))
                    rcases k481 with k481p | k481p
                    · obtain ⟨pa, pn, pf⟩ := k481p
                      subst pa
                      have f9 : h394 ld_409 = some (.inr (3, [.int (g.1 5), .ref (d.2 102), .int (nI 0)])) := by have z := f479; rw [pn] at z; exact z
                      refine tw_bi (tw_callV (M := mX10_owe) (pc := 142) okJx4a65c_add_9ea2d dX10_owe_142 w_1238 rfl f479 [.ref q311] [] rfl rfl ⟨by decide, by decide⟩ (Nat.le_of_ble_eq_true rfl) (c_add_new d h394 ld_409 (g.1 5) f9 q311 12 _ _ rfl (ng_12) f396 (by decide)) 8 45 (Nat.le_of_ble_eq_true rfl) (Nat.le_of_ble_eq_true rfl)) (fun r9 h483 q9 => ?_) (fun E h1 q => q.elim)
                      obtain ⟨r8, hr8, q1, q2, q3⟩ := q9
                      obtain ⟨g9, τ9, ⟨hga, hg1⟩, sp9⟩ := tw_gadd26 (F := fun _ => none) sp476.1 k475 k477 hb9 (fun j hj => by rw [pn] at hj; exact absurd hj (Nat.not_lt_zero _)) (Or.inr ⟨hr8, pf⟩) (by rw [pn]; exact q1) (by rw [pn]; exact q2) q3
                      have sp484 := sp476.tr sp9
                      have k485 : τ9 x = 36 := sp9.2.1.k k430 (by decide)
                      have k486 : τ9 ds_5 = 34 := sp9.2.1.k k431 (by decide)
                      have k487 : τ9 fr_6 = 34 := sp9.2.1.k k432 (by decide)
                      have k488 : τ9 ca_7 = 31 := sp9.2.1.k k433 (by decide)
                      have k489 : τ9 us_8 = 31 := sp9.2.1.k k434 (by decide)
                      have k490 : τ9 wo_9 = 31 := sp9.2.1.k k435 (by decide)
                      have k491 : τ9 cm_10 = 31 := sp9.2.1.k k436 (by decide)
                      have k492 : τ9 lc_11 = 24 := sp9.2.1.k k437 (by decide)
                      have k493 : τ9 lh_12 = 25 := sp9.2.1.k k438 (by decide)
                      have k494 : τ9 ld_13 = 26 := sp9.2.1.k k439 (by decide)
                      have k495 : τ9 ds_219 = 34 := sp9.2.1.k k440 (by decide)
                      have k496 : τ9 fr_220 = 34 := sp9.2.1.k k441 (by decide)
                      have k497 : τ9 ca_221 = 31 := sp9.2.1.k k442 (by decide)
                      have k498 : τ9 us_222 = 31 := sp9.2.1.k k443 (by decide)
                      have k499 : τ9 wo_223 = 31 := sp9.2.1.k k444 (by decide)
                      have k500 : τ9 cm_224 = 31 := sp9.2.1.k k445 (by decide)
                      have k501 : τ9 lc_225 = 24 := sp9.2.1.k k446 (by decide)
                      have k502 : τ9 lh_226 = 25 := sp9.2.1.k k447 (by decide)
                      have k503 : τ9 ld_227 = 26 := sp9.2.1.k k448 (by decide)
                      have k504 : τ9 ds_262 = 34 := sp9.2.1.k k449 (by decide)
                      have k505 : τ9 fr_263 = 34 := sp9.2.1.k k450 (by decide)
                      have k506 : τ9 ca_264 = 31 := sp9.2.1.k k451 (by decide)
                      have k507 : τ9 us_265 = 31 := sp9.2.1.k k452 (by decide)
                      have k508 : τ9 wo_266 = 31 := sp9.2.1.k k453 (by decide)
                      have k509 : τ9 cm_267 = 31 := sp9.2.1.k k454 (by decide)
                      have k510 : τ9 lc_268 = 24 := sp9.2.1.k k455 (by decide)
                      have k511 : τ9 lh_269 = 25 := sp9.2.1.k k456 (by decide)
                      have k512 : τ9 ld_270 = 26 := sp9.2.1.k k457 (by decide)
                      have k513 : τ9 ds_366 = 34 := sp9.2.1.k k458 (by decide)
                      have k514 : τ9 fr_367 = 34 := sp9.2.1.k k459 (by decide)
                      have k515 : τ9 ca_368 = 31 := sp9.2.1.k k460 (by decide)
                      have k516 : τ9 us_369 = 31 := sp9.2.1.k k461 (by decide)
                      have k517 : τ9 wo_370 = 31 := sp9.2.1.k k462 (by decide)
                      have k518 : τ9 cm_371 = 31 := sp9.2.1.k k463 (by decide)
                      have k519 : τ9 lc_372 = 24 := sp9.2.1.k k464 (by decide)
                      have k520 : τ9 lh_373 = 25 := sp9.2.1.k k465 (by decide)
                      have k521 : τ9 ld_374 = 26 := sp9.2.1.k k466 (by decide)
                      have k522 : τ9 ds_401 = 34 := sp9.2.1.k k467 (by decide)
                      have k523 : τ9 fr_402 = 34 := sp9.2.1.k k468 (by decide)
                      have k524 : τ9 ca_403 = 31 := sp9.2.1.k k469 (by decide)
                      have k525 : τ9 us_404 = 31 := sp9.2.1.k k470 (by decide)
                      have k526 : τ9 wo_405 = 31 := sp9.2.1.k k471 (by decide)
                      have k527 : τ9 cm_406 = 31 := sp9.2.1.k k472 (by decide)
                      have k528 : τ9 lc_407 = 24 := sp9.2.1.k k473 (by decide)
                      have k529 : τ9 lh_408 = 25 := sp9.2.1.k k474 (by decide)
                      have k530 : τ9 ld_409 = 26 := sp9.2.1.k k475 (by decide)
                      have k531 : τ9 q311 = 22 := sp9.2.1.k k477 (by decide)
                      refine tw_pop dX10_owe_145 rfl ?_
                      refine tw_aload_n 1 dX10_owe_146 rfl rfl ?_
                      obtain ⟨e532, f533, th_534, td_535, ds_536, fr_537, ca_538, us_539, wo_540, cm_541, lc_542, lh_543, ld_544, rfl, k545, k546, k547, k548, k549, k550, k551, k552, k553, k554, k555, k556, k557, k558, k559, k560, k561, k562⟩ := sp484.1 x 36 k485 (by decide)
                      refine tw_get (v := .ref ld_544) rfl in_14 11 dX10_owe_147 w_1162 rfl (by decide) f533 rfl ?_
                      obtain ⟨e563, f564, ⟨el565, rfl, k566⟩, k567⟩ := sp484.1 ld_544 26 k553 (by decide)
                      refine tw_bi (tw_callV (M := mX10_owe) (pc := 150) okJx4a65c_size_8abf5 dX10_owe_150 w_1208 rfl f564 [] [] rfl rfl ⟨by decide, by decide⟩ (Nat.le_of_ble_eq_true rfl) (c26_size d g9 τ9 h483 sp484.1 ld_544 k553) 8 45 (Nat.le_of_ble_eq_true rfl) (Nat.le_of_ble_eq_true rfl)) (fun r570 h569 q568 => ?_) (fun E h1 q => q.elim)
                      obtain ⟨q568e, q568r⟩ := q568
                      rw [q568e, q568r]
                      refine tw_iconst (v := 1) dX10_owe_153 (by decide) ?_
                      refine tw_isub dX10_owe_154 ?_
                      refine tw_nmi (fun v571 ev571 => ?_)
                      exact tw_iret dX10_owe_155 rfl (Or.inl ⟨_, rfl, ⟨_, _, hga, sp484⟩⟩)
                    · obtain ⟨e9, fa9, ⟨F9, rfl, hc9, h49⟩, un9⟩ := sp476.1 el480 29 k481p (by decide)
                      refine tw_bi (tw_callV (M := mX10_owe) (pc := 142) okJx4a65c_add_9ea2d dX10_owe_142 w_1238 rfl f479 [.ref q311] [] rfl rfl ⟨by decide, by decide⟩ (Nat.le_of_ble_eq_true rfl) (c_add_old d h394 ld_409 el480 (g.2 5) F9 (g.1 5) (by omega) f479 fa9 q311 12 _ _ rfl (ng_12) f396 (by decide)) 8 45 (Nat.le_of_ble_eq_true rfl) (Nat.le_of_ble_eq_true rfl)) (fun r9 h572 q9 => ?_) (fun E h1 q => q.elim)
                      obtain ⟨q1, q2, q3⟩ := q9
                      obtain ⟨g9, τ9, ⟨hga, hg1⟩, sp9⟩ := tw_gadd26 sp476.1 k475 k477 hb9 h49 (Or.inl k481p) q1 q2 q3
                      have sp573 := sp476.tr sp9
                      have k574 : τ9 x = 36 := sp9.2.1.k k430 (by decide)
                      have k575 : τ9 ds_5 = 34 := sp9.2.1.k k431 (by decide)
                      have k576 : τ9 fr_6 = 34 := sp9.2.1.k k432 (by decide)
                      have k577 : τ9 ca_7 = 31 := sp9.2.1.k k433 (by decide)
                      have k578 : τ9 us_8 = 31 := sp9.2.1.k k434 (by decide)
                      have k579 : τ9 wo_9 = 31 := sp9.2.1.k k435 (by decide)
                      have k580 : τ9 cm_10 = 31 := sp9.2.1.k k436 (by decide)
                      have k581 : τ9 lc_11 = 24 := sp9.2.1.k k437 (by decide)
                      have k582 : τ9 lh_12 = 25 := sp9.2.1.k k438 (by decide)
                      have k583 : τ9 ld_13 = 26 := sp9.2.1.k k439 (by decide)
                      have k584 : τ9 ds_219 = 34 := sp9.2.1.k k440 (by decide)
                      have k585 : τ9 fr_220 = 34 := sp9.2.1.k k441 (by decide)
                      have k586 : τ9 ca_221 = 31 := sp9.2.1.k k442 (by decide)
                      have k587 : τ9 us_222 = 31 := sp9.2.1.k k443 (by decide)
                      have k588 : τ9 wo_223 = 31 := sp9.2.1.k k444 (by decide)
                      have k589 : τ9 cm_224 = 31 := sp9.2.1.k k445 (by decide)
                      have k590 : τ9 lc_225 = 24 := sp9.2.1.k k446 (by decide)
                      have k591 : τ9 lh_226 = 25 := sp9.2.1.k k447 (by decide)
                      have k592 : τ9 ld_227 = 26 := sp9.2.1.k k448 (by decide)
                      have k593 : τ9 ds_262 = 34 := sp9.2.1.k k449 (by decide)
                      have k594 : τ9 fr_263 = 34 := sp9.2.1.k k450 (by decide)
                      have k595 : τ9 ca_264 = 31 := sp9.2.1.k k451 (by decide)
                      have k596 : τ9 us_265 = 31 := sp9.2.1.k k452 (by decide)
                      have k597 : τ9 wo_266 = 31 := sp9.2.1.k k453 (by decide)
                      have k598 : τ9 cm_267 = 31 := sp9.2.1.k k454 (by decide)
                      have k599 : τ9 lc_268 = 24 := sp9.2.1.k k455 (by decide)
                      have k600 : τ9 lh_269 = 25 := sp9.2.1.k k456 (by decide)
                      have k601 : τ9 ld_270 = 26 := sp9.2.1.k k457 (by decide)
                      have k602 : τ9 ds_366 = 34 := sp9.2.1.k k458 (by decide)
                      have k603 : τ9 fr_367 = 34 := sp9.2.1.k k459 (by decide)
                      have k604 : τ9 ca_368 = 31 := sp9.2.1.k k460 (by decide)
                      have k605 : τ9 us_369 = 31 := sp9.2.1.k k461 (by decide)
                      have k606 : τ9 wo_370 = 31 := sp9.2.1.k k462 (by decide)
                      have k607 : τ9 cm_371 = 31 := sp9.2.1.k k463 (by decide)
                      have k608 : τ9 lc_372 = 24 := sp9.2.1.k k464 (by decide)
                      have k609 : τ9 lh_373 = 25 := sp9.2.1.k k465 (by decide)
                      have k610 : τ9 ld_374 = 26 := sp9.2.1.k k466 (by decide)
                      have k611 : τ9 ds_401 = 34 := sp9.2.1.k k467 (by decide)
                      have k612 : τ9 fr_402 = 34 := sp9.2.1.k k468 (by decide)
                      have k613 : τ9 ca_403 = 31 := sp9.2.1.k k469 (by decide)
                      have k614 : τ9 us_404 = 31 := sp9.2.1.k k470 (by decide)
                      have k615 : τ9 wo_405 = 31 := sp9.2.1.k k471 (by decide)
                      have k616 : τ9 cm_406 = 31 := sp9.2.1.k k472 (by decide)
                      have k617 : τ9 lc_407 = 24 := sp9.2.1.k k473 (by decide)
                      have k618 : τ9 lh_408 = 25 := sp9.2.1.k k474 (by decide)
                      have k619 : τ9 ld_409 = 26 := sp9.2.1.k k475 (by decide)
                      have k620 : τ9 q311 = 22 := sp9.2.1.k k477 (by decide)
                      refine tw_pop dX10_owe_145 rfl ?_
                      refine tw_aload_n 1 dX10_owe_146 rfl rfl ?_
                      obtain ⟨e621, f622, th_623, td_624, ds_625, fr_626, ca_627, us_628, wo_629, cm_630, lc_631, lh_632, ld_633, rfl, k634, k635, k636, k637, k638, k639, k640, k641, k642, k643, k644, k645, k646, k647, k648, k649, k650, k651⟩ := sp573.1 x 36 k574 (by decide)
                      refine tw_get (v := .ref ld_633) rfl in_14 11 dX10_owe_147 w_1162 rfl (by decide) f622 rfl ?_
                      obtain ⟨e652, f653, ⟨el654, rfl, k655⟩, k656⟩ := sp573.1 ld_633 26 k642 (by decide)
                      refine tw_bi (tw_callV (M := mX10_owe) (pc := 150) okJx4a65c_size_8abf5 dX10_owe_150 w_1208 rfl f653 [] [] rfl rfl ⟨by decide, by decide⟩ (Nat.le_of_ble_eq_true rfl) (c26_size d g9 τ9 h572 sp573.1 ld_633 k642) 8 45 (Nat.le_of_ble_eq_true rfl) (Nat.le_of_ble_eq_true rfl)) (fun r659 h658 q657 => ?_) (fun E h1 q => q.elim)
                      obtain ⟨q657e, q657r⟩ := q657
                      rw [q657e, q657r]
                      refine tw_iconst (v := 1) dX10_owe_153 (by decide) ?_
                      refine tw_isub dX10_owe_154 ?_
                      refine tw_nmi (fun v660 ev660 => ?_)
                      exact tw_iret dX10_owe_155 rfl (Or.inl ⟨_, rfl, ⟨_, _, hga, sp573⟩⟩)
                · refine tw_iconst (v := 1) dX10_owe_83 (by decide) ?_
                  refine tw_goto 88 dX10_owe_84 (by decide) ?_
                  refine tw_iconst (v := 3) dX10_owe_88 (by decide) ?_
                  refine tw_bi (tw_callV (M := mX10_owe) (pc := 89) okX10_refuse dX10_owe_89 w_1204 rfl f259 [.int 1, .int 3] [] rfl rfl ⟨by decide, by decide⟩ (Nat.le_of_ble_eq_true rfl) (c_X10_refuse d g τ h247 sp254.1 x kx 1 3 (by decide)) 10 60 (Nat.le_of_ble_eq_true rfl) (Nat.le_of_ble_eq_true rfl)) (fun r663 h662 q661 => ?_) (fun E h1 q => q.elim)
                  obtain ⟨e664, he665, hs666, hr667, h3668⟩ := q661
                  have sp669 : tw_sp d τ h g τ h662 := by rw [he665]; exact sp254.set kx (by decide) hs666
                  have f670 : h662 ld_270 = some (.inr (3, [.int (g.1 5), .ref el291, .int (nI (g.2 5))])) := by rw [he665, tw_up_n (fun q => absurd (k279) (by rw [q, kx]; decide))]; exact f290
                  rcases hr667 with ei671 | ⟨ei671, ei671b⟩
                  · rw [ei671]
                    refine tw_if_eq 97 dX10_owe_92 (by decide) (fun c672 => absurd c672 (by decide)) (fun _ => ?_)
                    refine tw_iconst (v := 0) dX10_owe_95 (by decide) ?_
                    exact tw_iret dX10_owe_96 rfl (Or.inl ⟨_, rfl, ⟨_, _, ⟨rfl, rfl⟩, sp669⟩⟩)
                  · exact absurd ei671b (by decide)

set_option maxHeartbeats 4000000 in
set_option maxRecDepth 100000 in
theorem c_X10_market (d : tw_D) (g : tw_G) (τ : tw_K) (h : tw_H) (hw : tw_wt d g τ h) (x : Nat) (kx : τ x = 36) (m : Int32) : tw_Ct d mX10_market 0 0 [.ref x, .int m] h (tw_qi (fun r h1 => (∀ b, b ≠ x → h1 b = h b) ∧ (¬ (100 ≤ m ∧ m ≤ 200) ∧ tw_th (h1 x) = 1 ∧ tw_sp d τ h g τ h1 ∨ (100 ≤ m ∧ m ≤ 200) ∧ r = g.1 1 ∧ tw_th (h1 x) = 0 ∧ tw_sp d τ h (tw_g1 g 1 m) τ h1)) tw_nx) := by
  refine tw_of (by decide +kernel) (Nat.le_of_ble_eq_true rfl) ?_
  show tw_W d mX10_market _ 0 [(0, .ref x), (1, .int m)] [] h 0 0
  have sp0 := tw_sp.rf hw
  refine tw_aload_n 0 dX10_market_0 rfl rfl ?_
  refine tw_iload_n 1 dX10_market_1 rfl rfl ?_
  refine tw_bipush (v := 100) dX10_market_2 (by decide) ?_
  refine tw_sipush (v := 200) dX10_market_4 (by decide) ?_
  refine tw_bi (tw_callS (M := mX10_market) (pc := 7) okX10_isIn dX10_market_7 w_1196 [.int m, .int 100, .int 200] [.ref x] rfl rfl ⟨by decide, by decide⟩ (Nat.le_of_ble_eq_true rfl) (c_X10_isIn d g τ h sp0.1 m 100 200) 0 0 (Nat.le_of_ble_eq_true rfl) (Nat.le_of_ble_eq_true rfl)) (fun r3 h2 q1 => ?_) (fun E h1 q => q.elim)
  obtain ⟨q1e, q1d⟩ := q1
  rw [q1e]
  rcases q1d with ⟨q1r, q1n⟩ | ⟨q1r, q1a, q1b⟩
  · rw [q1r]
    refine tw_if_ne 17 dX10_market_10 (by decide) (fun c4 => absurd (by decide) c4) (fun _ => ?_)
    refine tw_iconst (v := 1) dX10_market_13 (by decide) ?_
    refine tw_goto 18 dX10_market_14 (by decide) ?_
    refine tw_iconst (v := 1) dX10_market_18 (by decide) ?_
    obtain ⟨e5, f6, th_7, td_8, ds_9, fr_10, ca_11, us_12, wo_13, cm_14, lc_15, lh_16, ld_17, rfl, k18, k19, k20, k21, k22, k23, k24, k25, k26, k27, k28, k29, k30, k31, k32, k33, k34, k35⟩ := sp0.1 x 36 kx (by decide)
    refine tw_bi (tw_callV (M := mX10_market) (pc := 19) okX10_start dX10_market_19 w_1200 rfl f6 [.int 1, .int 1] [] rfl rfl ⟨by decide, by decide⟩ (Nat.le_of_ble_eq_true rfl) (c_X10_start d g τ h sp0.1 x kx 1 1 (by decide)) 0 0 (Nat.le_of_ble_eq_true rfl) (Nat.le_of_ble_eq_true rfl)) (fun r h1 q => ?_) (fun E h1 q => q.elim)
    obtain ⟨e, he, hs, hr, h3a, h3b⟩ := q
    have sp1 : tw_sp d τ h g τ h1 := by rw [he]; exact sp0.set kx (by decide) hs
    obtain ⟨r1, t1⟩ := h3b rfl
    rw [r1]
    refine tw_if_eq 27 dX10_market_22 (by decide) (fun c36 => absurd c36 (by decide)) (fun _ => ?_)
    refine tw_iconst (v := 0) dX10_market_25 (by decide) ?_
    exact tw_iret dX10_market_26 rfl (Or.inl ⟨_, rfl, fun b hb => by rw [he, tw_up_n hb], Or.inl ⟨q1n, by rw [he, tw_up_s]; exact t1, sp1⟩⟩)
  · rw [q1r]
    refine tw_if_ne 17 dX10_market_10 (by decide) (fun _ => ?_) (fun c37 => absurd c37 (by decide))
    refine tw_iconst (v := 0) dX10_market_17 (by decide) ?_
    refine tw_iconst (v := 1) dX10_market_18 (by decide) ?_
    obtain ⟨e38, f39, th_40, td_41, ds_42, fr_43, ca_44, us_45, wo_46, cm_47, lc_48, lh_49, ld_50, rfl, k51, k52, k53, k54, k55, k56, k57, k58, k59, k60, k61, k62, k63, k64, k65, k66, k67, k68⟩ := sp0.1 x 36 kx (by decide)
    refine tw_bi (tw_callV (M := mX10_market) (pc := 19) okX10_start dX10_market_19 w_1200 rfl f39 [.int 0, .int 1] [] rfl rfl ⟨by decide, by decide⟩ (Nat.le_of_ble_eq_true rfl) (c_X10_start d g τ h sp0.1 x kx 0 1 (by decide)) 0 0 (Nat.le_of_ble_eq_true rfl) (Nat.le_of_ble_eq_true rfl)) (fun r h1 q => ?_) (fun E h1 q => q.elim)
    obtain ⟨e, he, hs, hr, h3a, h3b⟩ := q
    have sp1 : tw_sp d τ h g τ h1 := by rw [he]; exact sp0.set kx (by decide) hs
    obtain ⟨r1, t1⟩ := h3a rfl
    rw [r1]
    refine tw_if_eq 27 dX10_market_22 (by decide) (fun _ => ?_) (fun c69 => absurd (by decide) c69)
    refine tw_aload_n 0 dX10_market_27 rfl rfl ?_
    obtain ⟨e70, f71, th_72, td_73, ds_74, fr_75, ca_76, us_77, wo_78, cm_79, lc_80, lh_81, ld_82, rfl, k83, k84, k85, k86, k87, k88, k89, k90, k91, k92, k93, k94, k95, k96, k97, k98, k99, k100⟩ := sp1.1 x 36 kx (by decide)
    refine tw_get (v := .int (g.1 1)) rfl in_14 2 dX10_market_28 w_1153 rfl (by decide) f71 rfl ?_
    refine tw_istore_n [(2, .int (g.1 1)), (0, .ref x), (1, .int m)] dX10_market_31 rfl (by decide) rfl ?_
    refine tw_aload_n 1 dX10_market_32 rfl rfl ?_
    refine tw_iload_n 2 dX10_market_33 rfl rfl ?_
    have z0 : tw_th (h1 x) = 0 := by rw [he, tw_up_s]; exact t1
    rw [f71] at z0
    have q0 : th_72 = 0 := z0
    refine tw_put rfl in_14 tyX10 tyX10_ok nmX10 2 dX10_market_34 w_1153 rfl (by decide) f71 rfl rfl rfl rfl (Nat.le_of_ble_eq_true rfl) [.int th_72, .int td_73, .int m, .ref ds_74, .ref fr_75, .ref ca_76, .ref us_77, .ref wo_78, .ref cm_79, .ref lc_80, .ref lh_81, .ref ld_82] rfl ?_
    obtain ⟨h101, eh101⟩ : ∃ z : tw_H, z = tw_up h1 x (.inr (14, [.int th_72, .int td_73, .int m, .ref ds_74, .ref fr_75, .ref ca_76, .ref us_77, .ref wo_78, .ref cm_79, .ref lc_80, .ref lh_81, .ref ld_82])) := ⟨_, rfl⟩
    rw [← eh101]
    have f102 : h101 x = some (.inr (14, [.int th_72, .int td_73, .int m, .ref ds_74, .ref fr_75, .ref ca_76, .ref us_77, .ref wo_78, .ref cm_79, .ref lc_80, .ref lh_81, .ref ld_82])) := by rw [eh101]; exact tw_up_s
    have sp2 : tw_sp d τ h (tw_g1 g 1 m) τ h101 := by rw [eh101]; exact sp1.m36 kx ⟨th_72, td_73, ds_74, fr_75, ca_76, us_77, wo_78, cm_79, lc_80, lh_81, ld_82, rfl, k83, k84, k85, k86, k87, k88, k89, k90, k91, k92, k93, k94, k95, k96, k97, k98, k99, k100⟩
    refine tw_iload_n 0 dX10_market_37 rfl rfl ?_
    exact tw_iret dX10_market_38 rfl (Or.inl ⟨_, rfl, fun b hb => by rw [eh101, tw_up_n hb, he, tw_up_n hb], Or.inr ⟨⟨q1a, q1b⟩, rfl, by rw [f102]; exact q0, sp2⟩⟩)

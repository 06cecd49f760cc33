/-! the class's methods over the typed heap. Laid by wip/p5/mkclass.py. -/
set_option maxHeartbeats 4000000 in
set_option maxRecDepth 100000 in
theorem c_X10_isNoChange (d : tw_D) (g : tw_G) (τ : tw_K) (h : tw_H) (hw : tw_wt d g τ h) (x : Nat) (kx : τ x = 36) (y : Nat) (ky : τ y = 23) (m : Int32) (gr : Int32) (hm : m = 0 ∨ m = 1) : tw_Ct d mX10_isNoChange 0 0 [.ref x, .ref y, .int m, .int gr] h (tw_qi (fun r h1 => h1 = h ∧ (r = 1 ∨ r = 0 ∧ ∃ i, i < g.2 3 ∧ tw_th (h y) = nI i)) tw_nx) := by
  refine tw_of (by decide +kernel) (Nat.le_of_ble_eq_true rfl) ?_
  show tw_W d mX10_isNoChange _ 0 [(0, .ref x), (1, .ref y), (2, .int m), (3, .int gr)] [] h 0 0
  have sp0 := tw_sp.rf hw
  refine tw_aload_n 1 dX10_isNoChange_0 rfl rfl ?_
  obtain ⟨e1, f2, x_3, y_4, dy_5, p_6, rfl, k7, k8, k9⟩ := sp0.1 y 23 ky (by decide)
  refine tw_get (v := .int x_3) rfl in_13 0 dX10_isNoChange_1 w_1342 rfl (by decide) f2 rfl ?_
  refine tw_iconst (v := -1) dX10_isNoChange_4 (by decide) ?_
  refine tw_icmp_eq 20 dX10_isNoChange_5 (by decide) (fun c10 => ?_) (fun c10 => ?_)
  · refine tw_iconst (v := 1) dX10_isNoChange_20 (by decide) ?_
    exact tw_zret dX10_isNoChange_21 rfl rfl (Or.inl ⟨_, rfl, ⟨rfl, (Or.inl rfl)⟩⟩)
  · refine tw_aload_n 1 dX10_isNoChange_8 rfl rfl ?_
    refine tw_get (v := .ref p_6) rfl in_13 3 dX10_isNoChange_9 w_1348 rfl (by decide) f2 rfl ?_
    refine tw_iload_n 2 dX10_isNoChange_12 rfl rfl ?_
    obtain ⟨e11, f12, F13, rfl⟩ := sp0.1 p_6 31 k7 (by decide)
    obtain ⟨v14, ev14⟩ : ∃ y : Int64, F13 (m).toNatClampNeg = y := ⟨_, rfl⟩
    refine tw_lald (v := v14) dX10_isNoChange_13 f12 (tw_in01 hm (by decide)) ev14 ?_
    refine tw_iload_n 3 dX10_isNoChange_14 rfl rfl ?_
    refine tw_i2l dX10_isNoChange_15 ?_
    refine tw_nml (fun v15 ev15 => ?_)
    refine tw_lcmp dX10_isNoChange_16 ?_
    refine tw_nmi (fun v16 ev16 => ?_)
    refine tw_if_ge 22 dX10_isNoChange_17 (by decide) (fun c17 => ?_) (fun c17 => ?_)
    · refine tw_aload_n 0 dX10_isNoChange_22 rfl rfl ?_
      obtain ⟨e18, f19, th_20, td_21, ds_22, fr_23, ca_24, us_25, wo_26, cm_27, lc_28, lh_29, ld_30, rfl, k31, k32, k33, k34, k35, k36, k37, k38, k39, k40, k41, k42, k43, k44, k45, k46, k47, k48⟩ := sp0.1 x 36 kx (by decide)
      refine tw_get (v := .ref lc_28) rfl in_14 9 dX10_isNoChange_23 w_1160 rfl (by decide) f19 rfl ?_
      refine tw_aload_n 1 dX10_isNoChange_26 rfl rfl ?_
      refine tw_get (v := .int x_3) rfl in_13 0 dX10_isNoChange_27 w_1342 rfl (by decide) f2 rfl ?_
      obtain ⟨j49, hj50, ej51⟩ := k8.resolve_left c10
      subst ej51
      obtain ⟨e52, f53, ⟨el54, rfl, k55⟩, k56⟩ := sp0.1 lc_28 24 k37 (by decide)
      refine tw_br (tw_callV (M := mX10_isNoChange) (pc := 30) okJx4a65c_get_915e3 dX10_isNoChange_30 w_1296 rfl f53 [.int (nI j49)] [] rfl rfl ⟨by decide, by decide⟩ (Nat.le_of_ble_eq_true rfl) (c24_get d g τ h sp0.1 lc_28 k37 j49 (by omega) (by omega)) 0 0 (Nat.le_of_ble_eq_true rfl) (Nat.le_of_ble_eq_true rfl)) (fun r59 h58 q57 => ?_) (fun E h1 q => q.elim)
      obtain ⟨q57e, q57k⟩ := q57
      rw [q57e]
      have el60 : tw_el h (g.2 12) j49 = r59 := by rw [← k56]; exact q57k.2.symm
      have kl61 : τ (g.2 12) = 24 := by rw [← k56]; exact k37
      obtain ⟨e62, f63, r_64, c_65, v_66, o_67, t_68, rfl, k69, k70, k71, k72, k73, k74⟩ := sp0.1 r59 21 q57k.1 (by decide)
      refine tw_castS (ci := 11) rfl dX10_isNoChange_33 w_1212 f63 ?_
      refine tw_astore [(4, .ref r59), (0, .ref x), (1, .ref y), (2, .int m), (3, .int gr)] dX10_isNoChange_36 (by decide) rfl ?_
      refine tw_aload 0 dX10_isNoChange_38 rfl ?_
      refine tw_get (v := .ref o_67) rfl in_11 3 dX10_isNoChange_40 w_1223 rfl (by decide) f63 rfl ?_
      refine tw_iload_n 3 dX10_isNoChange_43 rfl rfl ?_
      obtain ⟨e75, f76, F77, rfl, k79, pf78⟩ := sp0.1 o_67 32 k70 (by decide)
      obtain ⟨v80, ev80⟩ : ∃ y : Int32, F77 (m).toNatClampNeg = y := ⟨_, rfl⟩
      refine tw_zald (v := v80) dX10_isNoChange_44 f76 (tw_in01 hm (by decide)) ev80 ?_
      refine tw_if_eq 69 dX10_isNoChange_45 (by decide) (fun c81 => ?_) (fun c81 => ?_)
      · refine tw_iconst (v := 1) dX10_isNoChange_69 (by decide) ?_
        refine tw_goto 74 dX10_isNoChange_70 (by decide) ?_
        exact tw_zret dX10_isNoChange_74 rfl rfl (Or.inl ⟨_, rfl, ⟨rfl, (Or.inl rfl)⟩⟩)
      · refine tw_aload 0 dX10_isNoChange_48 rfl ?_
        refine tw_get (v := .ref v_66) rfl in_11 2 dX10_isNoChange_50 w_1221 rfl (by decide) f63 rfl ?_
        refine tw_iconst (v := 1) dX10_isNoChange_53 (by decide) ?_
        refine tw_iload_n 3 dX10_isNoChange_54 rfl rfl ?_
        refine tw_isub dX10_isNoChange_55 ?_
        refine tw_nmi (fun v82 ev82 => ?_)
        obtain ⟨e83, f84, F85, rfl⟩ := sp0.1 v_66 31 k69 (by decide)
        obtain ⟨v86, ev86⟩ : ∃ y : Int64, F85 (v82).toNatClampNeg = y := ⟨_, rfl⟩
        refine tw_lald (v := v86) dX10_isNoChange_56 f84 (tw_in01 (tw_1m hm ev82) (by decide)) ev86 ?_
        refine tw_aload 0 dX10_isNoChange_57 rfl ?_
        refine tw_iload_n 3 dX10_isNoChange_59 rfl rfl ?_
        refine tw_iload_n 4 dX10_isNoChange_60 rfl rfl ?_
        refine tw_i2l dX10_isNoChange_61 ?_
        refine tw_nml (fun v87 ev87 => ?_)
        refine tw_bl (tw_callS (M := mX10_isNoChange) (pc := 62) okX10_given dX10_isNoChange_62 w_1370 [.ref r59, .int m, .long v87] [.long v86] rfl rfl ⟨by decide, by decide⟩ (Nat.le_of_ble_eq_true rfl) (c_X10_given d g τ h sp0.1 r59 q57k.1 m v87) 0 0 (Nat.le_of_ble_eq_true rfl) (Nat.le_of_ble_eq_true rfl)) (fun r90 h89 q88 => ?_) (fun E h1 q => q.elim)
        rw [q88]
        refine tw_lcmp dX10_isNoChange_65 ?_
        refine tw_nmi (fun v91 ev91 => ?_)
        refine tw_if_ge 73 dX10_isNoChange_66 (by decide) (fun c92 => ?_) (fun c92 => ?_)
        · refine tw_iconst (v := 0) dX10_isNoChange_73 (by decide) ?_
          exact tw_zret dX10_isNoChange_74 rfl rfl (Or.inl ⟨_, rfl, ⟨rfl, (Or.inr ⟨rfl, j49, by omega, by rw [f2]; rfl⟩)⟩⟩)
        · refine tw_iconst (v := 1) dX10_isNoChange_69 (by decide) ?_
          refine tw_goto 74 dX10_isNoChange_70 (by decide) ?_
          exact tw_zret dX10_isNoChange_74 rfl rfl (Or.inl ⟨_, rfl, ⟨rfl, (Or.inl rfl)⟩⟩)
    · refine tw_iconst (v := 1) dX10_isNoChange_20 (by decide) ?_
      exact tw_zret dX10_isNoChange_21 rfl rfl (Or.inl ⟨_, rfl, ⟨rfl, (Or.inl rfl)⟩⟩)

set_option maxHeartbeats 4000000 in
set_option maxRecDepth 100000 in
theorem c_X10_change (d : tw_D) (g : tw_G) (τ : tw_K) (h : tw_H) (hw : tw_wt d g τ h) (x : Nat) (kx : τ x = 36) (n : Int32) (m : Int32) (gr : Int32) : tw_Ct d mX10_change 0 0 [.ref x, .int n, .int m, .int gr] h (tw_qi (fun r h1 => tw_sp d τ h g τ h1) tw_nx) := by
  refine tw_of (by decide +kernel) (Nat.le_of_ble_eq_true rfl) ?_
  show tw_W d mX10_change _ 0 [(0, .ref x), (1, .int n), (2, .int m), (3, .int gr)] [] h 0 0
  have sp0 := tw_sp.rf hw
  refine tw_aload_n 0 dX10_change_0 rfl rfl ?_
  refine tw_aload_n 0 dX10_change_1 rfl rfl ?_
  refine tw_iload_n 1 dX10_change_2 rfl rfl ?_
  obtain ⟨e1, f2, th_3, td_4, ds_5, fr_6, ca_7, us_8, wo_9, cm_10, lc_11, lh_12, ld_13, rfl, k14, k15, k16, k17, k18, k19, k20, k21, k22, k23, k24, k25, k26, k27, k28, k29, k30, k31⟩ := sp0.1 x 36 kx (by decide)
  refine tw_bi (tw_callV (M := mX10_change) (pc := 3) okX10_isNoHouse dX10_change_3 w_1362 rfl f2 [.int n] [.ref x] rfl rfl ⟨by decide, by decide⟩ (Nat.le_of_ble_eq_true rfl) (c_X10_isNoHouse d g τ h sp0.1 x kx n) 0 0 (Nat.le_of_ble_eq_true rfl) (Nat.le_of_ble_eq_true rfl)) (fun r34 h33 q32 => ?_) (fun E h1 q => q.elim)
  obtain ⟨q32e, q32d⟩ := q32
  rw [q32e]
  rcases q32d with q32r | ⟨q32r, j35, q32j, q32k⟩
  · rw [q32r]
    refine tw_iconst (v := 1) dX10_change_6 (by decide) ?_
    refine tw_bi (tw_callV (M := mX10_change) (pc := 7) okX10_start dX10_change_7 w_1200 rfl f2 [.int 1, .int 1] [] rfl rfl ⟨by decide, by decide⟩ (Nat.le_of_ble_eq_true rfl) (c_X10_start d g τ h sp0.1 x kx 1 1 (by decide)) 0 0 (Nat.le_of_ble_eq_true rfl) (Nat.le_of_ble_eq_true rfl)) (fun r38 h37 q36 => ?_) (fun E h1 q => q.elim)
    obtain ⟨e39, he40, hs41, hr42, h343⟩ := q36
    have sp44 : tw_sp d τ h g τ h37 := by rw [he40]; exact sp0.set kx (by decide) hs41
    rcases hr42 with ei45 | ⟨ei45, ei45b⟩
    · rw [ei45]
      refine tw_if_ne 68 dX10_change_10 (by decide) (fun _ => ?_) (fun c46 => absurd c46 (by decide))
      refine tw_iconst (v := 0) dX10_change_68 (by decide) ?_
      exact tw_iret dX10_change_69 rfl (Or.inl ⟨_, rfl, sp44⟩)
    · exact absurd ei45b (by decide)
  · rw [q32r]
    subst q32k
    refine tw_iconst (v := 1) dX10_change_6 (by decide) ?_
    refine tw_bi (tw_callV (M := mX10_change) (pc := 7) okX10_start dX10_change_7 w_1200 rfl f2 [.int 0, .int 1] [] rfl rfl ⟨by decide, by decide⟩ (Nat.le_of_ble_eq_true rfl) (c_X10_start d g τ h sp0.1 x kx 0 1 (by decide)) 0 0 (Nat.le_of_ble_eq_true rfl) (Nat.le_of_ble_eq_true rfl)) (fun r49 h48 q47 => ?_) (fun E h1 q => q.elim)
    obtain ⟨e50, he51, hs52, hr53, h354⟩ := q47
    have sp55 : tw_sp d τ h g τ h48 := by rw [he51]; exact sp0.set kx (by decide) hs52
    rcases hr53 with ei56 | ⟨ei56, ei56b⟩
    · rw [ei56]
      refine tw_if_ne 68 dX10_change_10 (by decide) (fun _ => ?_) (fun c57 => absurd c57 (by decide))
      refine tw_iconst (v := 0) dX10_change_68 (by decide) ?_
      exact tw_iret dX10_change_69 rfl (Or.inl ⟨_, rfl, sp55⟩)
    · rw [ei56]
      refine tw_if_ne 68 dX10_change_10 (by decide) (fun c58 => absurd (by decide) c58) (fun _ => ?_)
      refine tw_aload_n 0 dX10_change_13 rfl rfl ?_
      refine tw_iload_n 2 dX10_change_14 rfl rfl ?_
      refine tw_bi (tw_callS (M := mX10_change) (pc := 15) okX10_isNoMetal dX10_change_15 w_1312 [.int m] [.ref x] rfl rfl ⟨by decide, by decide⟩ (Nat.le_of_ble_eq_true rfl) (c_X10_isNoMetal d g τ h48 sp55.1 m) 0 0 (Nat.le_of_ble_eq_true rfl) (Nat.le_of_ble_eq_true rfl)) (fun r61 h60 q59 => ?_) (fun E h1 q => q.elim)
      obtain ⟨q59e, q59d⟩ := q59
      rw [q59e]
      rcases q59d with q59r | ⟨q59r, q59m⟩
      · rw [q59r]
        refine tw_if_ne 31 dX10_change_18 (by decide) (fun _ => ?_) (fun c62 => absurd c62 (by decide))
        refine tw_iconst (v := 1) dX10_change_31 (by decide) ?_
        refine tw_goto 36 dX10_change_32 (by decide) ?_
        refine tw_iconst (v := 2) dX10_change_36 (by decide) ?_
        obtain ⟨e63, f64, th_65, td_66, ds_67, fr_68, ca_69, us_70, wo_71, cm_72, lc_73, lh_74, ld_75, rfl, k76, k77, k78, k79, k80, k81, k82, k83, k84, k85, k86, k87, k88, k89, k90, k91, k92, k93⟩ := sp55.1 x 36 kx (by decide)
        refine tw_bi (tw_callV (M := mX10_change) (pc := 37) okX10_refuse dX10_change_37 w_1204 rfl f64 [.int 1, .int 2] [] rfl rfl ⟨by decide, by decide⟩ (Nat.le_of_ble_eq_true rfl) (c_X10_refuse d g τ h48 sp55.1 x kx 1 2 (by decide)) 0 0 (Nat.le_of_ble_eq_true rfl) (Nat.le_of_ble_eq_true rfl)) (fun r96 h95 q94 => ?_) (fun E h1 q => q.elim)
        obtain ⟨e97, he98, hs99, hr100, h3101⟩ := q94
        have sp102 : tw_sp d τ h g τ h95 := by rw [he98]; exact sp55.set kx (by decide) hs99
        rcases hr100 with ei103 | ⟨ei103, ei103b⟩
        · rw [ei103]
          refine tw_if_ne 68 dX10_change_40 (by decide) (fun _ => ?_) (fun c104 => absurd c104 (by decide))
          refine tw_iconst (v := 0) dX10_change_68 (by decide) ?_
          exact tw_iret dX10_change_69 rfl (Or.inl ⟨_, rfl, sp102⟩)
        · exact absurd ei103b (by decide)
      · rw [q59r]
        refine tw_if_ne 31 dX10_change_18 (by decide) (fun c105 => absurd (by decide) c105) (fun _ => ?_)
        refine tw_iload_n 3 dX10_change_21 rfl rfl ?_
        refine tw_iconst (v := 1) dX10_change_22 (by decide) ?_
        refine tw_ldc (v := 99999) dX10_change_23 w_1199 ?_
        refine tw_bi (tw_callS (M := mX10_change) (pc := 25) okX10_isIn dX10_change_25 w_1196 [.int gr, .int 1, .int 99999] [.ref x] rfl rfl ⟨by decide, by decide⟩ (Nat.le_of_ble_eq_true rfl) (c_X10_isIn d g τ h48 sp55.1 gr 1 99999) 0 0 (Nat.le_of_ble_eq_true rfl) (Nat.le_of_ble_eq_true rfl)) (fun r108 h107 q106 => ?_) (fun E h1 q => q.elim)
        obtain ⟨q106e, q106d⟩ := q106
        rw [q106e]
        rcases q106d with ⟨q106r, q106n⟩ | ⟨q106r, q106a, q106b⟩
        · rw [q106r]
          refine tw_if_ne 35 dX10_change_28 (by decide) (fun c109 => absurd (by decide) c109) (fun _ => ?_)
          refine tw_iconst (v := 1) dX10_change_31 (by decide) ?_
          refine tw_goto 36 dX10_change_32 (by decide) ?_
          refine tw_iconst (v := 2) dX10_change_36 (by decide) ?_
          obtain ⟨e110, f111, th_112, td_113, ds_114, fr_115, ca_116, us_117, wo_118, cm_119, lc_120, lh_121, ld_122, rfl, k123, k124, k125, k126, k127, k128, k129, k130, k131, k132, k133, k134, k135, k136, k137, k138, k139, k140⟩ := sp55.1 x 36 kx (by decide)
          refine tw_bi (tw_callV (M := mX10_change) (pc := 37) okX10_refuse dX10_change_37 w_1204 rfl f111 [.int 1, .int 2] [] rfl rfl ⟨by decide, by decide⟩ (Nat.le_of_ble_eq_true rfl) (c_X10_refuse d g τ h48 sp55.1 x kx 1 2 (by decide)) 0 0 (Nat.le_of_ble_eq_true rfl) (Nat.le_of_ble_eq_true rfl)) (fun r143 h142 q141 => ?_) (fun E h1 q => q.elim)
          obtain ⟨e144, he145, hs146, hr147, h3148⟩ := q141
          have sp149 : tw_sp d τ h g τ h142 := by rw [he145]; exact sp55.set kx (by decide) hs146
          rcases hr147 with ei150 | ⟨ei150, ei150b⟩
          · rw [ei150]
            refine tw_if_ne 68 dX10_change_40 (by decide) (fun _ => ?_) (fun c151 => absurd c151 (by decide))
            refine tw_iconst (v := 0) dX10_change_68 (by decide) ?_
            exact tw_iret dX10_change_69 rfl (Or.inl ⟨_, rfl, sp149⟩)
          · exact absurd ei150b (by decide)
        · rw [q106r]
          refine tw_if_ne 35 dX10_change_28 (by decide) (fun _ => ?_) (fun c152 => absurd c152 (by decide))
          refine tw_iconst (v := 0) dX10_change_35 (by decide) ?_
          refine tw_iconst (v := 2) dX10_change_36 (by decide) ?_
          obtain ⟨e153, f154, th_155, td_156, ds_157, fr_158, ca_159, us_160, wo_161, cm_162, lc_163, lh_164, ld_165, rfl, k166, k167, k168, k169, k170, k171, k172, k173, k174, k175, k176, k177, k178, k179, k180, k181, k182, k183⟩ := sp55.1 x 36 kx (by decide)
          refine tw_bi (tw_callV (M := mX10_change) (pc := 37) okX10_refuse dX10_change_37 w_1204 rfl f154 [.int 0, .int 2] [] rfl rfl ⟨by decide, by decide⟩ (Nat.le_of_ble_eq_true rfl) (c_X10_refuse d g τ h48 sp55.1 x kx 0 2 (by decide)) 0 0 (Nat.le_of_ble_eq_true rfl) (Nat.le_of_ble_eq_true rfl)) (fun r186 h185 q184 => ?_) (fun E h1 q => q.elim)
          obtain ⟨e187, he188, hs189, hr190, h3191⟩ := q184
          have sp192 : tw_sp d τ h g τ h185 := by rw [he188]; exact sp55.set kx (by decide) hs189
          rcases hr190 with ei193 | ⟨ei193, ei193b⟩
          · rw [ei193]
            refine tw_if_ne 68 dX10_change_40 (by decide) (fun _ => ?_) (fun c194 => absurd c194 (by decide))
            refine tw_iconst (v := 0) dX10_change_68 (by decide) ?_
            exact tw_iret dX10_change_69 rfl (Or.inl ⟨_, rfl, sp192⟩)
          · rw [ei193]
            refine tw_if_ne 68 dX10_change_40 (by decide) (fun c195 => absurd (by decide) c195) (fun _ => ?_)
            refine tw_aload_n 0 dX10_change_43 rfl rfl ?_
            refine tw_aload_n 0 dX10_change_44 rfl rfl ?_
            refine tw_aload_n 0 dX10_change_45 rfl rfl ?_
            obtain ⟨e196, f197, th_198, td_199, ds_200, fr_201, ca_202, us_203, wo_204, cm_205, lc_206, lh_207, ld_208, rfl, k209, k210, k211, k212, k213, k214, k215, k216, k217, k218, k219, k220, k221, k222, k223, k224, k225, k226⟩ := sp192.1 x 36 kx (by decide)
            refine tw_get (v := .ref lh_207) rfl in_14 10 dX10_change_46 w_1161 rfl (by decide) f197 rfl ?_
            refine tw_iload_n 1 dX10_change_49 rfl rfl ?_
            obtain ⟨e227, f228, ⟨el229, rfl, k230⟩, k231⟩ := sp192.1 lh_207 25 k216 (by decide)
            refine tw_br (tw_callV (M := mX10_change) (pc := 50) okJx4a65c_get_915e3 dX10_change_50 w_1296 rfl f228 [.int (nI j35)] [.ref x, .ref x] rfl rfl ⟨by decide, by decide⟩ (Nat.le_of_ble_eq_true rfl) (c25_get d g τ h185 sp192.1 lh_207 k216 j35 (by omega) (by omega)) 0 0 (Nat.le_of_ble_eq_true rfl) (Nat.le_of_ble_eq_true rfl)) (fun r234 h233 q232 => ?_) (fun E h1 q => q.elim)
            obtain ⟨q232e, q232k⟩ := q232
            rw [q232e]
            have el235 : tw_el h185 (g.2 13) j35 = r234 := by rw [← k231]; exact q232k.2.symm
            have kl236 : τ (g.2 13) = 25 := by rw [← k231]; exact k216
            obtain ⟨e237, f238, x_239, y_240, dy_241, p_242, rfl, k243, k244, k245⟩ := sp192.1 r234 23 q232k.1 (by decide)
            refine tw_castS (ci := 13) rfl dX10_change_53 w_1336 f238 ?_
            refine tw_iload_n 2 dX10_change_56 rfl rfl ?_
            refine tw_iload_n 3 dX10_change_57 rfl rfl ?_
            refine tw_bi (tw_callV (M := mX10_change) (pc := 58) okX10_isNoChange dX10_change_58 w_1366 rfl f197 [.ref r234, .int m, .int gr] [.ref x] rfl rfl ⟨by decide, by decide⟩ (Nat.le_of_ble_eq_true rfl) (c_X10_isNoChange d g τ h185 sp192.1 x kx r234 q232k.1 m gr q59m) 0 0 (Nat.le_of_ble_eq_true rfl) (Nat.le_of_ble_eq_true rfl)) (fun r248 h247 q246 => ?_) (fun E h1 q => q.elim)
            obtain ⟨q246e, q246d⟩ := q246
            rw [q246e]
            rcases q246d with q246r | ⟨q246r, q246a⟩
            · rw [q246r]
              refine tw_iconst (v := 3) dX10_change_61 (by decide) ?_
              refine tw_bi (tw_callV (M := mX10_change) (pc := 62) okX10_refuse dX10_change_62 w_1204 rfl f197 [.int 1, .int 3] [] rfl rfl ⟨by decide, by decide⟩ (Nat.le_of_ble_eq_true rfl) (c_X10_refuse d g τ h185 sp192.1 x kx 1 3 (by decide)) 0 0 (Nat.le_of_ble_eq_true rfl) (Nat.le_of_ble_eq_true rfl)) (fun r251 h250 q249 => ?_) (fun E h1 q => q.elim)
              obtain ⟨e252, he253, hs254, hr255, h3256⟩ := q249
              have sp257 : tw_sp d τ h g τ h250 := by rw [he253]; exact sp192.set kx (by decide) hs254
              have f258 : h250 lh_207 = some (.inr (3, [.int (g.1 4), .ref el229, .int (nI (g.2 4))])) := by rw [he253, tw_up_n (fun q => absurd (k216) (by rw [q, kx]; decide))]; exact f228
              have f259 : h250 r234 = some (.inr (13, [.int x_239, .int y_240, .int dy_241, .ref p_242])) := by rw [he253, tw_up_n (fun q => absurd (q232k.1) (by rw [q, kx]; decide))]; exact f238
              have el260 : tw_el h250 (g.2 13) j35 = r234 := by rw [he253]; exact (tw_el25_up sp192.1 kl236 (by omega) (by rw [kx]; decide) (by rw [kx]; decide)).trans el235
              rcases hr255 with ei261 | ⟨ei261, ei261b⟩
              · rw [ei261]
                refine tw_if_eq 70 dX10_change_65 (by decide) (fun c262 => absurd c262 (by decide)) (fun _ => ?_)
                refine tw_iconst (v := 0) dX10_change_68 (by decide) ?_
                exact tw_iret dX10_change_69 rfl (Or.inl ⟨_, rfl, sp257⟩)
              · exact absurd ei261b (by decide)
            · rw [q246r]
              obtain ⟨i263, hi264, ei265⟩ := q246a
              rw [f238] at ei265
              have ei2652 : x_239 = nI i263 := ei265
              subst ei2652
              refine tw_iconst (v := 3) dX10_change_61 (by decide) ?_
              refine tw_bi (tw_callV (M := mX10_change) (pc := 62) okX10_refuse dX10_change_62 w_1204 rfl f197 [.int 0, .int 3] [] rfl rfl ⟨by decide, by decide⟩ (Nat.le_of_ble_eq_true rfl) (c_X10_refuse d g τ h185 sp192.1 x kx 0 3 (by decide)) 0 0 (Nat.le_of_ble_eq_true rfl) (Nat.le_of_ble_eq_true rfl)) (fun r268 h267 q266 => ?_) (fun E h1 q => q.elim)
              obtain ⟨e269, he270, hs271, hr272, h3273⟩ := q266
              have sp274 : tw_sp d τ h g τ h267 := by rw [he270]; exact sp192.set kx (by decide) hs271
              have f275 : h267 lh_207 = some (.inr (3, [.int (g.1 4), .ref el229, .int (nI (g.2 4))])) := by rw [he270, tw_up_n (fun q => absurd (k216) (by rw [q, kx]; decide))]; exact f228
              have f276 : h267 r234 = some (.inr (13, [.int (nI i263), .int y_240, .int dy_241, .ref p_242])) := by rw [he270, tw_up_n (fun q => absurd (q232k.1) (by rw [q, kx]; decide))]; exact f238
              have el277 : tw_el h267 (g.2 13) j35 = r234 := by rw [he270]; exact (tw_el25_up sp192.1 kl236 (by omega) (by rw [kx]; decide) (by rw [kx]; decide)).trans el235
              rcases hr272 with ei278 | ⟨ei278, ei278b⟩
              · rw [ei278]
                refine tw_if_eq 70 dX10_change_65 (by decide) (fun c279 => absurd c279 (by decide)) (fun _ => ?_)
                refine tw_iconst (v := 0) dX10_change_68 (by decide) ?_
                exact tw_iret dX10_change_69 rfl (Or.inl ⟨_, rfl, sp274⟩)
              · rw [ei278]
                refine tw_if_eq 70 dX10_change_65 (by decide) (fun _ => ?_) (fun c280 => absurd (by decide) c280)
                refine tw_aload_n 0 dX10_change_70 rfl rfl ?_
                obtain ⟨e281, f282, th_283, td_284, ds_285, fr_286, ca_287, us_288, wo_289, cm_290, lc_291, lh_292, ld_293, rfl, k294, k295, k296, k297, k298, k299, k300, k301, k302, k303, k304, k305, k306, k307, k308, k309, k310, k311⟩ := sp274.1 x 36 kx (by decide)
                refine tw_get (v := .ref lh_292) rfl in_14 10 dX10_change_71 w_1161 rfl (by decide) f282 rfl ?_
                refine tw_iload_n 1 dX10_change_74 rfl rfl ?_
                obtain ⟨e312, f313, ⟨el314, rfl, k315⟩, k316⟩ := sp274.1 lh_292 25 k301 (by decide)
                refine tw_br (tw_callV (M := mX10_change) (pc := 75) okJx4a65c_get_915e3 dX10_change_75 w_1296 rfl f313 [.int (nI j35)] [] rfl rfl ⟨by decide, by decide⟩ (Nat.le_of_ble_eq_true rfl) (c25_get d g τ h267 sp274.1 lh_292 k301 j35 (by omega) (by omega)) 0 0 (Nat.le_of_ble_eq_true rfl) (Nat.le_of_ble_eq_true rfl)) (fun r319 h318 q317 => ?_) (fun E h1 q => q.elim)
                obtain ⟨q317e, q317k⟩ := q317
                rw [q317e]
                have q317ky : r319 = r234 := q317k.2.trans (by rw [k316]; exact el277)
                rw [q317ky]
                refine tw_castS (ci := 13) rfl dX10_change_78 w_1336 f276 ?_
                refine tw_astore [(4, .ref r234), (0, .ref x), (1, .int (nI j35)), (2, .int m), (3, .int gr)] dX10_change_81 (by decide) rfl ?_
                refine tw_aload_n 1 dX10_change_83 rfl rfl ?_
                refine tw_get (v := .ref lc_291) rfl in_14 9 dX10_change_84 w_1160 rfl (by decide) f282 rfl ?_
                refine tw_aload 0 dX10_change_87 rfl ?_
                refine tw_get (v := .int (nI i263)) rfl in_13 0 dX10_change_89 w_1342 rfl (by decide) f276 rfl ?_
                obtain ⟨e320, f321, ⟨el322, rfl, k323⟩, k324⟩ := sp274.1 lc_291 24 k300 (by decide)
                refine tw_br (tw_callV (M := mX10_change) (pc := 92) okJx4a65c_get_915e3 dX10_change_92 w_1296 rfl f321 [.int (nI i263)] [] rfl rfl ⟨by decide, by decide⟩ (Nat.le_of_ble_eq_true rfl) (c24_get d g τ h267 sp274.1 lc_291 k300 i263 (by omega) (by omega)) 0 0 (Nat.le_of_ble_eq_true rfl) (Nat.le_of_ble_eq_true rfl)) (fun r327 h326 q325 => ?_) (fun E h1 q => q.elim)
                obtain ⟨q325e, q325k⟩ := q325
                rw [q325e]
                have el328 : tw_el h267 (g.2 12) i263 = r327 := by rw [← k324]; exact q325k.2.symm
                have kl329 : τ (g.2 12) = 24 := by rw [← k324]; exact k300
                obtain ⟨e330, f331, r_332, c_333, v_334, o_335, t_336, rfl, k337, k338, k339, k340, k341, k342⟩ := sp274.1 r327 21 q325k.1 (by decide)
                refine tw_castS (ci := 11) rfl dX10_change_95 w_1212 f331 ?_
                refine tw_astore [(5, .ref r327), (4, .ref r234), (0, .ref x), (1, .int (nI j35)), (2, .int m), (3, .int gr)] dX10_change_98 (by decide) rfl ?_
                refine tw_aload 0 dX10_change_100 rfl ?_
                refine tw_iload_n 4 dX10_change_102 rfl rfl ?_
                refine tw_iload_n 5 dX10_change_103 rfl rfl ?_
                refine tw_i2l dX10_change_104 ?_
                refine tw_nml (fun v343 ev343 => ?_)
                refine tw_bl (tw_callS (M := mX10_change) (pc := 105) okX10_given dX10_change_105 w_1370 [.ref r327, .int m, .long v343] [] rfl rfl ⟨by decide, by decide⟩ (Nat.le_of_ble_eq_true rfl) (c_X10_given d g τ h267 sp274.1 r327 q325k.1 m v343) 0 0 (Nat.le_of_ble_eq_true rfl) (Nat.le_of_ble_eq_true rfl)) (fun r346 h345 q344 => ?_) (fun E h1 q => q.elim)
                rw [q344]
                refine tw_lstore [(6, .long r346), (5, .ref r327), (4, .ref r234), (0, .ref x), (1, .int (nI j35)), (2, .int m), (3, .int gr)] dX10_change_108 (by decide) rfl ?_
                refine tw_aload 2 dX10_change_110 rfl ?_
                refine tw_get (v := .ref p_242) rfl in_13 3 dX10_change_112 w_1348 rfl (by decide) f276 rfl ?_
                refine tw_iload_n 5 dX10_change_115 rfl rfl ?_
                refine tw_dup2 dX10_change_116 rfl rfl ?_
                obtain ⟨e347, f348, F349, rfl⟩ := sp274.1 p_242 31 k243 (by decide)
                obtain ⟨v350, ev350⟩ : ∃ y : Int64, F349 (m).toNatClampNeg = y := ⟨_, rfl⟩
                refine tw_lald (v := v350) dX10_change_117 f348 (tw_in01 q59m (by decide)) ev350 ?_
                refine tw_iload_n 6 dX10_change_118 rfl rfl ?_
                refine tw_i2l dX10_change_119 ?_
                refine tw_nml (fun v351 ev351 => ?_)
                refine tw_lsub dX10_change_120 ?_
                refine tw_nml (fun v352 ev352 => ?_)
                refine tw_last dX10_change_121 f348 (tw_in01 q59m (by decide)) ?_
                obtain ⟨h353, eh353⟩ : ∃ z : tw_H, z = tw_up h267 p_242 (.inl (d.2 1, 2, .inr (.inl (vp_updL F349 (m).toNatClampNeg v352)))) := ⟨_, rfl⟩
                rw [← eh353]
                have sp354 : tw_sp d τ h g τ h353 := by rw [eh353]; exact sp274.set k243 (by decide) ⟨_, rfl⟩
                refine tw_aload 1 dX10_change_122 rfl ?_
                obtain ⟨e355, f356, r_357, c_358, v_359, o_360, t_361, rfl, k362, k363, k364, k365, k366, k367⟩ := sp354.1 r327 21 q325k.1 (by decide)
                refine tw_get (v := .ref v_359) rfl in_11 2 dX10_change_124 w_1221 rfl (by decide) f356 rfl ?_
                refine tw_iload_n 5 dX10_change_127 rfl rfl ?_
                refine tw_dup2 dX10_change_128 rfl rfl ?_
                obtain ⟨e368, f369, F370, rfl⟩ := sp354.1 v_359 31 k362 (by decide)
                obtain ⟨v371, ev371⟩ : ∃ y : Int64, F370 (m).toNatClampNeg = y := ⟨_, rfl⟩
                refine tw_lald (v := v371) dX10_change_129 f369 (tw_in01 q59m (by decide)) ev371 ?_
                refine tw_iload_n 6 dX10_change_130 rfl rfl ?_
                refine tw_i2l dX10_change_131 ?_
                refine tw_nml (fun v372 ev372 => ?_)
                refine tw_ladd dX10_change_132 ?_
                refine tw_nml (fun v373 ev373 => ?_)
                refine tw_last dX10_change_133 f369 (tw_in01 q59m (by decide)) ?_
                obtain ⟨h374, eh374⟩ : ∃ z : tw_H, z = tw_up h353 v_359 (.inl (d.2 1, 2, .inr (.inl (vp_updL F370 (m).toNatClampNeg v373)))) := ⟨_, rfl⟩
                rw [← eh374]
                have sp375 : tw_sp d τ h g τ h374 := by rw [eh374]; exact sp354.set k362 (by decide) ⟨_, rfl⟩
                refine tw_aload 2 dX10_change_134 rfl ?_
                obtain ⟨e376, f377, x_378, y_379, dy_380, p_381, rfl, k382, k383, k384⟩ := sp375.1 r234 23 q232k.1 (by decide)
                refine tw_get (v := .ref p_381) rfl in_13 3 dX10_change_136 w_1348 rfl (by decide) f377 rfl ?_
                refine tw_iconst (v := 1) dX10_change_139 (by decide) ?_
                refine tw_iload_n 5 dX10_change_140 rfl rfl ?_
                refine tw_isub dX10_change_141 ?_
                refine tw_nmi (fun v385 ev385 => ?_)
                refine tw_dup2 dX10_change_142 rfl rfl ?_
                obtain ⟨e386, f387, F388, rfl⟩ := sp375.1 p_381 31 k382 (by decide)
                obtain ⟨v389, ev389⟩ : ∃ y : Int64, F388 (v385).toNatClampNeg = y := ⟨_, rfl⟩
                refine tw_lald (v := v389) dX10_change_143 f387 (tw_in01 (tw_1m q59m ev385) (by decide)) ev389 ?_
                refine tw_lload 0 dX10_change_144 rfl ?_
                refine tw_ladd dX10_change_146 ?_
                refine tw_nml (fun v390 ev390 => ?_)
                refine tw_last dX10_change_147 f387 (tw_in01 (tw_1m q59m ev385) (by decide)) ?_
                obtain ⟨h391, eh391⟩ : ∃ z : tw_H, z = tw_up h374 p_381 (.inl (d.2 1, 2, .inr (.inl (vp_updL F388 (v385).toNatClampNeg v390)))) := ⟨_, rfl⟩
                rw [← eh391]
                have sp392 : tw_sp d τ h g τ h391 := by rw [eh391]; exact sp375.set k382 (by decide) ⟨_, rfl⟩
                refine tw_aload 1 dX10_change_148 rfl ?_
                obtain ⟨e393, f394, r_395, c_396, v_397, o_398, t_399, rfl, k400, k401, k402, k403, k404, k405⟩ := sp392.1 r327 21 q325k.1 (by decide)
                refine tw_get (v := .ref v_397) rfl in_11 2 dX10_change_150 w_1221 rfl (by decide) f394 rfl ?_
                refine tw_iconst (v := 1) dX10_change_153 (by decide) ?_
                refine tw_iload_n 5 dX10_change_154 rfl rfl ?_
                refine tw_isub dX10_change_155 ?_
                refine tw_nmi (fun v406 ev406 => ?_)
                refine tw_dup2 dX10_change_156 rfl rfl ?_
                obtain ⟨e407, f408, F409, rfl⟩ := sp392.1 v_397 31 k400 (by decide)
                obtain ⟨v410, ev410⟩ : ∃ y : Int64, F409 (v406).toNatClampNeg = y := ⟨_, rfl⟩
                refine tw_lald (v := v410) dX10_change_157 f408 (tw_in01 (tw_1m q59m ev406) (by decide)) ev410 ?_
                refine tw_lload 0 dX10_change_158 rfl ?_
                refine tw_lsub dX10_change_160 ?_
                refine tw_nml (fun v411 ev411 => ?_)
                refine tw_last dX10_change_161 f408 (tw_in01 (tw_1m q59m ev406) (by decide)) ?_
                obtain ⟨h412, eh412⟩ : ∃ z : tw_H, z = tw_up h391 v_397 (.inl (d.2 1, 2, .inr (.inl (vp_updL F409 (v406).toNatClampNeg v411)))) := ⟨_, rfl⟩
                rw [← eh412]
                have sp413 : tw_sp d τ h g τ h412 := by rw [eh412]; exact sp392.set k400 (by decide) ⟨_, rfl⟩
                refine tw_lload 0 dX10_change_162 rfl ?_
                refine tw_l2i dX10_change_164 ?_
                refine tw_nmi (fun v414 ev414 => ?_)
                exact tw_iret dX10_change_165 rfl (Or.inl ⟨_, rfl, sp413⟩)

set_option maxHeartbeats 4000000 in
set_option maxRecDepth 100000 in
theorem c_X10_send (d : tw_D) (g : tw_G) (τ : tw_K) (h : tw_H) (hw : tw_wt d g τ h) (x : Nat) (kx : τ x = 36) (n : Int32) (c : Int32) : tw_Ct d mX10_send 0 0 [.ref x, .int n, .int c] h (tw_qi (fun r h1 => tw_sp d τ h g τ h1) tw_nx) := by
  refine tw_of (by decide +kernel) (Nat.le_of_ble_eq_true rfl) ?_
  show tw_W d mX10_send _ 0 [(0, .ref x), (1, .int n), (2, .int c)] [] h 0 0
  have sp0 := tw_sp.rf hw
  refine tw_aload_n 0 dX10_send_0 rfl rfl ?_
  refine tw_aload_n 0 dX10_send_1 rfl rfl ?_
  refine tw_iload_n 1 dX10_send_2 rfl rfl ?_
  obtain ⟨e1, f2, th_3, td_4, ds_5, fr_6, ca_7, us_8, wo_9, cm_10, lc_11, lh_12, ld_13, rfl, k14, k15, k16, k17, k18, k19, k20, k21, k22, k23, k24, k25, k26, k27, k28, k29, k30, k31⟩ := sp0.1 x 36 kx (by decide)
  refine tw_bi (tw_callV (M := mX10_send) (pc := 3) okX10_isNoHouse dX10_send_3 w_1362 rfl f2 [.int n] [.ref x] rfl rfl ⟨by decide, by decide⟩ (Nat.le_of_ble_eq_true rfl) (c_X10_isNoHouse d g τ h sp0.1 x kx n) 0 0 (Nat.le_of_ble_eq_true rfl) (Nat.le_of_ble_eq_true rfl)) (fun r34 h33 q32 => ?_) (fun E h1 q => q.elim)
  obtain ⟨q32e, q32d⟩ := q32
  rw [q32e]
  rcases q32d with q32r | ⟨q32r, j35, q32j, q32k⟩
  · rw [q32r]
    refine tw_if_ne 17 dX10_send_6 (by decide) (fun _ => ?_) (fun c36 => absurd c36 (by decide))
    refine tw_iconst (v := 1) dX10_send_17 (by decide) ?_
    refine tw_goto 22 dX10_send_18 (by decide) ?_
    refine tw_iconst (v := 1) dX10_send_22 (by decide) ?_
    refine tw_bi (tw_callV (M := mX10_send) (pc := 23) okX10_start dX10_send_23 w_1200 rfl f2 [.int 1, .int 1] [] rfl rfl ⟨by decide, by decide⟩ (Nat.le_of_ble_eq_true rfl) (c_X10_start d g τ h sp0.1 x kx 1 1 (by decide)) 0 0 (Nat.le_of_ble_eq_true rfl) (Nat.le_of_ble_eq_true rfl)) (fun r39 h38 q37 => ?_) (fun E h1 q => q.elim)
    obtain ⟨e40, he41, hs42, hr43, h344⟩ := q37
    have sp45 : tw_sp d τ h g τ h38 := by rw [he41]; exact sp0.set kx (by decide) hs42
    rcases hr43 with ei46 | ⟨ei46, ei46b⟩
    · rw [ei46]
      refine tw_if_ne 78 dX10_send_26 (by decide) (fun _ => ?_) (fun c47 => absurd c47 (by decide))
      refine tw_iconst (v := 0) dX10_send_78 (by decide) ?_
      exact tw_iret dX10_send_79 rfl (Or.inl ⟨_, rfl, sp45⟩)
    · exact absurd ei46b (by decide)
  · rw [q32r]
    subst q32k
    refine tw_if_ne 17 dX10_send_6 (by decide) (fun c48 => absurd (by decide) c48) (fun _ => ?_)
    refine tw_aload_n 0 dX10_send_9 rfl rfl ?_
    refine tw_iload_n 2 dX10_send_10 rfl rfl ?_
    refine tw_bi (tw_callV (M := mX10_send) (pc := 11) okX10_isNoCountry dX10_send_11 w_1292 rfl f2 [.int c] [.ref x] rfl rfl ⟨by decide, by decide⟩ (Nat.le_of_ble_eq_true rfl) (c_X10_isNoCountry d g τ h sp0.1 x kx c) 0 0 (Nat.le_of_ble_eq_true rfl) (Nat.le_of_ble_eq_true rfl)) (fun r51 h50 q49 => ?_) (fun E h1 q => q.elim)
    obtain ⟨q49e, q49d⟩ := q49
    rw [q49e]
    rcases q49d with q49r | ⟨q49r, j52, q49j, q49k⟩
    · rw [q49r]
      refine tw_if_eq 21 dX10_send_14 (by decide) (fun c53 => absurd c53 (by decide)) (fun _ => ?_)
      refine tw_iconst (v := 1) dX10_send_17 (by decide) ?_
      refine tw_goto 22 dX10_send_18 (by decide) ?_
      refine tw_iconst (v := 1) dX10_send_22 (by decide) ?_
      refine tw_bi (tw_callV (M := mX10_send) (pc := 23) okX10_start dX10_send_23 w_1200 rfl f2 [.int 1, .int 1] [] rfl rfl ⟨by decide, by decide⟩ (Nat.le_of_ble_eq_true rfl) (c_X10_start d g τ h sp0.1 x kx 1 1 (by decide)) 0 0 (Nat.le_of_ble_eq_true rfl) (Nat.le_of_ble_eq_true rfl)) (fun r56 h55 q54 => ?_) (fun E h1 q => q.elim)
      obtain ⟨e57, he58, hs59, hr60, h361⟩ := q54
      have sp62 : tw_sp d τ h g τ h55 := by rw [he58]; exact sp0.set kx (by decide) hs59
      rcases hr60 with ei63 | ⟨ei63, ei63b⟩
      · rw [ei63]
        refine tw_if_ne 78 dX10_send_26 (by decide) (fun _ => ?_) (fun c64 => absurd c64 (by decide))
        refine tw_iconst (v := 0) dX10_send_78 (by decide) ?_
        exact tw_iret dX10_send_79 rfl (Or.inl ⟨_, rfl, sp62⟩)
      · exact absurd ei63b (by decide)
    · rw [q49r]
      subst q49k
      refine tw_if_eq 21 dX10_send_14 (by decide) (fun _ => ?_) (fun c65 => absurd (by decide) c65)
      refine tw_iconst (v := 0) dX10_send_21 (by decide) ?_
      refine tw_iconst (v := 1) dX10_send_22 (by decide) ?_
      refine tw_bi (tw_callV (M := mX10_send) (pc := 23) okX10_start dX10_send_23 w_1200 rfl f2 [.int 0, .int 1] [] rfl rfl ⟨by decide, by decide⟩ (Nat.le_of_ble_eq_true rfl) (c_X10_start d g τ h sp0.1 x kx 0 1 (by decide)) 0 0 (Nat.le_of_ble_eq_true rfl) (Nat.le_of_ble_eq_true rfl)) (fun r68 h67 q66 => ?_) (fun E h1 q => q.elim)
      obtain ⟨e69, he70, hs71, hr72, h373⟩ := q66
      have sp74 : tw_sp d τ h g τ h67 := by rw [he70]; exact sp0.set kx (by decide) hs71
      rcases hr72 with ei75 | ⟨ei75, ei75b⟩
      · rw [ei75]
        refine tw_if_ne 78 dX10_send_26 (by decide) (fun _ => ?_) (fun c76 => absurd c76 (by decide))
        refine tw_iconst (v := 0) dX10_send_78 (by decide) ?_
        exact tw_iret dX10_send_79 rfl (Or.inl ⟨_, rfl, sp74⟩)
      · rw [ei75]
        refine tw_if_ne 78 dX10_send_26 (by decide) (fun c77 => absurd (by decide) c77) (fun _ => ?_)
        refine tw_aload_n 0 dX10_send_29 rfl rfl ?_
        refine tw_aload_n 0 dX10_send_30 rfl rfl ?_
        obtain ⟨e78, f79, th_80, td_81, ds_82, fr_83, ca_84, us_85, wo_86, cm_87, lc_88, lh_89, ld_90, rfl, k91, k92, k93, k94, k95, k96, k97, k98, k99, k100, k101, k102, k103, k104, k105, k106, k107, k108⟩ := sp74.1 x 36 kx (by decide)
        refine tw_get (v := .ref lh_89) rfl in_14 10 dX10_send_31 w_1161 rfl (by decide) f79 rfl ?_
        refine tw_iload_n 1 dX10_send_34 rfl rfl ?_
        obtain ⟨e109, f110, ⟨el111, rfl, k112⟩, k113⟩ := sp74.1 lh_89 25 k98 (by decide)
        refine tw_br (tw_callV (M := mX10_send) (pc := 35) okJx4a65c_get_915e3 dX10_send_35 w_1296 rfl f110 [.int (nI j35)] [.ref x] rfl rfl ⟨by decide, by decide⟩ (Nat.le_of_ble_eq_true rfl) (c25_get d g τ h67 sp74.1 lh_89 k98 j35 (by omega) (by omega)) 0 0 (Nat.le_of_ble_eq_true rfl) (Nat.le_of_ble_eq_true rfl)) (fun r116 h115 q114 => ?_) (fun E h1 q => q.elim)
        obtain ⟨q114e, q114k⟩ := q114
        rw [q114e]
        have el117 : tw_el h67 (g.2 13) j35 = r116 := by rw [← k113]; exact q114k.2.symm
        have kl118 : τ (g.2 13) = 25 := by rw [← k113]; exact k98
        obtain ⟨e119, f120, x_121, y_122, dy_123, p_124, rfl, k125, k126, k127⟩ := sp74.1 r116 23 q114k.1 (by decide)
        refine tw_castS (ci := 13) rfl dX10_send_38 w_1336 f120 ?_
        refine tw_get (v := .int x_121) rfl in_13 0 dX10_send_41 w_1342 rfl (by decide) f120 rfl ?_
        refine tw_iconst (v := -1) dX10_send_44 (by decide) ?_
        refine tw_icmp_eq 66 dX10_send_45 (by decide) (fun c128 => ?_) (fun c128 => ?_)
        · refine tw_iconst (v := 1) dX10_send_66 (by decide) ?_
          refine tw_goto 71 dX10_send_67 (by decide) ?_
          refine tw_iconst (v := 2) dX10_send_71 (by decide) ?_
          refine tw_bi (tw_callV (M := mX10_send) (pc := 72) okX10_refuse dX10_send_72 w_1204 rfl f79 [.int 1, .int 2] [] rfl rfl ⟨by decide, by decide⟩ (Nat.le_of_ble_eq_true rfl) (c_X10_refuse d g τ h67 sp74.1 x kx 1 2 (by decide)) 0 0 (Nat.le_of_ble_eq_true rfl) (Nat.le_of_ble_eq_true rfl)) (fun r131 h130 q129 => ?_) (fun E h1 q => q.elim)
          obtain ⟨e132, he133, hs134, hr135, h3136⟩ := q129
          have sp137 : tw_sp d τ h g τ h130 := by rw [he133]; exact sp74.set kx (by decide) hs134
          have f138 : h130 lh_89 = some (.inr (3, [.int (g.1 4), .ref el111, .int (nI (g.2 4))])) := by rw [he133, tw_up_n (fun q => absurd (k98) (by rw [q, kx]; decide))]; exact f110
          have f139 : h130 r116 = some (.inr (13, [.int x_121, .int y_122, .int dy_123, .ref p_124])) := by rw [he133, tw_up_n (fun q => absurd (q114k.1) (by rw [q, kx]; decide))]; exact f120
          have el140 : tw_el h130 (g.2 13) j35 = r116 := by rw [he133]; exact (tw_el25_up sp74.1 kl118 (by omega) (by rw [kx]; decide) (by rw [kx]; decide)).trans el117
          rcases hr135 with ei141 | ⟨ei141, ei141b⟩
          · rw [ei141]
            refine tw_if_eq 80 dX10_send_75 (by decide) (fun c142 => absurd c142 (by decide)) (fun _ => ?_)
            refine tw_iconst (v := 0) dX10_send_78 (by decide) ?_
            exact tw_iret dX10_send_79 rfl (Or.inl ⟨_, rfl, sp137⟩)
          · exact absurd ei141b (by decide)
        · refine tw_aload_n 0 dX10_send_48 rfl rfl ?_
          refine tw_get (v := .ref lh_89) rfl in_14 10 dX10_send_49 w_1161 rfl (by decide) f79 rfl ?_
          refine tw_iload_n 1 dX10_send_52 rfl rfl ?_
          refine tw_br (tw_callV (M := mX10_send) (pc := 53) okJx4a65c_get_915e3 dX10_send_53 w_1296 rfl f110 [.int (nI j35)] [.ref x] rfl rfl ⟨by decide, by decide⟩ (Nat.le_of_ble_eq_true rfl) (c25_get d g τ h67 sp74.1 lh_89 k98 j35 (by omega) (by omega)) 0 0 (Nat.le_of_ble_eq_true rfl) (Nat.le_of_ble_eq_true rfl)) (fun r145 h144 q143 => ?_) (fun E h1 q => q.elim)
          obtain ⟨q143e, q143k⟩ := q143
          rw [q143e]
          have q143ky : r145 = r116 := q143k.2.trans (by rw [k113]; exact el117)
          rw [q143ky]
          refine tw_castS (ci := 13) rfl dX10_send_56 w_1336 f120 ?_
          refine tw_get (v := .int x_121) rfl in_13 0 dX10_send_59 w_1342 rfl (by decide) f120 rfl ?_
          refine tw_iload_n 2 dX10_send_62 rfl rfl ?_
          refine tw_icmp_ne 70 dX10_send_63 (by decide) (fun c146 => ?_) (fun c146 => ?_)
          · refine tw_iconst (v := 0) dX10_send_70 (by decide) ?_
            refine tw_iconst (v := 2) dX10_send_71 (by decide) ?_
            refine tw_bi (tw_callV (M := mX10_send) (pc := 72) okX10_refuse dX10_send_72 w_1204 rfl f79 [.int 0, .int 2] [] rfl rfl ⟨by decide, by decide⟩ (Nat.le_of_ble_eq_true rfl) (c_X10_refuse d g τ h67 sp74.1 x kx 0 2 (by decide)) 0 0 (Nat.le_of_ble_eq_true rfl) (Nat.le_of_ble_eq_true rfl)) (fun r149 h148 q147 => ?_) (fun E h1 q => q.elim)
            obtain ⟨e150, he151, hs152, hr153, h3154⟩ := q147
            have sp155 : tw_sp d τ h g τ h148 := by rw [he151]; exact sp74.set kx (by decide) hs152
            have f156 : h148 lh_89 = some (.inr (3, [.int (g.1 4), .ref el111, .int (nI (g.2 4))])) := by rw [he151, tw_up_n (fun q => absurd (k98) (by rw [q, kx]; decide))]; exact f110
            have f157 : h148 r116 = some (.inr (13, [.int x_121, .int y_122, .int dy_123, .ref p_124])) := by rw [he151, tw_up_n (fun q => absurd (q114k.1) (by rw [q, kx]; decide))]; exact f120
            have el158 : tw_el h148 (g.2 13) j35 = r116 := by rw [he151]; exact (tw_el25_up sp74.1 kl118 (by omega) (by rw [kx]; decide) (by rw [kx]; decide)).trans el117
            rcases hr153 with ei159 | ⟨ei159, ei159b⟩
            · rw [ei159]
              refine tw_if_eq 80 dX10_send_75 (by decide) (fun c160 => absurd c160 (by decide)) (fun _ => ?_)
              refine tw_iconst (v := 0) dX10_send_78 (by decide) ?_
              exact tw_iret dX10_send_79 rfl (Or.inl ⟨_, rfl, sp155⟩)
            · rw [ei159]
              refine tw_if_eq 80 dX10_send_75 (by decide) (fun _ => ?_) (fun c161 => absurd (by decide) c161)
              refine tw_aload_n 0 dX10_send_80 rfl rfl ?_
              obtain ⟨e162, f163, th_164, td_165, ds_166, fr_167, ca_168, us_169, wo_170, cm_171, lc_172, lh_173, ld_174, rfl, k175, k176, k177, k178, k179, k180, k181, k182, k183, k184, k185, k186, k187, k188, k189, k190, k191, k192⟩ := sp155.1 x 36 kx (by decide)
              refine tw_get (v := .ref lh_173) rfl in_14 10 dX10_send_81 w_1161 rfl (by decide) f163 rfl ?_
              refine tw_iload_n 1 dX10_send_84 rfl rfl ?_
              obtain ⟨e193, f194, ⟨el195, rfl, k196⟩, k197⟩ := sp155.1 lh_173 25 k182 (by decide)
              refine tw_br (tw_callV (M := mX10_send) (pc := 85) okJx4a65c_get_915e3 dX10_send_85 w_1296 rfl f194 [.int (nI j35)] [] rfl rfl ⟨by decide, by decide⟩ (Nat.le_of_ble_eq_true rfl) (c25_get d g τ h148 sp155.1 lh_173 k182 j35 (by omega) (by omega)) 0 0 (Nat.le_of_ble_eq_true rfl) (Nat.le_of_ble_eq_true rfl)) (fun r200 h199 q198 => ?_) (fun E h1 q => q.elim)
              obtain ⟨q198e, q198k⟩ := q198
              rw [q198e]
              have q198ky : r200 = r116 := q198k.2.trans (by rw [k197]; exact el158)
              rw [q198ky]
              refine tw_castS (ci := 13) rfl dX10_send_88 w_1336 f157 ?_
              refine tw_astore_n [(3, .ref r116), (0, .ref x), (1, .int (nI j35)), (2, .int (nI j52))] dX10_send_91 rfl (by decide) rfl ?_
              refine tw_iconst (v := 0) dX10_send_92 (by decide) ?_
              refine tw_istore [(4, .int 0), (3, .ref r116), (0, .ref x), (1, .int (nI j35)), (2, .int (nI j52))] dX10_send_93 (by decide) rfl ?_
              obtain ⟨j205, hj206, ej207⟩ := k126.resolve_left c128
              subst ej207
              have L204 : ∀ (r202 k201 : Nat) (h209 : tw_H) (sp210 : tw_sp d τ h148 g τ h209) (kf208 : h209 r116 = some (.inr (13, [.int (nI j205), .int y_122, .int dy_123, .ref p_124]))), 2 + 1 ≤ k201 + r202 → k201 ≤ 2 → tw_W d mX10_send (tw_qi (fun r h1 => tw_sp d τ h g τ h1) tw_nx) 95 [(0, .ref x), (1, .int (nI j35)), (2, .int (nI j52)), (3, .ref r116), (4, .int (nI k201))] [] h209 0 0 := by
                intro r202
                induction r202 with
                | zero => intro k201 h209 sp210 kf208 hk212 hk213; exact absurd hk212 (by omega)
                | succ r202 ih203 =>
                  intro k201 h209 sp210 kf208 hk212 hk213
                  refine tw_iload 4 dX10_send_95 rfl ?_
                  refine tw_iconst (v := 2) dX10_send_97 (by decide) ?_
                  refine tw_icmp_ge 159 dX10_send_98 (by decide) (fun c214 => ?_) (fun c214 => ?_)
                  · refine tw_aload_n 3 dX10_send_159 rfl rfl ?_
                    refine tw_aload_n 0 dX10_send_160 rfl rfl ?_
                    obtain ⟨e215, f216, th_217, td_218, ds_219, fr_220, ca_221, us_222, wo_223, cm_224, lc_225, lh_226, ld_227, rfl, k228, k229, k230, k231, k232, k233, k234, k235, k236, k237, k238, k239, k240, k241, k242, k243, k244, k245⟩ := sp210.1 x 36 kx (by decide)
                    refine tw_get (v := .int td_218) rfl in_14 1 dX10_send_161 w_1152 rfl (by decide) f216 rfl ?_
                    refine tw_aload_n 0 dX10_send_164 rfl rfl ?_
                    refine tw_get (v := .ref ds_219) rfl in_14 3 dX10_send_165 w_1154 rfl (by decide) f216 rfl ?_
                    refine tw_aload_n 3 dX10_send_168 rfl rfl ?_
                    refine tw_get (v := .int (nI j205)) rfl in_13 0 dX10_send_169 w_1342 rfl (by decide) kf208 rfl ?_
                    obtain ⟨e248, f249, F246, rfl, k247⟩ := sp210.1 ds_219 34 k228 (by decide)
                    obtain ⟨q250, k251, k252, iq253⟩ := k247 ((nI j205)).toNatClampNeg (by rw [nI_clamp (by omega)]; omega)
                    refine tw_aald (v := .ref q250) 8 rfl rfl dX10_send_172 f249 (vp_in_nI (by omega) (by decide)) (by rw [k251]; rfl) ?_
                    refine tw_iload_n 2 dX10_send_173 rfl rfl ?_
                    obtain ⟨e254, f255, F256, rfl, pf257⟩ := sp210.1 q250 6 k252 (by decide)
                    obtain ⟨v258, ev258⟩ : ∃ y : Int32, F256 ((nI j52)).toNatClampNeg = y := ⟨_, rfl⟩
                    refine tw_iald (v := v258) dX10_send_174 f255 (vp_in_nI (by omega) (by decide)) ev258 ?_
                    refine tw_iadd dX10_send_175 ?_
                    refine tw_nmi (fun v259 ev259 => ?_)
                    refine tw_put rfl in_13 tyX9 tyX9_ok nmX9 2 dX10_send_176 w_1346 rfl (by decide) kf208 rfl rfl rfl rfl (Nat.le_of_ble_eq_true rfl) [.int (nI j205), .int y_122, .int v259, .ref p_124] rfl ?_
                    obtain ⟨h260, eh260⟩ : ∃ z : tw_H, z = tw_up h209 r116 (.inr (13, [.int (nI j205), .int y_122, .int v259, .ref p_124])) := ⟨_, rfl⟩
                    rw [← eh260]
                    have sp261 : tw_sp d τ h148 g τ h260 := by rw [eh260]; exact sp210.set q114k.1 (by decide) ⟨(nI j205), y_122, v259, p_124, rfl, k125, (Or.inr ⟨_, (by omega), rfl⟩), k127⟩
                    have f262 : h260 r116 = some (.inr (13, [.int (nI j205), .int y_122, .int v259, .ref p_124])) := by rw [eh260]; exact tw_up_s
                    refine tw_aload_n 3 dX10_send_179 rfl rfl ?_
                    refine tw_iload_n 2 dX10_send_180 rfl rfl ?_
                    refine tw_put rfl in_13 tyX9 tyX9_ok nmX9 1 dX10_send_181 w_1344 rfl (by decide) f262 rfl rfl rfl rfl (Nat.le_of_ble_eq_true rfl) [.int (nI j205), .int (nI j52), .int v259, .ref p_124] rfl ?_
                    obtain ⟨h263, eh263⟩ : ∃ z : tw_H, z = tw_up h260 r116 (.inr (13, [.int (nI j205), .int (nI j52), .int v259, .ref p_124])) := ⟨_, rfl⟩
                    rw [← eh263]
                    have sp264 : tw_sp d τ h148 g τ h263 := by rw [eh263]; exact sp261.set q114k.1 (by decide) ⟨(nI j205), (nI j52), v259, p_124, rfl, k125, (Or.inr ⟨_, (by omega), rfl⟩), (Or.inr ⟨_, (by omega), rfl⟩)⟩
                    have f265 : h263 r116 = some (.inr (13, [.int (nI j205), .int (nI j52), .int v259, .ref p_124])) := by rw [eh263]; exact tw_up_s
                    refine tw_aload_n 3 dX10_send_184 rfl rfl ?_
                    refine tw_iconst (v := -1) dX10_send_185 (by decide) ?_
                    refine tw_put rfl in_13 tyX9 tyX9_ok nmX9 0 dX10_send_186 w_1342 rfl (by decide) f265 rfl rfl rfl rfl (Nat.le_of_ble_eq_true rfl) [.int (-1), .int (nI j52), .int v259, .ref p_124] rfl ?_
                    obtain ⟨h266, eh266⟩ : ∃ z : tw_H, z = tw_up h263 r116 (.inr (13, [.int (-1), .int (nI j52), .int v259, .ref p_124])) := ⟨_, rfl⟩
                    rw [← eh266]
                    have sp267 : tw_sp d τ h148 g τ h266 := by rw [eh266]; exact sp264.set q114k.1 (by decide) ⟨(-1), (nI j52), v259, p_124, rfl, k125, (Or.inl rfl), (Or.inr ⟨_, (by omega), rfl⟩)⟩
                    have f268 : h266 r116 = some (.inr (13, [.int (-1), .int (nI j52), .int v259, .ref p_124])) := by rw [eh266]; exact tw_up_s
                    refine tw_aload_n 3 dX10_send_189 rfl rfl ?_
                    refine tw_get (v := .int v259) rfl in_13 2 dX10_send_190 w_1346 rfl (by decide) f268 rfl ?_
                    exact tw_iret dX10_send_193 rfl (Or.inl ⟨_, rfl, (sp155.tr sp267)⟩)
                  · have kl269 := tw_klt (N := 2) c214 hk213 (by decide)
                    refine tw_aload_n 3 dX10_send_101 rfl rfl ?_
                    refine tw_get (v := .ref p_124) rfl in_13 3 dX10_send_102 w_1348 rfl (by decide) kf208 rfl ?_
                    refine tw_iload 4 dX10_send_105 rfl ?_
                    obtain ⟨e270, f271, F272, rfl⟩ := sp210.1 p_124 31 k125 (by decide)
                    obtain ⟨v273, ev273⟩ : ∃ y : Int64, F272 ((nI k201)).toNatClampNeg = y := ⟨_, rfl⟩
                    refine tw_lald (v := v273) dX10_send_107 f271 (vp_in_nI (by omega) (by decide)) ev273 ?_
                    refine tw_aload_n 0 dX10_send_108 rfl rfl ?_
                    obtain ⟨e274, f275, th_276, td_277, ds_278, fr_279, ca_280, us_281, wo_282, cm_283, lc_284, lh_285, ld_286, rfl, k287, k288, k289, k290, k291, k292, k293, k294, k295, k296, k297, k298, k299, k300, k301, k302, k303, k304⟩ := sp210.1 x 36 kx (by decide)
                    refine tw_get (v := .ref fr_279) rfl in_14 4 dX10_send_109 w_1155 rfl (by decide) f275 rfl ?_
                    refine tw_aload_n 3 dX10_send_112 rfl rfl ?_
                    refine tw_get (v := .int (nI j205)) rfl in_13 0 dX10_send_113 w_1342 rfl (by decide) kf208 rfl ?_
                    obtain ⟨e307, f308, F305, rfl, k306⟩ := sp210.1 fr_279 34 k288 (by decide)
                    obtain ⟨q309, k310, k311, iq312⟩ := k306 ((nI j205)).toNatClampNeg (by rw [nI_clamp (by omega)]; omega)
                    refine tw_aald (v := .ref q309) 8 rfl rfl dX10_send_116 f308 (vp_in_nI (by omega) (by decide)) (by rw [k310]; rfl) ?_
                    refine tw_iload_n 2 dX10_send_117 rfl rfl ?_
                    obtain ⟨e313, f314, F315, rfl, pf316⟩ := sp210.1 q309 6 k311 (by decide)
                    obtain ⟨v317, ev317⟩ : ∃ y : Int32, F315 ((nI j52)).toNatClampNeg = y := ⟨_, rfl⟩
                    refine tw_iald (v := v317) dX10_send_118 f314 (vp_in_nI (by omega) (by decide)) ev317 ?_
                    refine tw_i2l dX10_send_119 ?_
                    refine tw_nml (fun v318 ev318 => ?_)
                    refine tw_lmul dX10_send_120 ?_
                    refine tw_nml (fun v319 ev319 => ?_)
                    refine tw_ldc2 (v := 1000) dX10_send_121 w_1374 ?_
                    refine tw_bl (tw_callS (M := mX10_send) (pc := 124) okX10_up dX10_send_124 w_1375 [.long v319, .long 1000] [] rfl rfl ⟨by decide, by decide⟩ (Nat.le_of_ble_eq_true rfl) (c_X10_up d g τ h209 sp210.1 v319 1000 (by decide)) 0 0 (Nat.le_of_ble_eq_true rfl) (Nat.le_of_ble_eq_true rfl)) (fun r322 h321 q320 => ?_) (fun E h1 q => q.elim)
                    rw [q320]
                    refine tw_lstore [(5, .long r322), (0, .ref x), (1, .int (nI j35)), (2, .int (nI j52)), (3, .ref r116), (4, .int (nI k201))] dX10_send_127 (by decide) rfl ?_
                    refine tw_aload_n 4 dX10_send_129 rfl rfl ?_
                    refine tw_get (v := .ref p_124) rfl in_13 3 dX10_send_130 w_1348 rfl (by decide) kf208 rfl ?_
                    refine tw_iload 5 dX10_send_133 rfl ?_
                    refine tw_dup2 dX10_send_135 rfl rfl ?_
                    obtain ⟨v323, ev323⟩ : ∃ y : Int64, F272 ((nI k201)).toNatClampNeg = y := ⟨_, rfl⟩
                    refine tw_lald (v := v323) dX10_send_136 f271 (vp_in_nI (by omega) (by decide)) ev323 ?_
                    refine tw_lload 0 dX10_send_137 rfl ?_
                    refine tw_lsub dX10_send_139 ?_
                    refine tw_nml (fun v324 ev324 => ?_)
                    refine tw_last dX10_send_140 f271 (vp_in_nI (by omega) (by decide)) ?_
                    obtain ⟨h325, eh325⟩ : ∃ z : tw_H, z = tw_up h209 p_124 (.inl (d.2 1, 2, .inr (.inl (vp_updL F272 ((nI k201)).toNatClampNeg v324)))) := ⟨_, rfl⟩
                    rw [← eh325]
                    have sp326 : tw_sp d τ h148 g τ h325 := by rw [eh325]; exact sp210.set k125 (by decide) ⟨_, rfl⟩
                    have f327 : h325 r116 = some (.inr (13, [.int (nI j205), .int y_122, .int dy_123, .ref p_124])) := by rw [eh325, tw_up_n (fun q => absurd (q114k.1) (by rw [q, k125]; decide))]; exact kf208
                    refine tw_aload_n 1 dX10_send_141 rfl rfl ?_
                    obtain ⟨e328, f329, th_330, td_331, ds_332, fr_333, ca_334, us_335, wo_336, cm_337, lc_338, lh_339, ld_340, rfl, k341, k342, k343, k344, k345, k346, k347, k348, k349, k350, k351, k352, k353, k354, k355, k356, k357, k358⟩ := sp326.1 x 36 kx (by decide)
                    refine tw_get (v := .ref ca_334) rfl in_14 5 dX10_send_142 w_1156 rfl (by decide) f329 rfl ?_
                    refine tw_iload 5 dX10_send_145 rfl ?_
                    refine tw_dup2 dX10_send_147 rfl rfl ?_
                    obtain ⟨e359, f360, F361, rfl⟩ := sp326.1 ca_334 31 k343 (by decide)
                    obtain ⟨v362, ev362⟩ : ∃ y : Int64, F361 ((nI k201)).toNatClampNeg = y := ⟨_, rfl⟩
                    refine tw_lald (v := v362) dX10_send_148 f360 (vp_in_nI (by omega) (by decide)) ev362 ?_
                    refine tw_lload 0 dX10_send_149 rfl ?_
                    refine tw_ladd dX10_send_151 ?_
                    refine tw_nml (fun v363 ev363 => ?_)
                    refine tw_last dX10_send_152 f360 (vp_in_nI (by omega) (by decide)) ?_
                    obtain ⟨h364, eh364⟩ : ∃ z : tw_H, z = tw_up h325 ca_334 (.inl (d.2 1, 2, .inr (.inl (vp_updL F361 ((nI k201)).toNatClampNeg v363)))) := ⟨_, rfl⟩
                    rw [← eh364]
                    have sp365 : tw_sp d τ h148 g τ h364 := by rw [eh364]; exact sp326.set k343 (by decide) ⟨_, rfl⟩
                    have f366 : h364 r116 = some (.inr (13, [.int (nI j205), .int y_122, .int dy_123, .ref p_124])) := by rw [eh364, tw_up_n (fun q => absurd (q114k.1) (by rw [q, k343]; decide))]; exact f327
                    obtain ⟨v367, ev367⟩ : ∃ y : Int32, y = (nI k201) + 1 := ⟨_, rfl⟩
                    refine tw_iinc [(4, .int v367), (5, .long r322), (0, .ref x), (1, .int (nI j35)), (2, .int (nI j52)), (3, .ref r116)] 5 dX10_send_153 rfl (by rw [ev367]; rfl) (by decide) rfl ?_
                    refine tw_goto 95 dX10_send_156 (by decide) ?_
                    have qv367 := tw_nI3 ev367
                    rw [qv367]
                    refine tw_lv [2, 3, 4, 5, 0] rfl ?_
                    exact ih203 (k201 + 1)  _ sp365 f366 (by omega) (by omega)
              refine tw_lv [2, 3, 4, 1, 0] rfl ?_
              exact L204 (2 + 1) 0  _ (tw_sp.rf sp155.1) f157 (by omega) (by omega)
          · refine tw_iconst (v := 1) dX10_send_66 (by decide) ?_
            refine tw_goto 71 dX10_send_67 (by decide) ?_
            refine tw_iconst (v := 2) dX10_send_71 (by decide) ?_
            refine tw_bi (tw_callV (M := mX10_send) (pc := 72) okX10_refuse dX10_send_72 w_1204 rfl f79 [.int 1, .int 2] [] rfl rfl ⟨by decide, by decide⟩ (Nat.le_of_ble_eq_true rfl) (c_X10_refuse d g τ h67 sp74.1 x kx 1 2 (by decide)) 0 0 (Nat.le_of_ble_eq_true rfl) (Nat.le_of_ble_eq_true rfl)) (fun r370 h369 q368 => ?_) (fun E h1 q => q.elim)
            obtain ⟨e371, he372, hs373, hr374, h3375⟩ := q368
            have sp376 : tw_sp d τ h g τ h369 := by rw [he372]; exact sp74.set kx (by decide) hs373
            have f377 : h369 lh_89 = some (.inr (3, [.int (g.1 4), .ref el111, .int (nI (g.2 4))])) := by rw [he372, tw_up_n (fun q => absurd (k98) (by rw [q, kx]; decide))]; exact f110
            have f378 : h369 r116 = some (.inr (13, [.int x_121, .int y_122, .int dy_123, .ref p_124])) := by rw [he372, tw_up_n (fun q => absurd (q114k.1) (by rw [q, kx]; decide))]; exact f120
            have el379 : tw_el h369 (g.2 13) j35 = r116 := by rw [he372]; exact (tw_el25_up sp74.1 kl118 (by omega) (by rw [kx]; decide) (by rw [kx]; decide)).trans el117
            rcases hr374 with ei380 | ⟨ei380, ei380b⟩
            · rw [ei380]
              refine tw_if_eq 80 dX10_send_75 (by decide) (fun c381 => absurd c381 (by decide)) (fun _ => ?_)
              refine tw_iconst (v := 0) dX10_send_78 (by decide) ?_
              exact tw_iret dX10_send_79 rfl (Or.inl ⟨_, rfl, sp376⟩)
            · exact absurd ei380b (by decide)

set_option maxHeartbeats 4000000 in
set_option maxRecDepth 100000 in
theorem c_X10_due (d : tw_D) (g : tw_G) (τ : tw_K) (h : tw_H) (hw : tw_wt d g τ h) (x : Nat) (kx : τ x = 36) (y : Nat) (ky : τ y = 22) : tw_Ct d mX10_due 0 0 [.ref x, .ref y] h (tw_qi (fun r h1 => h1 = h) tw_nx) := by
  refine tw_of (by decide +kernel) (Nat.le_of_ble_eq_true rfl) ?_
  show tw_W d mX10_due _ 0 [(0, .ref x), (1, .ref y)] [] h 0 0
  have sp0 := tw_sp.rf hw
  refine tw_aload_n 1 dX10_due_0 rfl rfl ?_
  obtain ⟨e1, f2, v_3, dy_4, pd_5, i_6, j_7, rfl, k8, k9, k10⟩ := sp0.1 y 22 ky (by decide)
  refine tw_get (v := .int pd_5) rfl in_12 4 dX10_due_1 w_1447 rfl (by decide) f2 rfl ?_
  refine tw_if_eq 11 dX10_due_4 (by decide) (fun c11 => ?_) (fun c11 => ?_)
  · refine tw_aload_n 1 dX10_due_11 rfl rfl ?_
    refine tw_get (v := .int v_3) rfl in_12 2 dX10_due_12 w_1445 rfl (by decide) f2 rfl ?_
    refine tw_aload_n 1 dX10_due_15 rfl rfl ?_
    refine tw_get (v := .int v_3) rfl in_12 2 dX10_due_16 w_1445 rfl (by decide) f2 rfl ?_
    refine tw_bipush (v := 100) dX10_due_19 (by decide) ?_
    refine tw_idiv dX10_due_21 (by decide) ?_
    refine tw_nmi (fun v12 ev12 => ?_)
    refine tw_iconst (v := 0) dX10_due_22 (by decide) ?_
    refine tw_aload_n 0 dX10_due_23 rfl rfl ?_
    obtain ⟨e13, f14, th_15, td_16, ds_17, fr_18, ca_19, us_20, wo_21, cm_22, lc_23, lh_24, ld_25, rfl, k26, k27, k28, k29, k30, k31, k32, k33, k34, k35, k36, k37, k38, k39, k40, k41, k42, k43⟩ := sp0.1 x 36 kx (by decide)
    refine tw_get (v := .int td_16) rfl in_14 1 dX10_due_24 w_1152 rfl (by decide) f14 rfl ?_
    refine tw_aload_n 1 dX10_due_27 rfl rfl ?_
    refine tw_get (v := .int dy_4) rfl in_12 3 dX10_due_28 w_1446 rfl (by decide) f2 rfl ?_
    refine tw_isub dX10_due_31 ?_
    refine tw_nmi (fun v44 ev44 => ?_)
    refine tw_mmax dX10_due_32 w_1475 w_875 w_93 w_876 ⟨by decide, Nat.le_of_ble_eq_true rfl⟩ ?_
    refine tw_nmi (fun v45 ev45 => ?_)
    refine tw_bipush (v := 10) dX10_due_35 (by decide) ?_
    refine tw_idiv dX10_due_37 (by decide) ?_
    refine tw_nmi (fun v46 ev46 => ?_)
    refine tw_imul dX10_due_38 ?_
    refine tw_nmi (fun v47 ev47 => ?_)
    refine tw_iadd dX10_due_39 ?_
    refine tw_nmi (fun v48 ev48 => ?_)
    exact tw_iret dX10_due_40 rfl (Or.inl ⟨_, rfl, rfl⟩)
  · refine tw_iconst (v := 0) dX10_due_7 (by decide) ?_
    refine tw_goto 40 dX10_due_8 (by decide) ?_
    exact tw_iret dX10_due_40 rfl (Or.inl ⟨_, rfl, rfl⟩)

set_option maxHeartbeats 4000000 in
set_option maxRecDepth 100000 in
theorem c_X10_toPay (d : tw_D) (g : tw_G) (τ : tw_K) (h : tw_H) (hw : tw_wt d g τ h) (x : Nat) (kx : τ x = 36) (y : Nat) (ky : τ y = 22) (m : Int32) (a i : Nat) (ha : a < g.2 4) (hd1 : tw_th (h y) = nI a) (hi : i < g.2 3) (hd2 : tw_th (h (tw_el h (g.2 13) a)) = nI i) : tw_Ct d mX10_toPay 0 0 [.ref x, .ref y, .int m] h (tw_ql (fun r h1 => h1 = h) tw_nx) := by
  refine tw_of (by decide +kernel) (Nat.le_of_ble_eq_true rfl) ?_
  show tw_W d mX10_toPay _ 0 [(0, .ref x), (1, .ref y), (2, .int m)] [] h 0 0
  have sp0 := tw_sp.rf hw
  refine tw_iload_n 2 dX10_toPay_0 rfl rfl ?_
  refine tw_iconst (v := 1) dX10_toPay_1 (by decide) ?_
  refine tw_icmp_ne 14 dX10_toPay_2 (by decide) (fun c1 => ?_) (fun c1 => ?_)
  · refine tw_ldc2 (v := 10) dX10_toPay_14 w_1373 ?_
    refine tw_aload_n 0 dX10_toPay_17 rfl rfl ?_
    refine tw_aload_n 1 dX10_toPay_18 rfl rfl ?_
    obtain ⟨e2, f3, th_4, td_5, ds_6, fr_7, ca_8, us_9, wo_10, cm_11, lc_12, lh_13, ld_14, rfl, k15, k16, k17, k18, k19, k20, k21, k22, k23, k24, k25, k26, k27, k28, k29, k30, k31, k32⟩ := sp0.1 x 36 kx (by decide)
    refine tw_bi (tw_callV (M := mX10_toPay) (pc := 19) okX10_due dX10_toPay_19 w_1471 rfl f3 [.ref y] [.long 10] rfl rfl ⟨by decide, by decide⟩ (Nat.le_of_ble_eq_true rfl) (c_X10_due d g τ h sp0.1 x kx y ky) 0 0 (Nat.le_of_ble_eq_true rfl) (Nat.le_of_ble_eq_true rfl)) (fun r35 h34 q33 => ?_) (fun E h1 q => q.elim)
    rw [q33]
    refine tw_i2l dX10_toPay_22 ?_
    refine tw_nml (fun v36 ev36 => ?_)
    refine tw_lmul dX10_toPay_23 ?_
    refine tw_nml (fun v37 ev37 => ?_)
    refine tw_aload_n 0 dX10_toPay_24 rfl rfl ?_
    refine tw_get (v := .ref lc_12) rfl in_14 9 dX10_toPay_25 w_1160 rfl (by decide) f3 rfl ?_
    refine tw_aload_n 0 dX10_toPay_28 rfl rfl ?_
    refine tw_get (v := .ref lh_13) rfl in_14 10 dX10_toPay_29 w_1161 rfl (by decide) f3 rfl ?_
    refine tw_aload_n 1 dX10_toPay_32 rfl rfl ?_
    obtain ⟨e38, f39, v_40, dy_41, pd_42, i_43, j_44, rfl, k45, k46, k47⟩ := sp0.1 y 22 ky (by decide)
    refine tw_get (v := .int (nI i_43)) rfl in_12 0 dX10_toPay_33 w_1443 rfl (by decide) f39 rfl ?_
    obtain ⟨e48, f49, ⟨el50, rfl, k51⟩, k52⟩ := sp0.1 lh_13 25 k22 (by decide)
    refine tw_br (tw_callV (M := mX10_toPay) (pc := 36) okJx4a65c_get_915e3 dX10_toPay_36 w_1296 rfl f49 [.int (nI i_43)] [.ref lc_12, .long v37] rfl rfl ⟨by decide, by decide⟩ (Nat.le_of_ble_eq_true rfl) (c25_get d g τ h sp0.1 lh_13 k22 i_43 (by omega) (by omega)) 0 0 (Nat.le_of_ble_eq_true rfl) (Nat.le_of_ble_eq_true rfl)) (fun r55 h54 q53 => ?_) (fun E h1 q => q.elim)
    obtain ⟨q53e, q53k⟩ := q53
    rw [q53e]
    have el56 : tw_el h (g.2 13) i_43 = r55 := by rw [← k52]; exact q53k.2.symm
    have kl57 : τ (g.2 13) = 25 := by rw [← k52]; exact k22
    obtain ⟨e58, f59, x_60, y_61, dy_62, p_63, rfl, k64, k65, k66⟩ := sp0.1 r55 23 q53k.1 (by decide)
    refine tw_castS (ci := 13) rfl dX10_toPay_39 w_1336 f59 ?_
    refine tw_get (v := .int x_60) rfl in_13 0 dX10_toPay_42 w_1342 rfl (by decide) f59 rfl ?_
    have q67 : i_43 = a := tw_nIj (by have z := hd1; rw [f39] at z; exact z) (by omega) (by omega)
    have q68 : x_60 = nI i := by have z := hd2; rw [← q67, el56, f59] at z; exact z
    subst q68
    obtain ⟨e69, f70, ⟨el71, rfl, k72⟩, k73⟩ := sp0.1 lc_12 24 k21 (by decide)
    refine tw_br (tw_callV (M := mX10_toPay) (pc := 45) okJx4a65c_get_915e3 dX10_toPay_45 w_1296 rfl f70 [.int (nI i)] [.long v37] rfl rfl ⟨by decide, by decide⟩ (Nat.le_of_ble_eq_true rfl) (c24_get d g τ h sp0.1 lc_12 k21 i (by omega) (by omega)) 0 0 (Nat.le_of_ble_eq_true rfl) (Nat.le_of_ble_eq_true rfl)) (fun r76 h75 q74 => ?_) (fun E h1 q => q.elim)
    obtain ⟨q74e, q74k⟩ := q74
    rw [q74e]
    have el77 : tw_el h (g.2 12) i = r76 := by rw [← k73]; exact q74k.2.symm
    have kl78 : τ (g.2 12) = 24 := by rw [← k73]; exact k21
    obtain ⟨e79, f80, r_81, c_82, v_83, o_84, t_85, rfl, k86, k87, k88, k89, k90, k91⟩ := sp0.1 r76 21 q74k.1 (by decide)
    refine tw_castS (ci := 11) rfl dX10_toPay_48 w_1212 f80 ?_
    refine tw_get (v := .int r_81) rfl in_11 0 dX10_toPay_51 w_1218 rfl (by decide) f80 rfl ?_
    refine tw_i2l dX10_toPay_54 ?_
    refine tw_nml (fun v92 ev92 => ?_)
    refine tw_bl (tw_callS (M := mX10_toPay) (pc := 55) okX10_up dX10_toPay_55 w_1375 [.long v37, .long v92] [] rfl rfl ⟨by decide, by decide⟩ (Nat.le_of_ble_eq_true rfl) (c_X10_up d g τ h sp0.1 v37 v92 (tw_nzl ev92 (tw_1le k89))) 0 0 (Nat.le_of_ble_eq_true rfl) (Nat.le_of_ble_eq_true rfl)) (fun r95 h94 q93 => ?_) (fun E h1 q => q.elim)
    rw [q93]
    exact tw_lret dX10_toPay_58 rfl (Or.inl ⟨_, rfl, rfl⟩)
  · refine tw_aload_n 0 dX10_toPay_5 rfl rfl ?_
    refine tw_aload_n 1 dX10_toPay_6 rfl rfl ?_
    obtain ⟨e96, f97, th_98, td_99, ds_100, fr_101, ca_102, us_103, wo_104, cm_105, lc_106, lh_107, ld_108, rfl, k109, k110, k111, k112, k113, k114, k115, k116, k117, k118, k119, k120, k121, k122, k123, k124, k125, k126⟩ := sp0.1 x 36 kx (by decide)
    refine tw_bi (tw_callV (M := mX10_toPay) (pc := 7) okX10_due dX10_toPay_7 w_1471 rfl f97 [.ref y] [] rfl rfl ⟨by decide, by decide⟩ (Nat.le_of_ble_eq_true rfl) (c_X10_due d g τ h sp0.1 x kx y ky) 0 0 (Nat.le_of_ble_eq_true rfl) (Nat.le_of_ble_eq_true rfl)) (fun r129 h128 q127 => ?_) (fun E h1 q => q.elim)
    rw [q127]
    refine tw_i2l dX10_toPay_10 ?_
    refine tw_nml (fun v130 ev130 => ?_)
    refine tw_goto 58 dX10_toPay_11 (by decide) ?_
    exact tw_lret dX10_toPay_58 rfl (Or.inl ⟨_, rfl, rfl⟩)

set_option maxHeartbeats 4000000 in
set_option maxRecDepth 100000 in
theorem c_X10_isNoPay (d : tw_D) (g : tw_G) (τ : tw_K) (h : tw_H) (hw : tw_wt d g τ h) (x : Nat) (kx : τ x = 36) (y : Nat) (ky : τ y = 22) (m : Int32) (hm : m = 0 ∨ m = 1) : tw_Ct d mX10_isNoPay 0 0 [.ref x, .ref y, .int m] h (tw_qi (fun r h1 => h1 = h ∧ (r = 1 ∨ r = 0 ∧ ∃ a i, a < g.2 4 ∧ tw_th (h y) = nI a ∧ i < g.2 3 ∧ tw_th (h (tw_el h (g.2 13) a)) = nI i)) tw_nx) := by
  refine tw_of (by decide +kernel) (Nat.le_of_ble_eq_true rfl) ?_
  show tw_W d mX10_isNoPay _ 0 [(0, .ref x), (1, .ref y), (2, .int m)] [] h 0 0
  have sp0 := tw_sp.rf hw
  refine tw_aload_n 0 dX10_isNoPay_0 rfl rfl ?_
  obtain ⟨e1, f2, th_3, td_4, ds_5, fr_6, ca_7, us_8, wo_9, cm_10, lc_11, lh_12, ld_13, rfl, k14, k15, k16, k17, k18, k19, k20, k21, k22, k23, k24, k25, k26, k27, k28, k29, k30, k31⟩ := sp0.1 x 36 kx (by decide)
  refine tw_get (v := .ref lh_12) rfl in_14 10 dX10_isNoPay_1 w_1161 rfl (by decide) f2 rfl ?_
  refine tw_aload_n 1 dX10_isNoPay_4 rfl rfl ?_
  obtain ⟨e32, f33, v_34, dy_35, pd_36, i_37, j_38, rfl, k39, k40, k41⟩ := sp0.1 y 22 ky (by decide)
  refine tw_get (v := .int (nI i_37)) rfl in_12 0 dX10_isNoPay_5 w_1443 rfl (by decide) f33 rfl ?_
  obtain ⟨e42, f43, ⟨el44, rfl, k45⟩, k46⟩ := sp0.1 lh_12 25 k21 (by decide)
  refine tw_br (tw_callV (M := mX10_isNoPay) (pc := 8) okJx4a65c_get_915e3 dX10_isNoPay_8 w_1296 rfl f43 [.int (nI i_37)] [] rfl rfl ⟨by decide, by decide⟩ (Nat.le_of_ble_eq_true rfl) (c25_get d g τ h sp0.1 lh_12 k21 i_37 (by omega) (by omega)) 0 0 (Nat.le_of_ble_eq_true rfl) (Nat.le_of_ble_eq_true rfl)) (fun r49 h48 q47 => ?_) (fun E h1 q => q.elim)
  obtain ⟨q47e, q47k⟩ := q47
  rw [q47e]
  have el50 : tw_el h (g.2 13) i_37 = r49 := by rw [← k46]; exact q47k.2.symm
  have kl51 : τ (g.2 13) = 25 := by rw [← k46]; exact k21
  obtain ⟨e52, f53, x_54, y_55, dy_56, p_57, rfl, k58, k59, k60⟩ := sp0.1 r49 23 q47k.1 (by decide)
  refine tw_castS (ci := 13) rfl dX10_isNoPay_11 w_1336 f53 ?_
  refine tw_astore_n [(3, .ref r49), (0, .ref x), (1, .ref y), (2, .int m)] dX10_isNoPay_14 rfl (by decide) rfl ?_
  refine tw_aload_n 2 dX10_isNoPay_15 rfl rfl ?_
  refine tw_get (v := .int pd_36) rfl in_12 4 dX10_isNoPay_16 w_1447 rfl (by decide) f33 rfl ?_
  refine tw_if_ne 67 dX10_isNoPay_19 (by decide) (fun c61 => ?_) (fun c61 => ?_)
  · refine tw_iconst (v := 1) dX10_isNoPay_67 (by decide) ?_
    refine tw_goto 72 dX10_isNoPay_68 (by decide) ?_
    exact tw_zret dX10_isNoPay_72 rfl rfl (Or.inl ⟨_, rfl, ⟨rfl, (Or.inl rfl)⟩⟩)
  · refine tw_aload_n 0 dX10_isNoPay_22 rfl rfl ?_
    refine tw_get (v := .int x_54) rfl in_13 0 dX10_isNoPay_23 w_1342 rfl (by decide) f53 rfl ?_
    refine tw_iconst (v := -1) dX10_isNoPay_26 (by decide) ?_
    refine tw_icmp_eq 67 dX10_isNoPay_27 (by decide) (fun c62 => ?_) (fun c62 => ?_)
    · refine tw_iconst (v := 1) dX10_isNoPay_67 (by decide) ?_
      refine tw_goto 72 dX10_isNoPay_68 (by decide) ?_
      exact tw_zret dX10_isNoPay_72 rfl rfl (Or.inl ⟨_, rfl, ⟨rfl, (Or.inl rfl)⟩⟩)
    · refine tw_aload_n 1 dX10_isNoPay_30 rfl rfl ?_
      refine tw_get (v := .ref lh_12) rfl in_14 10 dX10_isNoPay_31 w_1161 rfl (by decide) f2 rfl ?_
      refine tw_aload_n 2 dX10_isNoPay_34 rfl rfl ?_
      refine tw_get (v := .int (nI j_38)) rfl in_12 1 dX10_isNoPay_35 w_1444 rfl (by decide) f33 rfl ?_
      refine tw_br (tw_callV (M := mX10_isNoPay) (pc := 38) okJx4a65c_get_915e3 dX10_isNoPay_38 w_1296 rfl f43 [.int (nI j_38)] [] rfl rfl ⟨by decide, by decide⟩ (Nat.le_of_ble_eq_true rfl) (c25_get d g τ h sp0.1 lh_12 k21 j_38 (by omega) (by omega)) 0 0 (Nat.le_of_ble_eq_true rfl) (Nat.le_of_ble_eq_true rfl)) (fun r65 h64 q63 => ?_) (fun E h1 q => q.elim)
      obtain ⟨q63e, q63k⟩ := q63
      rw [q63e]
      have el66 : tw_el h (g.2 13) j_38 = r65 := by rw [← k46]; exact q63k.2.symm
      have kl67 : τ (g.2 13) = 25 := by rw [← k46]; exact k21
      obtain ⟨e68, f69, x_70, y_71, dy_72, p_73, rfl, k74, k75, k76⟩ := sp0.1 r65 23 q63k.1 (by decide)
      refine tw_castS (ci := 13) rfl dX10_isNoPay_41 w_1336 f69 ?_
      refine tw_get (v := .int x_70) rfl in_13 0 dX10_isNoPay_44 w_1342 rfl (by decide) f69 rfl ?_
      refine tw_iconst (v := -1) dX10_isNoPay_47 (by decide) ?_
      refine tw_icmp_eq 67 dX10_isNoPay_48 (by decide) (fun c77 => ?_) (fun c77 => ?_)
      · refine tw_iconst (v := 1) dX10_isNoPay_67 (by decide) ?_
        refine tw_goto 72 dX10_isNoPay_68 (by decide) ?_
        exact tw_zret dX10_isNoPay_72 rfl rfl (Or.inl ⟨_, rfl, ⟨rfl, (Or.inl rfl)⟩⟩)
      · refine tw_aload_n 0 dX10_isNoPay_51 rfl rfl ?_
        refine tw_get (v := .ref p_57) rfl in_13 3 dX10_isNoPay_52 w_1348 rfl (by decide) f53 rfl ?_
        refine tw_iload_n 3 dX10_isNoPay_55 rfl rfl ?_
        obtain ⟨e78, f79, F80, rfl⟩ := sp0.1 p_57 31 k58 (by decide)
        obtain ⟨v81, ev81⟩ : ∃ y : Int64, F80 (m).toNatClampNeg = y := ⟨_, rfl⟩
        refine tw_lald (v := v81) dX10_isNoPay_56 f79 (tw_in01 hm (by decide)) ev81 ?_
        refine tw_aload_n 1 dX10_isNoPay_57 rfl rfl ?_
        refine tw_aload_n 2 dX10_isNoPay_58 rfl rfl ?_
        refine tw_iload_n 3 dX10_isNoPay_59 rfl rfl ?_
        obtain ⟨j82, hj83, ej84⟩ := k59.resolve_left c62
        subst ej84
        refine tw_bl (tw_callV (M := mX10_isNoPay) (pc := 60) okX10_toPay dX10_isNoPay_60 w_1467 rfl f2 [.ref y, .int m] [.long v81] rfl rfl ⟨by decide, by decide⟩ (Nat.le_of_ble_eq_true rfl) (c_X10_toPay d g τ h sp0.1 x kx y ky m i_37 j82 (by omega) (by rw [f33]; rfl) (by omega) (by rw [el50, f53]; rfl)) 0 0 (Nat.le_of_ble_eq_true rfl) (Nat.le_of_ble_eq_true rfl)) (fun r87 h86 q85 => ?_) (fun E h1 q => q.elim)
        rw [q85]
        refine tw_lcmp dX10_isNoPay_63 ?_
        refine tw_nmi (fun v88 ev88 => ?_)
        refine tw_if_ge 71 dX10_isNoPay_64 (by decide) (fun c89 => ?_) (fun c89 => ?_)
        · refine tw_iconst (v := 0) dX10_isNoPay_71 (by decide) ?_
          exact tw_zret dX10_isNoPay_72 rfl rfl (Or.inl ⟨_, rfl, ⟨rfl, (Or.inr ⟨rfl, i_37, j82, by omega, by rw [f33]; rfl, by omega, by rw [el50, f53]; rfl⟩)⟩⟩)
        · refine tw_iconst (v := 1) dX10_isNoPay_67 (by decide) ?_
          refine tw_goto 72 dX10_isNoPay_68 (by decide) ?_
          exact tw_zret dX10_isNoPay_72 rfl rfl (Or.inl ⟨_, rfl, ⟨rfl, (Or.inl rfl)⟩⟩)

set_option maxHeartbeats 4000000 in
set_option maxRecDepth 100000 in
theorem c_X10_settle (d : tw_D) (g : tw_G) (τ : tw_K) (h : tw_H) (hw : tw_wt d g τ h) (x : Nat) (kx : τ x = 36) (n : Int32) (m : Int32) : tw_Ct d mX10_settle 0 0 [.ref x, .int n, .int m] h (tw_qi (fun r h1 => tw_sp d τ h g τ h1) tw_nx) := by
  refine tw_of (by decide +kernel) (Nat.le_of_ble_eq_true rfl) ?_
  show tw_W d mX10_settle _ 0 [(0, .ref x), (1, .int n), (2, .int m)] [] h 0 0
  have sp0 := tw_sp.rf hw
  refine tw_aload_n 0 dX10_settle_0 rfl rfl ?_
  refine tw_iload_n 1 dX10_settle_1 rfl rfl ?_
  refine tw_iconst (v := 0) dX10_settle_2 (by decide) ?_
  refine tw_aload_n 0 dX10_settle_3 rfl rfl ?_
  obtain ⟨e1, f2, th_3, td_4, ds_5, fr_6, ca_7, us_8, wo_9, cm_10, lc_11, lh_12, ld_13, rfl, k14, k15, k16, k17, k18, k19, k20, k21, k22, k23, k24, k25, k26, k27, k28, k29, k30, k31⟩ := sp0.1 x 36 kx (by decide)
  refine tw_get (v := .ref ld_13) rfl in_14 11 dX10_settle_4 w_1162 rfl (by decide) f2 rfl ?_
  obtain ⟨e32, f33, ⟨el34, rfl, k35⟩, k36⟩ := sp0.1 ld_13 26 k22 (by decide)
  refine tw_bi (tw_callV (M := mX10_settle) (pc := 7) okJx4a65c_size_8abf5 dX10_settle_7 w_1208 rfl f33 [] [.int 0, .int n, .ref x] rfl rfl ⟨by decide, by decide⟩ (Nat.le_of_ble_eq_true rfl) (c26_size d g τ h sp0.1 ld_13 k22) 0 0 (Nat.le_of_ble_eq_true rfl) (Nat.le_of_ble_eq_true rfl)) (fun r39 h38 q37 => ?_) (fun E h1 q => q.elim)
  obtain ⟨q37e, q37r⟩ := q37
  rw [q37e, q37r]
  refine tw_iconst (v := 1) dX10_settle_10 (by decide) ?_
  refine tw_isub dX10_settle_11 ?_
  refine tw_nmi (fun v40 ev40 => ?_)
  refine tw_bi (tw_callS (M := mX10_settle) (pc := 12) okX10_isIn dX10_settle_12 w_1196 [.int n, .int 0, .int v40] [.ref x] rfl rfl ⟨by decide, by decide⟩ (Nat.le_of_ble_eq_true rfl) (c_X10_isIn d g τ h sp0.1 n 0 v40) 0 0 (Nat.le_of_ble_eq_true rfl) (Nat.le_of_ble_eq_true rfl)) (fun r43 h42 q41 => ?_) (fun E h1 q => q.elim)
  obtain ⟨q41e, q41d⟩ := q41
  rw [q41e]
  rcases q41d with ⟨q41r, q41n⟩ | ⟨q41r, q41a, q41b⟩
  · rw [q41r]
    refine tw_if_ne 22 dX10_settle_15 (by decide) (fun c44 => absurd (by decide) c44) (fun _ => ?_)
    refine tw_iconst (v := 1) dX10_settle_18 (by decide) ?_
    refine tw_goto 23 dX10_settle_19 (by decide) ?_
    refine tw_iconst (v := 1) dX10_settle_23 (by decide) ?_
    refine tw_bi (tw_callV (M := mX10_settle) (pc := 24) okX10_start dX10_settle_24 w_1200 rfl f2 [.int 1, .int 1] [] rfl rfl ⟨by decide, by decide⟩ (Nat.le_of_ble_eq_true rfl) (c_X10_start d g τ h sp0.1 x kx 1 1 (by decide)) 0 0 (Nat.le_of_ble_eq_true rfl) (Nat.le_of_ble_eq_true rfl)) (fun r47 h46 q45 => ?_) (fun E h1 q => q.elim)
    obtain ⟨e48, he49, hs50, hr51, h352⟩ := q45
    have sp53 : tw_sp d τ h g τ h46 := by rw [he49]; exact sp0.set kx (by decide) hs50
    have f54 : h46 ld_13 = some (.inr (3, [.int (g.1 5), .ref el34, .int (nI (g.2 5))])) := by rw [he49, tw_up_n (fun q => absurd (k22) (by rw [q, kx]; decide))]; exact f33
    rcases hr51 with ei55 | ⟨ei55, ei55b⟩
    · rw [ei55]
      refine tw_if_ne 66 dX10_settle_27 (by decide) (fun _ => ?_) (fun c56 => absurd c56 (by decide))
      refine tw_iconst (v := 0) dX10_settle_66 (by decide) ?_
      exact tw_iret dX10_settle_67 rfl (Or.inl ⟨_, rfl, sp53⟩)
    · exact absurd ei55b (by decide)
  · rw [q41r]
    refine tw_if_ne 22 dX10_settle_15 (by decide) (fun _ => ?_) (fun c57 => absurd c57 (by decide))
    refine tw_iconst (v := 0) dX10_settle_22 (by decide) ?_
    refine tw_iconst (v := 1) dX10_settle_23 (by decide) ?_
    refine tw_bi (tw_callV (M := mX10_settle) (pc := 24) okX10_start dX10_settle_24 w_1200 rfl f2 [.int 0, .int 1] [] rfl rfl ⟨by decide, by decide⟩ (Nat.le_of_ble_eq_true rfl) (c_X10_start d g τ h sp0.1 x kx 0 1 (by decide)) 0 0 (Nat.le_of_ble_eq_true rfl) (Nat.le_of_ble_eq_true rfl)) (fun r60 h59 q58 => ?_) (fun E h1 q => q.elim)
    obtain ⟨e61, he62, hs63, hr64, h365⟩ := q58
    have sp66 : tw_sp d τ h g τ h59 := by rw [he62]; exact sp0.set kx (by decide) hs63
    have f67 : h59 ld_13 = some (.inr (3, [.int (g.1 5), .ref el34, .int (nI (g.2 5))])) := by rw [he62, tw_up_n (fun q => absurd (k22) (by rw [q, kx]; decide))]; exact f33
    rcases hr64 with ei68 | ⟨ei68, ei68b⟩
    · rw [ei68]
      refine tw_if_ne 66 dX10_settle_27 (by decide) (fun _ => ?_) (fun c69 => absurd c69 (by decide))
      refine tw_iconst (v := 0) dX10_settle_66 (by decide) ?_
      exact tw_iret dX10_settle_67 rfl (Or.inl ⟨_, rfl, sp66⟩)
    · rw [ei68]
      refine tw_if_ne 66 dX10_settle_27 (by decide) (fun c70 => absurd (by decide) c70) (fun _ => ?_)
      refine tw_aload_n 0 dX10_settle_30 rfl rfl ?_
      refine tw_iload_n 2 dX10_settle_31 rfl rfl ?_
      refine tw_bi (tw_callS (M := mX10_settle) (pc := 32) okX10_isNoMetal dX10_settle_32 w_1312 [.int m] [.ref x] rfl rfl ⟨by decide, by decide⟩ (Nat.le_of_ble_eq_true rfl) (c_X10_isNoMetal d g τ h59 sp66.1 m) 0 0 (Nat.le_of_ble_eq_true rfl) (Nat.le_of_ble_eq_true rfl)) (fun r73 h72 q71 => ?_) (fun E h1 q => q.elim)
      obtain ⟨q71e, q71d⟩ := q71
      rw [q71e]
      rcases q71d with q71r | ⟨q71r, q71m⟩
      · rw [q71r]
        refine tw_iconst (v := 2) dX10_settle_35 (by decide) ?_
        obtain ⟨e74, f75, th_76, td_77, ds_78, fr_79, ca_80, us_81, wo_82, cm_83, lc_84, lh_85, ld_86, rfl, k87, k88, k89, k90, k91, k92, k93, k94, k95, k96, k97, k98, k99, k100, k101, k102, k103, k104⟩ := sp66.1 x 36 kx (by decide)
        refine tw_bi (tw_callV (M := mX10_settle) (pc := 36) okX10_refuse dX10_settle_36 w_1204 rfl f75 [.int 1, .int 2] [] rfl rfl ⟨by decide, by decide⟩ (Nat.le_of_ble_eq_true rfl) (c_X10_refuse d g τ h59 sp66.1 x kx 1 2 (by decide)) 0 0 (Nat.le_of_ble_eq_true rfl) (Nat.le_of_ble_eq_true rfl)) (fun r107 h106 q105 => ?_) (fun E h1 q => q.elim)
        obtain ⟨e108, he109, hs110, hr111, h3112⟩ := q105
        have sp113 : tw_sp d τ h g τ h106 := by rw [he109]; exact sp66.set kx (by decide) hs110
        have f114 : h106 ld_13 = some (.inr (3, [.int (g.1 5), .ref el34, .int (nI (g.2 5))])) := by rw [he109, tw_up_n (fun q => absurd (k22) (by rw [q, kx]; decide))]; exact f67
        rcases hr111 with ei115 | ⟨ei115, ei115b⟩
        · rw [ei115]
          refine tw_if_ne 66 dX10_settle_39 (by decide) (fun _ => ?_) (fun c116 => absurd c116 (by decide))
          refine tw_iconst (v := 0) dX10_settle_66 (by decide) ?_
          exact tw_iret dX10_settle_67 rfl (Or.inl ⟨_, rfl, sp113⟩)
        · exact absurd ei115b (by decide)
      · rw [q71r]
        refine tw_iconst (v := 2) dX10_settle_35 (by decide) ?_
        obtain ⟨e117, f118, th_119, td_120, ds_121, fr_122, ca_123, us_124, wo_125, cm_126, lc_127, lh_128, ld_129, rfl, k130, k131, k132, k133, k134, k135, k136, k137, k138, k139, k140, k141, k142, k143, k144, k145, k146, k147⟩ := sp66.1 x 36 kx (by decide)
        refine tw_bi (tw_callV (M := mX10_settle) (pc := 36) okX10_refuse dX10_settle_36 w_1204 rfl f118 [.int 0, .int 2] [] rfl rfl ⟨by decide, by decide⟩ (Nat.le_of_ble_eq_true rfl) (c_X10_refuse d g τ h59 sp66.1 x kx 0 2 (by decide)) 0 0 (Nat.le_of_ble_eq_true rfl) (Nat.le_of_ble_eq_true rfl)) (fun r150 h149 q148 => ?_) (fun E h1 q => q.elim)
        obtain ⟨e151, he152, hs153, hr154, h3155⟩ := q148
        have sp156 : tw_sp d τ h g τ h149 := by rw [he152]; exact sp66.set kx (by decide) hs153
        have f157 : h149 ld_13 = some (.inr (3, [.int (g.1 5), .ref el34, .int (nI (g.2 5))])) := by rw [he152, tw_up_n (fun q => absurd (k22) (by rw [q, kx]; decide))]; exact f67
        rcases hr154 with ei158 | ⟨ei158, ei158b⟩
        · rw [ei158]
          refine tw_if_ne 66 dX10_settle_39 (by decide) (fun _ => ?_) (fun c159 => absurd c159 (by decide))
          refine tw_iconst (v := 0) dX10_settle_66 (by decide) ?_
          exact tw_iret dX10_settle_67 rfl (Or.inl ⟨_, rfl, sp156⟩)
        · rw [ei158]
          refine tw_if_ne 66 dX10_settle_39 (by decide) (fun c160 => absurd (by decide) c160) (fun _ => ?_)
          refine tw_aload_n 0 dX10_settle_42 rfl rfl ?_
          refine tw_aload_n 0 dX10_settle_43 rfl rfl ?_
          refine tw_aload_n 0 dX10_settle_44 rfl rfl ?_
          obtain ⟨e161, f162, th_163, td_164, ds_165, fr_166, ca_167, us_168, wo_169, cm_170, lc_171, lh_172, ld_173, rfl, k174, k175, k176, k177, k178, k179, k180, k181, k182, k183, k184, k185, k186, k187, k188, k189, k190, k191⟩ := sp156.1 x 36 kx (by decide)
          refine tw_get (v := .ref ld_173) rfl in_14 11 dX10_settle_45 w_1162 rfl (by decide) f162 rfl ?_
          refine tw_iload_n 1 dX10_settle_48 rfl rfl ?_
          obtain ⟨j192, hj193, ej194⟩ := tw_isc q41a q41b ev40 (by omega)
          subst ej194
          obtain ⟨e195, f196, ⟨el197, rfl, k198⟩, k199⟩ := sp156.1 ld_173 26 k182 (by decide)
          refine tw_br (tw_callV (M := mX10_settle) (pc := 49) okJx4a65c_get_915e3 dX10_settle_49 w_1296 rfl f196 [.int (nI j192)] [.ref x, .ref x] rfl rfl ⟨by decide, by decide⟩ (Nat.le_of_ble_eq_true rfl) (c26_get d g τ h149 sp156.1 ld_173 k182 j192 (by omega) (by omega)) 0 0 (Nat.le_of_ble_eq_true rfl) (Nat.le_of_ble_eq_true rfl)) (fun r202 h201 q200 => ?_) (fun E h1 q => q.elim)
          obtain ⟨q200e, q200k⟩ := q200
          rw [q200e]
          have el203 : tw_el h149 (g.2 14) j192 = r202 := by rw [← k199]; exact q200k.2.symm
          have kl204 : τ (g.2 14) = 26 := by rw [← k199]; exact k182
          obtain ⟨e205, f206, v_207, dy_208, pd_209, i_210, j_211, rfl, k212, k213, k214⟩ := sp156.1 r202 22 q200k.1 (by decide)
          refine tw_castS (ci := 12) rfl dX10_settle_52 w_1437 f206 ?_
          refine tw_iload_n 2 dX10_settle_55 rfl rfl ?_
          refine tw_bi (tw_callV (M := mX10_settle) (pc := 56) okX10_isNoPay dX10_settle_56 w_1463 rfl f162 [.ref r202, .int m] [.ref x] rfl rfl ⟨by decide, by decide⟩ (Nat.le_of_ble_eq_true rfl) (c_X10_isNoPay d g τ h149 sp156.1 x kx r202 q200k.1 m q71m) 0 0 (Nat.le_of_ble_eq_true rfl) (Nat.le_of_ble_eq_true rfl)) (fun r217 h216 q215 => ?_) (fun E h1 q => q.elim)
          obtain ⟨q215e, q215d⟩ := q215
          rw [q215e]
          rcases q215d with q215r | ⟨q215r, a218, i219, ha220, p221, hi222, p223⟩
          · rw [q215r]
            refine tw_iconst (v := 3) dX10_settle_59 (by decide) ?_
            refine tw_bi (tw_callV (M := mX10_settle) (pc := 60) okX10_refuse dX10_settle_60 w_1204 rfl f162 [.int 1, .int 3] [] rfl rfl ⟨by decide, by decide⟩ (Nat.le_of_ble_eq_true rfl) (c_X10_refuse d g τ h149 sp156.1 x kx 1 3 (by decide)) 0 0 (Nat.le_of_ble_eq_true rfl) (Nat.le_of_ble_eq_true rfl)) (fun r226 h225 q224 => ?_) (fun E h1 q => q.elim)
            obtain ⟨e227, he228, hs229, hr230, h3231⟩ := q224
            have sp232 : tw_sp d τ h g τ h225 := by rw [he228]; exact sp156.set kx (by decide) hs229
            have f233 : h225 ld_13 = some (.inr (3, [.int (g.1 5), .ref el34, .int (nI (g.2 5))])) := by rw [he228, tw_up_n (fun q => absurd (k22) (by rw [q, kx]; decide))]; exact f157
            have f234 : h225 ld_173 = some (.inr (3, [.int (g.1 5), .ref el197, .int (nI (g.2 5))])) := by rw [he228, tw_up_n (fun q => absurd (k182) (by rw [q, kx]; decide))]; exact f196
            have f235 : h225 r202 = some (.inr (12, [.int (nI i_210), .int (nI j_211), .int v_207, .int dy_208, .int pd_209])) := by rw [he228, tw_up_n (fun q => absurd (q200k.1) (by rw [q, kx]; decide))]; exact f206
            have el236 : tw_el h225 (g.2 14) j192 = r202 := by rw [he228]; exact (tw_el26_up sp156.1 kl204 (by omega) (by rw [kx]; decide) (by rw [kx]; decide)).trans el203
            rcases hr230 with ei237 | ⟨ei237, ei237b⟩
            · rw [ei237]
              refine tw_if_eq 68 dX10_settle_63 (by decide) (fun c238 => absurd c238 (by decide)) (fun _ => ?_)
              refine tw_iconst (v := 0) dX10_settle_66 (by decide) ?_
              exact tw_iret dX10_settle_67 rfl (Or.inl ⟨_, rfl, sp232⟩)
            · exact absurd ei237b (by decide)
          · rw [q215r]
            obtain ⟨e239, f240, ⟨el241, rfl, k242⟩, k243⟩ := sp156.1 lh_172 25 k181 (by decide)
            have kl245 : τ (g.2 13) = 25 := by rw [← k243]; exact k181
            have kz244 := tw_elk25 sp156.1 kl245 ha220
            refine tw_iconst (v := 3) dX10_settle_59 (by decide) ?_
            refine tw_bi (tw_callV (M := mX10_settle) (pc := 60) okX10_refuse dX10_settle_60 w_1204 rfl f162 [.int 0, .int 3] [] rfl rfl ⟨by decide, by decide⟩ (Nat.le_of_ble_eq_true rfl) (c_X10_refuse d g τ h149 sp156.1 x kx 0 3 (by decide)) 0 0 (Nat.le_of_ble_eq_true rfl) (Nat.le_of_ble_eq_true rfl)) (fun r248 h247 q246 => ?_) (fun E h1 q => q.elim)
            obtain ⟨e249, he250, hs251, hr252, h3253⟩ := q246
            have sp254 : tw_sp d τ h g τ h247 := by rw [he250]; exact sp156.set kx (by decide) hs251
            have f255 : h247 ld_13 = some (.inr (3, [.int (g.1 5), .ref el34, .int (nI (g.2 5))])) := by rw [he250, tw_up_n (fun q => absurd (k22) (by rw [q, kx]; decide))]; exact f157
            have f256 : h247 ld_173 = some (.inr (3, [.int (g.1 5), .ref el197, .int (nI (g.2 5))])) := by rw [he250, tw_up_n (fun q => absurd (k182) (by rw [q, kx]; decide))]; exact f196
            have f257 : h247 r202 = some (.inr (12, [.int (nI i_210), .int (nI j_211), .int v_207, .int dy_208, .int pd_209])) := by rw [he250, tw_up_n (fun q => absurd (q200k.1) (by rw [q, kx]; decide))]; exact f206
            have f258 : h247 lh_172 = some (.inr (3, [.int (g.1 4), .ref el241, .int (nI (g.2 4))])) := by rw [he250, tw_up_n (fun q => absurd (k181) (by rw [q, kx]; decide))]; exact f240
            have el259 : tw_el h247 (g.2 14) j192 = r202 := by rw [he250]; exact (tw_el26_up sp156.1 kl204 (by omega) (by rw [kx]; decide) (by rw [kx]; decide)).trans el203
            have p260 : tw_th (h247 r202) = nI a218 := by rw [he250, tw_up_n (fun q => absurd (q200k.1) (by rw [q, kx]; decide))]; exact p221
            have p261 : tw_th (h247 (tw_el h247 (g.2 13) a218)) = nI i219 := by rw [he250, tw_el25_up sp156.1 kl245 ha220 (by rw [kx]; decide) (by rw [kx]; decide), tw_up_n (fun q => absurd (kz244) (by rw [q, kx]; decide))]; exact p223
            rcases hr252 with ei262 | ⟨ei262, ei262b⟩
            · rw [ei262]
              refine tw_if_eq 68 dX10_settle_63 (by decide) (fun c263 => absurd c263 (by decide)) (fun _ => ?_)
              refine tw_iconst (v := 0) dX10_settle_66 (by decide) ?_
              exact tw_iret dX10_settle_67 rfl (Or.inl ⟨_, rfl, sp254⟩)
            · rw [ei262]
              refine tw_if_eq 68 dX10_settle_63 (by decide) (fun _ => ?_) (fun c264 => absurd (by decide) c264)
              refine tw_aload_n 0 dX10_settle_68 rfl rfl ?_
              obtain ⟨e265, f266, th_267, td_268, ds_269, fr_270, ca_271, us_272, wo_273, cm_274, lc_275, lh_276, ld_277, rfl, k278, k279, k280, k281, k282, k283, k284, k285, k286, k287, k288, k289, k290, k291, k292, k293, k294, k295⟩ := sp254.1 x 36 kx (by decide)
              refine tw_get (v := .ref ld_277) rfl in_14 11 dX10_settle_69 w_1162 rfl (by decide) f266 rfl ?_
              refine tw_iload_n 1 dX10_settle_72 rfl rfl ?_
              obtain ⟨e296, f297, ⟨el298, rfl, k299⟩, k300⟩ := sp254.1 ld_277 26 k286 (by decide)
              refine tw_br (tw_callV (M := mX10_settle) (pc := 73) okJx4a65c_get_915e3 dX10_settle_73 w_1296 rfl f297 [.int (nI j192)] [] rfl rfl ⟨by decide, by decide⟩ (Nat.le_of_ble_eq_true rfl) (c26_get d g τ h247 sp254.1 ld_277 k286 j192 (by omega) (by omega)) 0 0 (Nat.le_of_ble_eq_true rfl) (Nat.le_of_ble_eq_true rfl)) (fun r303 h302 q301 => ?_) (fun E h1 q => q.elim)
              obtain ⟨q301e, q301k⟩ := q301
              rw [q301e]
              have q301ky : r303 = r202 := q301k.2.trans (by rw [k300]; exact el259)
              rw [q301ky]
              refine tw_castS (ci := 12) rfl dX10_settle_76 w_1437 f257 ?_
              refine tw_astore_n [(3, .ref r202), (0, .ref x), (1, .int (nI j192)), (2, .int m)] dX10_settle_79 rfl (by decide) rfl ?_
              refine tw_aload_n 1 dX10_settle_80 rfl rfl ?_
              refine tw_aload_n 0 dX10_settle_81 rfl rfl ?_
              refine tw_iload_n 3 dX10_settle_82 rfl rfl ?_
              refine tw_bl (tw_callV (M := mX10_settle) (pc := 83) okX10_toPay dX10_settle_83 w_1467 rfl f266 [.ref r202, .int m] [] rfl rfl ⟨by decide, by decide⟩ (Nat.le_of_ble_eq_true rfl) (c_X10_toPay d g τ h247 sp254.1 x kx r202 q200k.1 m a218 i219 ha220 p260 hi222 p261) 0 0 (Nat.le_of_ble_eq_true rfl) (Nat.le_of_ble_eq_true rfl)) (fun r306 h305 q304 => ?_) (fun E h1 q => q.elim)
              rw [q304]
              refine tw_lstore [(4, .long r306), (3, .ref r202), (0, .ref x), (1, .int (nI j192)), (2, .int m)] dX10_settle_86 (by decide) rfl ?_
              refine tw_aload_n 2 dX10_settle_88 rfl rfl ?_
              refine tw_get (v := .ref lh_276) rfl in_14 10 dX10_settle_89 w_1161 rfl (by decide) f266 rfl ?_
              refine tw_aload_n 1 dX10_settle_92 rfl rfl ?_
              refine tw_get (v := .int (nI i_210)) rfl in_12 0 dX10_settle_93 w_1443 rfl (by decide) f257 rfl ?_
              obtain ⟨e307, f308, ⟨el309, rfl, k310⟩, k311⟩ := sp254.1 lh_276 25 k285 (by decide)
              refine tw_br (tw_callV (M := mX10_settle) (pc := 96) okJx4a65c_get_915e3 dX10_settle_96 w_1296 rfl f308 [.int (nI i_210)] [] rfl rfl ⟨by decide, by decide⟩ (Nat.le_of_ble_eq_true rfl) (c25_get d g τ h247 sp254.1 lh_276 k285 i_210 (by omega) (by omega)) 0 0 (Nat.le_of_ble_eq_true rfl) (Nat.le_of_ble_eq_true rfl)) (fun r314 h313 q312 => ?_) (fun E h1 q => q.elim)
              obtain ⟨q312e, q312k⟩ := q312
              rw [q312e]
              have el315 : tw_el h247 (g.2 13) i_210 = r314 := by rw [← k311]; exact q312k.2.symm
              have kl316 : τ (g.2 13) = 25 := by rw [← k311]; exact k285
              obtain ⟨e317, f318, x_319, y_320, dy_321, p_322, rfl, k323, k324, k325⟩ := sp254.1 r314 23 q312k.1 (by decide)
              refine tw_castS (ci := 13) rfl dX10_settle_99 w_1336 f318 ?_
              refine tw_get (v := .ref p_322) rfl in_13 3 dX10_settle_102 w_1348 rfl (by decide) f318 rfl ?_
              refine tw_iload_n 4 dX10_settle_105 rfl rfl ?_
              refine tw_dup2 dX10_settle_106 rfl rfl ?_
              obtain ⟨e326, f327, F328, rfl⟩ := sp254.1 p_322 31 k323 (by decide)
              obtain ⟨v329, ev329⟩ : ∃ y : Int64, F328 (m).toNatClampNeg = y := ⟨_, rfl⟩
              refine tw_lald (v := v329) dX10_settle_107 f327 (tw_in01 q71m (by decide)) ev329 ?_
              refine tw_lload 0 dX10_settle_108 rfl ?_
              refine tw_lsub dX10_settle_110 ?_
              refine tw_nml (fun v330 ev330 => ?_)
              refine tw_last dX10_settle_111 f327 (tw_in01 q71m (by decide)) ?_
              obtain ⟨h331, eh331⟩ : ∃ z : tw_H, z = tw_up h247 p_322 (.inl (d.2 1, 2, .inr (.inl (vp_updL F328 (m).toNatClampNeg v330)))) := ⟨_, rfl⟩
              rw [← eh331]
              have sp332 : tw_sp d τ h g τ h331 := by rw [eh331]; exact sp254.set k323 (by decide) ⟨_, rfl⟩
              refine tw_aload_n 2 dX10_settle_112 rfl rfl ?_
              obtain ⟨e333, f334, th_335, td_336, ds_337, fr_338, ca_339, us_340, wo_341, cm_342, lc_343, lh_344, ld_345, rfl, k346, k347, k348, k349, k350, k351, k352, k353, k354, k355, k356, k357, k358, k359, k360, k361, k362, k363⟩ := sp332.1 x 36 kx (by decide)
              refine tw_get (v := .ref lh_344) rfl in_14 10 dX10_settle_113 w_1161 rfl (by decide) f334 rfl ?_
              refine tw_aload_n 1 dX10_settle_116 rfl rfl ?_
              obtain ⟨e364, f365, v_366, dy_367, pd_368, i_369, j_370, rfl, k371, k372, k373⟩ := sp332.1 r202 22 q200k.1 (by decide)
              refine tw_get (v := .int (nI j_370)) rfl in_12 1 dX10_settle_117 w_1444 rfl (by decide) f365 rfl ?_
              obtain ⟨e374, f375, ⟨el376, rfl, k377⟩, k378⟩ := sp332.1 lh_344 25 k353 (by decide)
              refine tw_br (tw_callV (M := mX10_settle) (pc := 120) okJx4a65c_get_915e3 dX10_settle_120 w_1296 rfl f375 [.int (nI j_370)] [] rfl rfl ⟨by decide, by decide⟩ (Nat.le_of_ble_eq_true rfl) (c25_get d g τ h331 sp332.1 lh_344 k353 j_370 (by omega) (by omega)) 0 0 (Nat.le_of_ble_eq_true rfl) (Nat.le_of_ble_eq_true rfl)) (fun r381 h380 q379 => ?_) (fun E h1 q => q.elim)
              obtain ⟨q379e, q379k⟩ := q379
              rw [q379e]
              have el382 : tw_el h331 (g.2 13) j_370 = r381 := by rw [← k378]; exact q379k.2.symm
              have kl383 : τ (g.2 13) = 25 := by rw [← k378]; exact k353
              obtain ⟨e384, f385, x_386, y_387, dy_388, p_389, rfl, k390, k391, k392⟩ := sp332.1 r381 23 q379k.1 (by decide)
              refine tw_castS (ci := 13) rfl dX10_settle_123 w_1336 f385 ?_
              refine tw_get (v := .ref p_389) rfl in_13 3 dX10_settle_126 w_1348 rfl (by decide) f385 rfl ?_
              refine tw_iload_n 4 dX10_settle_129 rfl rfl ?_
              refine tw_dup2 dX10_settle_130 rfl rfl ?_
              obtain ⟨e393, f394, F395, rfl⟩ := sp332.1 p_389 31 k390 (by decide)
              obtain ⟨v396, ev396⟩ : ∃ y : Int64, F395 (m).toNatClampNeg = y := ⟨_, rfl⟩
              refine tw_lald (v := v396) dX10_settle_131 f394 (tw_in01 q71m (by decide)) ev396 ?_
              refine tw_lload 0 dX10_settle_132 rfl ?_
              refine tw_ladd dX10_settle_134 ?_
              refine tw_nml (fun v397 ev397 => ?_)
              refine tw_last dX10_settle_135 f394 (tw_in01 q71m (by decide)) ?_
              obtain ⟨h398, eh398⟩ : ∃ z : tw_H, z = tw_up h331 p_389 (.inl (d.2 1, 2, .inr (.inl (vp_updL F395 (m).toNatClampNeg v397)))) := ⟨_, rfl⟩
              rw [← eh398]
              have sp399 : tw_sp d τ h g τ h398 := by rw [eh398]; exact sp332.set k390 (by decide) ⟨_, rfl⟩
              refine tw_aload_n 1 dX10_settle_136 rfl rfl ?_
              refine tw_iconst (v := 1) dX10_settle_137 (by decide) ?_
              obtain ⟨e400, f401, v_402, dy_403, pd_404, i_405, j_406, rfl, k407, k408, k409⟩ := sp399.1 r202 22 q200k.1 (by decide)
              refine tw_put rfl in_12 tyX8 tyX8_ok nmX8 4 dX10_settle_138 w_1447 rfl (by decide) f401 rfl rfl rfl rfl (Nat.le_of_ble_eq_true rfl) [.int (nI i_405), .int (nI j_406), .int v_402, .int dy_403, .int 1] rfl ?_
              obtain ⟨h410, eh410⟩ : ∃ z : tw_H, z = tw_up h398 r202 (.inr (12, [.int (nI i_405), .int (nI j_406), .int v_402, .int dy_403, .int 1])) := ⟨_, rfl⟩
              rw [← eh410]
              have sp411 : tw_sp d τ h g τ h410 := by rw [eh410]; exact sp399.set q200k.1 (by decide) ⟨v_402, dy_403, 1, i_405, j_406, rfl, (by omega), (by omega), (by unfold tw_01; decide)⟩
              have f412 : h410 r202 = some (.inr (12, [.int (nI i_405), .int (nI j_406), .int v_402, .int dy_403, .int 1])) := by rw [eh410]; exact tw_up_s
              refine tw_lload 0 dX10_settle_141 rfl ?_
              refine tw_l2i dX10_settle_143 ?_
              refine tw_nmi (fun v413 ev413 => ?_)
              exact tw_iret dX10_settle_144 rfl (Or.inl ⟨_, rfl, sp411⟩)

set_option maxHeartbeats 4000000 in
set_option maxRecDepth 100000 in
theorem c_X10_cheaper (d : tw_D) (g : tw_G) (τ : tw_K) (h : tw_H) (hw : tw_wt d g τ h) (x : Nat) (kx : τ x = 36) (y : Nat) (ky : τ y = 22) : tw_Ct d mX10_cheaper 0 0 [.ref x, .ref y] h (tw_qi (fun r h1 => h1 = h) tw_nx) := by
  refine tw_of (by decide +kernel) (Nat.le_of_ble_eq_true rfl) ?_
  show tw_W d mX10_cheaper _ 0 [(0, .ref x), (1, .ref y)] [] h 0 0
  have sp0 := tw_sp.rf hw
  refine tw_aload_n 1 dX10_cheaper_0 rfl rfl ?_
  obtain ⟨e1, f2, v_3, dy_4, pd_5, i_6, j_7, rfl, k8, k9, k10⟩ := sp0.1 y 22 ky (by decide)
  refine tw_get (v := .int pd_5) rfl in_12 4 dX10_cheaper_1 w_1447 rfl (by decide) f2 rfl ?_
  refine tw_if_ne 28 dX10_cheaper_4 (by decide) (fun c11 => ?_) (fun c11 => ?_)
  · refine tw_iconst (v := -1) dX10_cheaper_28 (by decide) ?_
    exact tw_iret dX10_cheaper_29 rfl (Or.inl ⟨_, rfl, rfl⟩)
  · refine tw_aload_n 0 dX10_cheaper_7 rfl rfl ?_
    obtain ⟨e12, f13, th_14, td_15, ds_16, fr_17, ca_18, us_19, wo_20, cm_21, lc_22, lh_23, ld_24, rfl, k25, k26, k27, k28, k29, k30, k31, k32, k33, k34, k35, k36, k37, k38, k39, k40, k41, k42⟩ := sp0.1 x 36 kx (by decide)
    refine tw_get (v := .ref lh_23) rfl in_14 10 dX10_cheaper_8 w_1161 rfl (by decide) f13 rfl ?_
    refine tw_aload_n 1 dX10_cheaper_11 rfl rfl ?_
    refine tw_get (v := .int (nI i_6)) rfl in_12 0 dX10_cheaper_12 w_1443 rfl (by decide) f2 rfl ?_
    obtain ⟨e43, f44, ⟨el45, rfl, k46⟩, k47⟩ := sp0.1 lh_23 25 k32 (by decide)
    refine tw_br (tw_callV (M := mX10_cheaper) (pc := 15) okJx4a65c_get_915e3 dX10_cheaper_15 w_1296 rfl f44 [.int (nI i_6)] [] rfl rfl ⟨by decide, by decide⟩ (Nat.le_of_ble_eq_true rfl) (c25_get d g τ h sp0.1 lh_23 k32 i_6 (by omega) (by omega)) 0 0 (Nat.le_of_ble_eq_true rfl) (Nat.le_of_ble_eq_true rfl)) (fun r50 h49 q48 => ?_) (fun E h1 q => q.elim)
    obtain ⟨q48e, q48k⟩ := q48
    rw [q48e]
    have el51 : tw_el h (g.2 13) i_6 = r50 := by rw [← k47]; exact q48k.2.symm
    have kl52 : τ (g.2 13) = 25 := by rw [← k47]; exact k32
    obtain ⟨e53, f54, x_55, y_56, dy_57, p_58, rfl, k59, k60, k61⟩ := sp0.1 r50 23 q48k.1 (by decide)
    refine tw_castS (ci := 13) rfl dX10_cheaper_18 w_1336 f54 ?_
    refine tw_get (v := .int x_55) rfl in_13 0 dX10_cheaper_21 w_1342 rfl (by decide) f54 rfl ?_
    refine tw_iconst (v := -1) dX10_cheaper_24 (by decide) ?_
    refine tw_icmp_ne 30 dX10_cheaper_25 (by decide) (fun c62 => ?_) (fun c62 => ?_)
    · refine tw_aload_n 0 dX10_cheaper_30 rfl rfl ?_
      refine tw_aload_n 1 dX10_cheaper_31 rfl rfl ?_
      refine tw_iconst (v := 0) dX10_cheaper_32 (by decide) ?_
      obtain ⟨j63, hj64, ej65⟩ := k60.resolve_left c62
      subst ej65
      refine tw_bl (tw_callV (M := mX10_cheaper) (pc := 33) okX10_toPay dX10_cheaper_33 w_1467 rfl f13 [.ref y, .int 0] [] rfl rfl ⟨by decide, by decide⟩ (Nat.le_of_ble_eq_true rfl) (c_X10_toPay d g τ h sp0.1 x kx y ky 0 i_6 j63 (by omega) (by rw [f2]; rfl) (by omega) (by rw [el51, f54]; rfl)) 0 0 (Nat.le_of_ble_eq_true rfl) (Nat.le_of_ble_eq_true rfl)) (fun r68 h67 q66 => ?_) (fun E h1 q => q.elim)
      rw [q66]
      refine tw_aload_n 0 dX10_cheaper_36 rfl rfl ?_
      refine tw_get (v := .int (g.1 1)) rfl in_14 2 dX10_cheaper_37 w_1153 rfl (by decide) f13 rfl ?_
      refine tw_i2l dX10_cheaper_40 ?_
      refine tw_nml (fun v69 ev69 => ?_)
      refine tw_lmul dX10_cheaper_41 ?_
      refine tw_nml (fun v70 ev70 => ?_)
      refine tw_ldc2 (v := 10) dX10_cheaper_42 w_1373 ?_
      refine tw_ldiv dX10_cheaper_45 (by decide) ?_
      refine tw_nml (fun v71 ev71 => ?_)
      refine tw_aload_n 0 dX10_cheaper_46 rfl rfl ?_
      refine tw_aload_n 1 dX10_cheaper_47 rfl rfl ?_
      refine tw_iconst (v := 1) dX10_cheaper_48 (by decide) ?_
      refine tw_bl (tw_callV (M := mX10_cheaper) (pc := 49) okX10_toPay dX10_cheaper_49 w_1467 rfl f13 [.ref y, .int 1] [.long v71] rfl rfl ⟨by decide, by decide⟩ (Nat.le_of_ble_eq_true rfl) (c_X10_toPay d g τ h sp0.1 x kx y ky 1 i_6 j63 (by omega) (by rw [f2]; rfl) (by omega) (by rw [el51, f54]; rfl)) 0 0 (Nat.le_of_ble_eq_true rfl) (Nat.le_of_ble_eq_true rfl)) (fun r74 h73 q72 => ?_) (fun E h1 q => q.elim)
      rw [q72]
      refine tw_lcmp dX10_cheaper_52 ?_
      refine tw_nmi (fun v75 ev75 => ?_)
      refine tw_if_ge 60 dX10_cheaper_53 (by decide) (fun c76 => ?_) (fun c76 => ?_)
      · refine tw_iconst (v := 1) dX10_cheaper_60 (by decide) ?_
        exact tw_iret dX10_cheaper_61 rfl (Or.inl ⟨_, rfl, rfl⟩)
      · refine tw_iconst (v := 0) dX10_cheaper_56 (by decide) ?_
        refine tw_goto 61 dX10_cheaper_57 (by decide) ?_
        exact tw_iret dX10_cheaper_61 rfl (Or.inl ⟨_, rfl, rfl⟩)
    · refine tw_iconst (v := -1) dX10_cheaper_28 (by decide) ?_
      exact tw_iret dX10_cheaper_29 rfl (Or.inl ⟨_, rfl, rfl⟩)

set_option maxHeartbeats 4000000 in
set_option maxRecDepth 100000 in
theorem c_X10_tripNow (d : tw_D) (g : tw_G) (τ : tw_K) (h : tw_H) (hw : tw_wt d g τ h) (x : Nat) (kx : τ x = 36) (m : Int32) (gr : Int64) (a b : Nat) (ha : a < g.2 3) (hb : b < g.2 3) : tw_Ct d mX10_tripNow 0 0 [.ref x, .int (nI a), .int (nI b), .int m, .long gr] h (tw_ql (fun r h1 => h1 = h) tw_nx) := by
  refine tw_of (by decide +kernel) (Nat.le_of_ble_eq_true rfl) ?_
  show tw_W d mX10_tripNow _ 0 [(0, .ref x), (1, .int (nI a)), (2, .int (nI b)), (3, .int m), (4, .long gr)] [] h 0 0
  have sp0 := tw_sp.rf hw
  refine tw_aload_n 0 dX10_tripNow_0 rfl rfl ?_
  obtain ⟨e1, f2, th_3, td_4, ds_5, fr_6, ca_7, us_8, wo_9, cm_10, lc_11, lh_12, ld_13, rfl, k14, k15, k16, k17, k18, k19, k20, k21, k22, k23, k24, k25, k26, k27, k28, k29, k30, k31⟩ := sp0.1 x 36 kx (by decide)
  refine tw_get (v := .ref lc_11) rfl in_14 9 dX10_tripNow_1 w_1160 rfl (by decide) f2 rfl ?_
  refine tw_iload_n 1 dX10_tripNow_4 rfl rfl ?_
  obtain ⟨e32, f33, ⟨el34, rfl, k35⟩, k36⟩ := sp0.1 lc_11 24 k20 (by decide)
  refine tw_br (tw_callV (M := mX10_tripNow) (pc := 5) okJx4a65c_get_915e3 dX10_tripNow_5 w_1296 rfl f33 [.int (nI a)] [] rfl rfl ⟨by decide, by decide⟩ (Nat.le_of_ble_eq_true rfl) (c24_get d g τ h sp0.1 lc_11 k20 a (by omega) (by omega)) 0 0 (Nat.le_of_ble_eq_true rfl) (Nat.le_of_ble_eq_true rfl)) (fun r39 h38 q37 => ?_) (fun E h1 q => q.elim)
  obtain ⟨q37e, q37k⟩ := q37
  rw [q37e]
  have el40 : tw_el h (g.2 12) a = r39 := by rw [← k36]; exact q37k.2.symm
  have kl41 : τ (g.2 12) = 24 := by rw [← k36]; exact k20
  obtain ⟨e42, f43, r_44, c_45, v_46, o_47, t_48, rfl, k49, k50, k51, k52, k53, k54⟩ := sp0.1 r39 21 q37k.1 (by decide)
  refine tw_castS (ci := 11) rfl dX10_tripNow_8 w_1212 f43 ?_
  refine tw_iload_n 3 dX10_tripNow_11 rfl rfl ?_
  refine tw_lload 4 dX10_tripNow_12 rfl ?_
  refine tw_bl (tw_callS (M := mX10_tripNow) (pc := 14) okX10_given dX10_tripNow_14 w_1370 [.ref r39, .int m, .long gr] [] rfl rfl ⟨by decide, by decide⟩ (Nat.le_of_ble_eq_true rfl) (c_X10_given d g τ h sp0.1 r39 q37k.1 m gr) 0 0 (Nat.le_of_ble_eq_true rfl) (Nat.le_of_ble_eq_true rfl)) (fun r57 h56 q55 => ?_) (fun E h1 q => q.elim)
  rw [q55]
  refine tw_lstore [(6, .long r57), (0, .ref x), (1, .int (nI a)), (2, .int (nI b)), (3, .int m), (4, .long gr)] dX10_tripNow_17 (by decide) rfl ?_
  refine tw_lload 0 dX10_tripNow_19 rfl ?_
  refine tw_lload 0 dX10_tripNow_21 rfl ?_
  refine tw_aload_n 1 dX10_tripNow_23 rfl rfl ?_
  refine tw_get (v := .ref fr_6) rfl in_14 4 dX10_tripNow_24 w_1155 rfl (by decide) f2 rfl ?_
  refine tw_iload_n 2 dX10_tripNow_27 rfl rfl ?_
  obtain ⟨e60, f61, F58, rfl, k59⟩ := sp0.1 fr_6 34 k15 (by decide)
  obtain ⟨q62, k63, k64, iq65⟩ := k59 ((nI a)).toNatClampNeg (by rw [nI_clamp (by omega)]; omega)
  refine tw_aald (v := .ref q62) 8 rfl rfl dX10_tripNow_28 f61 (vp_in_nI (by omega) (by decide)) (by rw [k63]; rfl) ?_
  refine tw_iload_n 3 dX10_tripNow_29 rfl rfl ?_
  obtain ⟨e66, f67, F68, rfl, pf69⟩ := sp0.1 q62 6 k64 (by decide)
  obtain ⟨v70, ev70⟩ : ∃ y : Int32, F68 ((nI b)).toNatClampNeg = y := ⟨_, rfl⟩
  refine tw_iald (v := v70) dX10_tripNow_30 f67 (vp_in_nI (by omega) (by decide)) ev70 ?_
  refine tw_i2l dX10_tripNow_31 ?_
  refine tw_nml (fun v71 ev71 => ?_)
  refine tw_lmul dX10_tripNow_32 ?_
  refine tw_nml (fun v72 ev72 => ?_)
  refine tw_ldc2 (v := 1000) dX10_tripNow_33 w_1374 ?_
  refine tw_bl (tw_callS (M := mX10_tripNow) (pc := 36) okX10_up dX10_tripNow_36 w_1375 [.long v72, .long 1000] [.long r57] rfl rfl ⟨by decide, by decide⟩ (Nat.le_of_ble_eq_true rfl) (c_X10_up d g τ h sp0.1 v72 1000 (by decide)) 0 0 (Nat.le_of_ble_eq_true rfl) (Nat.le_of_ble_eq_true rfl)) (fun r75 h74 q73 => ?_) (fun E h1 q => q.elim)
  rw [q73]
  refine tw_lsub dX10_tripNow_39 ?_
  refine tw_nml (fun v76 ev76 => ?_)
  refine tw_lstore [(6, .long v76), (0, .ref x), (1, .int (nI a)), (2, .int (nI b)), (3, .int m), (4, .long gr)] dX10_tripNow_40 (by decide) rfl ?_
  refine tw_aload_n 1 dX10_tripNow_42 rfl rfl ?_
  refine tw_get (v := .ref lc_11) rfl in_14 9 dX10_tripNow_43 w_1160 rfl (by decide) f2 rfl ?_
  refine tw_iload_n 3 dX10_tripNow_46 rfl rfl ?_
  refine tw_br (tw_callV (M := mX10_tripNow) (pc := 47) okJx4a65c_get_915e3 dX10_tripNow_47 w_1296 rfl f33 [.int (nI b)] [] rfl rfl ⟨by decide, by decide⟩ (Nat.le_of_ble_eq_true rfl) (c24_get d g τ h sp0.1 lc_11 k20 b (by omega) (by omega)) 0 0 (Nat.le_of_ble_eq_true rfl) (Nat.le_of_ble_eq_true rfl)) (fun r79 h78 q77 => ?_) (fun E h1 q => q.elim)
  obtain ⟨q77e, q77k⟩ := q77
  rw [q77e]
  have el80 : tw_el h (g.2 12) b = r79 := by rw [← k36]; exact q77k.2.symm
  have kl81 : τ (g.2 12) = 24 := by rw [← k36]; exact k20
  obtain ⟨e82, f83, r_84, c_85, v_86, o_87, t_88, rfl, k89, k90, k91, k92, k93, k94⟩ := sp0.1 r79 21 q77k.1 (by decide)
  refine tw_castS (ci := 11) rfl dX10_tripNow_50 w_1212 f83 ?_
  refine tw_iconst (v := 1) dX10_tripNow_53 (by decide) ?_
  refine tw_iload_n 4 dX10_tripNow_54 rfl rfl ?_
  refine tw_isub dX10_tripNow_55 ?_
  refine tw_nmi (fun v95 ev95 => ?_)
  refine tw_lload 0 dX10_tripNow_56 rfl ?_
  refine tw_bl (tw_callS (M := mX10_tripNow) (pc := 58) okX10_given dX10_tripNow_58 w_1370 [.ref r79, .int v95, .long v76] [] rfl rfl ⟨by decide, by decide⟩ (Nat.le_of_ble_eq_true rfl) (c_X10_given d g τ h sp0.1 r79 q77k.1 v95 v76) 0 0 (Nat.le_of_ble_eq_true rfl) (Nat.le_of_ble_eq_true rfl)) (fun r98 h97 q96 => ?_) (fun E h1 q => q.elim)
  rw [q96]
  refine tw_lstore [(8, .long r98), (6, .long v76), (0, .ref x), (1, .int (nI a)), (2, .int (nI b)), (3, .int m), (4, .long gr)] dX10_tripNow_61 (by decide) rfl ?_
  refine tw_lload 0 dX10_tripNow_63 rfl ?_
  refine tw_lload 0 dX10_tripNow_65 rfl ?_
  refine tw_aload_n 2 dX10_tripNow_67 rfl rfl ?_
  refine tw_get (v := .ref fr_6) rfl in_14 4 dX10_tripNow_68 w_1155 rfl (by decide) f2 rfl ?_
  refine tw_iload_n 4 dX10_tripNow_71 rfl rfl ?_
  obtain ⟨q99, k100, k101, iq102⟩ := k59 ((nI b)).toNatClampNeg (by rw [nI_clamp (by omega)]; omega)
  refine tw_aald (v := .ref q99) 8 rfl rfl dX10_tripNow_72 f61 (vp_in_nI (by omega) (by decide)) (by rw [k100]; rfl) ?_
  refine tw_iload_n 3 dX10_tripNow_73 rfl rfl ?_
  obtain ⟨e103, f104, F105, rfl, pf106⟩ := sp0.1 q99 6 k101 (by decide)
  obtain ⟨v107, ev107⟩ : ∃ y : Int32, F105 ((nI a)).toNatClampNeg = y := ⟨_, rfl⟩
  refine tw_iald (v := v107) dX10_tripNow_74 f104 (vp_in_nI (by omega) (by decide)) ev107 ?_
  refine tw_i2l dX10_tripNow_75 ?_
  refine tw_nml (fun v108 ev108 => ?_)
  refine tw_lmul dX10_tripNow_76 ?_
  refine tw_nml (fun v109 ev109 => ?_)
  refine tw_ldc2 (v := 1000) dX10_tripNow_77 w_1374 ?_
  refine tw_bl (tw_callS (M := mX10_tripNow) (pc := 80) okX10_up dX10_tripNow_80 w_1375 [.long v109, .long 1000] [.long r98] rfl rfl ⟨by decide, by decide⟩ (Nat.le_of_ble_eq_true rfl) (c_X10_up d g τ h sp0.1 v109 1000 (by decide)) 0 0 (Nat.le_of_ble_eq_true rfl) (Nat.le_of_ble_eq_true rfl)) (fun r112 h111 q110 => ?_) (fun E h1 q => q.elim)
  rw [q110]
  refine tw_lsub dX10_tripNow_83 ?_
  refine tw_nml (fun v113 ev113 => ?_)
  exact tw_lret dX10_tripNow_84 rfl (Or.inl ⟨_, rfl, rfl⟩)

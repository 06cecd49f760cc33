/-! the class's methods over the typed heap. Laid by wip/p5/mkclass.py. -/
set_option maxHeartbeats 4000000 in
set_option maxRecDepth 100000 in
theorem c_X10_isNoChange (d : tw_D) (g : tw_G) (τ : tw_K) (h : tw_H) (hw : tw_wt d g τ h) (x : Nat) (kx : τ x = 36) (y : Nat) (ky : τ y = 23) (m : Int32) (gr : Int32) (hm : m = 0 ∨ m = 1) : tw_Ct d mX10_isNoChange 0 0 [.ref x, .ref y, .int m, .int gr] h (tw_qi (fun r h1 => h1 = h ∧ (r = 1 ∨ r = 0 ∧ ∃ i, i < g.2 3 ∧ tw_th (h y) = nI i)) tw_nx) := by
  refine tw_of (by decide +kernel) (Nat.le_of_ble_eq_true rfl) ?_
  show tw_W d mX10_isNoChange _ 0 [(0, .ref x), (1, .ref y), (2, .int m), (3, .int gr)] [] h 0 0
  have sp0 := tw_sp.rf hw
  refine tw_aload_n 1 dX10_isNoChange_0 rfl rfl ?_
  obtain ⟨e1, f2, x_3, y_4, dy_5, p_6, rfl, k7, k8, k9⟩ := sp0.1 y 23 ky (by decide)
  refine tw_get (v := .int x_3) rfl in_13 0 dX10_isNoChange_1 w_1342 rfl (by decide) f2 rfl ?_
  refine tw_iconst (v := -1) dX10_isNoChange_4 (by decide) ?_
  refine tw_icmp_eq 20 dX10_isNoChange_5 (by decide) (fun c10 => ?_) (fun c10 => ?_)
  · refine tw_iconst (v := 1) dX10_isNoChange_20 (by decide) ?_
    exact tw_zret dX10_isNoChange_21 rfl rfl (Or.inl ⟨_, rfl, ⟨rfl, (Or.inl rfl)⟩⟩)
  · refine tw_aload_n 1 dX10_isNoChange_8 rfl rfl ?_
    refine tw_get (v := .ref p_6) rfl in_13 3 dX10_isNoChange_9 w_1348 rfl (by decide) f2 rfl ?_
    refine tw_iload_n 2 dX10_isNoChange_12 rfl rfl ?_
    obtain ⟨e11, f12, F13, rfl⟩ := sp0.1 p_6 31 k7 (by decide)
    obtain ⟨v14, ev14⟩ : ∃ y : Int64, F13 (m).toNatClampNeg = y := ⟨_, rfl⟩
    refine tw_lald (v := v14) dX10_isNoChange_13 f12 (tw_in01 hm (by decide)) ev14 ?_
    refine tw_iload_n 3 dX10_isNoChange_14 rfl rfl ?_
    refine tw_i2l dX10_isNoChange_15 ?_
    refine tw_nml (fun v15 ev15 => ?_)
    refine tw_lcmp dX10_isNoChange_16 ?_
    refine tw_nmi (fun v16 ev16 => ?_)
    refine tw_if_ge 22 dX10_isNoChange_17 (by decide) (fun c17 => ?_) (fun c17 => ?_)
    · refine tw_aload_n 0 dX10_isNoChange_22 rfl rfl ?_
      obtain ⟨e18, f19, th_20, td_21, ds_22, fr_23, ca_24, us_25, wo_26, cm_27, lc_28, lh_29, ld_30, rfl, k31, k32, k33, k34, k35, k36, k37, k38, k39, k40, k41, k42, k43, k44, k45, k46⟩ := sp0.1 x 36 kx (by decide)
      refine tw_get (v := .ref lc_28) rfl in_14 9 dX10_isNoChange_23 w_1160 rfl (by decide) f19 rfl ?_
      refine tw_aload_n 1 dX10_isNoChange_26 rfl rfl ?_
      refine tw_get (v := .int x_3) rfl in_13 0 dX10_isNoChange_27 w_1342 rfl (by decide) f2 rfl ?_
      obtain ⟨j47, hj48, ej49⟩ := k8.resolve_left c10
      subst ej49
      obtain ⟨e50, f51, ⟨el52, rfl, k53⟩, k54⟩ := sp0.1 lc_28 24 k37 (by decide)
      refine tw_br (tw_callV (M := mX10_isNoChange) (pc := 30) okJx4a65c_get_915e3 dX10_isNoChange_30 w_1296 rfl f51 [.int (nI j47)] [] rfl rfl ⟨by decide, by decide⟩ (Nat.le_of_ble_eq_true rfl) (c24_get d g τ h sp0.1 lc_28 k37 j47 (by omega) (by omega)) 0 0 (Nat.le_of_ble_eq_true rfl) (Nat.le_of_ble_eq_true rfl)) (fun r57 h56 q55 => ?_) (fun E h1 q => q.elim)
      obtain ⟨q55e, q55k⟩ := q55
      rw [q55e]
      have el58 : tw_el h (g.2 12) j47 = r57 := by rw [← k54]; exact q55k.2.symm
      have kl59 : τ (g.2 12) = 24 := by rw [← k54]; exact k37
      obtain ⟨e60, f61, r_62, c_63, v_64, o_65, t_66, rfl, k67, k68, k69, k70, k71⟩ := sp0.1 r57 21 q55k.1 (by decide)
      refine tw_castS (ci := 11) rfl dX10_isNoChange_33 w_1212 f61 ?_
      refine tw_astore [(4, .ref r57), (0, .ref x), (1, .ref y), (2, .int m), (3, .int gr)] dX10_isNoChange_36 (by decide) rfl ?_
      refine tw_aload 0 dX10_isNoChange_38 rfl ?_
      refine tw_get (v := .ref o_65) rfl in_11 3 dX10_isNoChange_40 w_1223 rfl (by decide) f61 rfl ?_
      refine tw_iload_n 3 dX10_isNoChange_43 rfl rfl ?_
      obtain ⟨e72, f73, F74, rfl, k75⟩ := sp0.1 o_65 32 k68 (by decide)
      obtain ⟨v76, ev76⟩ : ∃ y : Int32, F74 (m).toNatClampNeg = y := ⟨_, rfl⟩
      refine tw_zald (v := v76) dX10_isNoChange_44 f73 (tw_in01 hm (by decide)) ev76 ?_
      refine tw_if_eq 69 dX10_isNoChange_45 (by decide) (fun c77 => ?_) (fun c77 => ?_)
      · refine tw_iconst (v := 1) dX10_isNoChange_69 (by decide) ?_
        refine tw_goto 74 dX10_isNoChange_70 (by decide) ?_
        exact tw_zret dX10_isNoChange_74 rfl rfl (Or.inl ⟨_, rfl, ⟨rfl, (Or.inl rfl)⟩⟩)
      · refine tw_aload 0 dX10_isNoChange_48 rfl ?_
        refine tw_get (v := .ref v_64) rfl in_11 2 dX10_isNoChange_50 w_1221 rfl (by decide) f61 rfl ?_
        refine tw_iconst (v := 1) dX10_isNoChange_53 (by decide) ?_
        refine tw_iload_n 3 dX10_isNoChange_54 rfl rfl ?_
        refine tw_isub dX10_isNoChange_55 ?_
        refine tw_nmi (fun v78 ev78 => ?_)
        obtain ⟨e79, f80, F81, rfl⟩ := sp0.1 v_64 31 k67 (by decide)
        obtain ⟨v82, ev82⟩ : ∃ y : Int64, F81 (v78).toNatClampNeg = y := ⟨_, rfl⟩
        refine tw_lald (v := v82) dX10_isNoChange_56 f80 (tw_in01 (tw_1m hm ev78) (by decide)) ev82 ?_
        refine tw_aload 0 dX10_isNoChange_57 rfl ?_
        refine tw_iload_n 3 dX10_isNoChange_59 rfl rfl ?_
        refine tw_iload_n 4 dX10_isNoChange_60 rfl rfl ?_
        refine tw_i2l dX10_isNoChange_61 ?_
        refine tw_nml (fun v83 ev83 => ?_)
        refine tw_bl (tw_callS (M := mX10_isNoChange) (pc := 62) okX10_given dX10_isNoChange_62 w_1370 [.ref r57, .int m, .long v83] [.long v82] rfl rfl ⟨by decide, by decide⟩ (Nat.le_of_ble_eq_true rfl) (c_X10_given d g τ h sp0.1 r57 q55k.1 m v83) 0 0 (Nat.le_of_ble_eq_true rfl) (Nat.le_of_ble_eq_true rfl)) (fun r86 h85 q84 => ?_) (fun E h1 q => q.elim)
        rw [q84]
        refine tw_lcmp dX10_isNoChange_65 ?_
        refine tw_nmi (fun v87 ev87 => ?_)
        refine tw_if_ge 73 dX10_isNoChange_66 (by decide) (fun c88 => ?_) (fun c88 => ?_)
        · refine tw_iconst (v := 0) dX10_isNoChange_73 (by decide) ?_
          exact tw_zret dX10_isNoChange_74 rfl rfl (Or.inl ⟨_, rfl, ⟨rfl, (Or.inr ⟨rfl, j47, by omega, by rw [f2]; rfl⟩)⟩⟩)
        · refine tw_iconst (v := 1) dX10_isNoChange_69 (by decide) ?_
          refine tw_goto 74 dX10_isNoChange_70 (by decide) ?_
          exact tw_zret dX10_isNoChange_74 rfl rfl (Or.inl ⟨_, rfl, ⟨rfl, (Or.inl rfl)⟩⟩)
    · refine tw_iconst (v := 1) dX10_isNoChange_20 (by decide) ?_
      exact tw_zret dX10_isNoChange_21 rfl rfl (Or.inl ⟨_, rfl, ⟨rfl, (Or.inl rfl)⟩⟩)

set_option maxHeartbeats 4000000 in
set_option maxRecDepth 100000 in
theorem c_X10_change (d : tw_D) (g : tw_G) (τ : tw_K) (h : tw_H) (hw : tw_wt d g τ h) (x : Nat) (kx : τ x = 36) (n : Int32) (m : Int32) (gr : Int32) : tw_Ct d mX10_change 0 0 [.ref x, .int n, .int m, .int gr] h (tw_qi (fun r h1 => tw_sp d τ h g τ h1) tw_nx) := by
  refine tw_of (by decide +kernel) (Nat.le_of_ble_eq_true rfl) ?_
  show tw_W d mX10_change _ 0 [(0, .ref x), (1, .int n), (2, .int m), (3, .int gr)] [] h 0 0
  have sp0 := tw_sp.rf hw
  refine tw_aload_n 0 dX10_change_0 rfl rfl ?_
  refine tw_aload_n 0 dX10_change_1 rfl rfl ?_
  refine tw_iload_n 1 dX10_change_2 rfl rfl ?_
  obtain ⟨e1, f2, th_3, td_4, ds_5, fr_6, ca_7, us_8, wo_9, cm_10, lc_11, lh_12, ld_13, rfl, k14, k15, k16, k17, k18, k19, k20, k21, k22, k23, k24, k25, k26, k27, k28, k29⟩ := sp0.1 x 36 kx (by decide)
  refine tw_bi (tw_callV (M := mX10_change) (pc := 3) okX10_isNoHouse dX10_change_3 w_1362 rfl f2 [.int n] [.ref x] rfl rfl ⟨by decide, by decide⟩ (Nat.le_of_ble_eq_true rfl) (c_X10_isNoHouse d g τ h sp0.1 x kx n) 0 0 (Nat.le_of_ble_eq_true rfl) (Nat.le_of_ble_eq_true rfl)) (fun r32 h31 q30 => ?_) (fun E h1 q => q.elim)
  obtain ⟨q30e, q30d⟩ := q30
  rw [q30e]
  rcases q30d with q30r | ⟨q30r, j33, q30j, q30k⟩
  · rw [q30r]
    refine tw_iconst (v := 1) dX10_change_6 (by decide) ?_
    refine tw_bi (tw_callV (M := mX10_change) (pc := 7) okX10_start dX10_change_7 w_1200 rfl f2 [.int 1, .int 1] [] rfl rfl ⟨by decide, by decide⟩ (Nat.le_of_ble_eq_true rfl) (c_X10_start d g τ h sp0.1 x kx 1 1 (by decide)) 0 0 (Nat.le_of_ble_eq_true rfl) (Nat.le_of_ble_eq_true rfl)) (fun r36 h35 q34 => ?_) (fun E h1 q => q.elim)
    obtain ⟨e37, he38, hs39, hr40, h341⟩ := q34
    have sp42 : tw_sp d τ h g τ h35 := by rw [he38]; exact sp0.set kx (by decide) hs39
    rcases hr40 with ei43 | ⟨ei43, ei43b⟩
    · rw [ei43]
      refine tw_if_ne 68 dX10_change_10 (by decide) (fun _ => ?_) (fun c44 => absurd c44 (by decide))
      refine tw_iconst (v := 0) dX10_change_68 (by decide) ?_
      exact tw_iret dX10_change_69 rfl (Or.inl ⟨_, rfl, sp42⟩)
    · exact absurd ei43b (by decide)
  · rw [q30r]
    subst q30k
    refine tw_iconst (v := 1) dX10_change_6 (by decide) ?_
    refine tw_bi (tw_callV (M := mX10_change) (pc := 7) okX10_start dX10_change_7 w_1200 rfl f2 [.int 0, .int 1] [] rfl rfl ⟨by decide, by decide⟩ (Nat.le_of_ble_eq_true rfl) (c_X10_start d g τ h sp0.1 x kx 0 1 (by decide)) 0 0 (Nat.le_of_ble_eq_true rfl) (Nat.le_of_ble_eq_true rfl)) (fun r47 h46 q45 => ?_) (fun E h1 q => q.elim)
    obtain ⟨e48, he49, hs50, hr51, h352⟩ := q45
    have sp53 : tw_sp d τ h g τ h46 := by rw [he49]; exact sp0.set kx (by decide) hs50
    rcases hr51 with ei54 | ⟨ei54, ei54b⟩
    · rw [ei54]
      refine tw_if_ne 68 dX10_change_10 (by decide) (fun _ => ?_) (fun c55 => absurd c55 (by decide))
      refine tw_iconst (v := 0) dX10_change_68 (by decide) ?_
      exact tw_iret dX10_change_69 rfl (Or.inl ⟨_, rfl, sp53⟩)
    · rw [ei54]
      refine tw_if_ne 68 dX10_change_10 (by decide) (fun c56 => absurd (by decide) c56) (fun _ => ?_)
      refine tw_aload_n 0 dX10_change_13 rfl rfl ?_
      refine tw_iload_n 2 dX10_change_14 rfl rfl ?_
      refine tw_bi (tw_callS (M := mX10_change) (pc := 15) okX10_isNoMetal dX10_change_15 w_1312 [.int m] [.ref x] rfl rfl ⟨by decide, by decide⟩ (Nat.le_of_ble_eq_true rfl) (c_X10_isNoMetal d g τ h46 sp53.1 m) 0 0 (Nat.le_of_ble_eq_true rfl) (Nat.le_of_ble_eq_true rfl)) (fun r59 h58 q57 => ?_) (fun E h1 q => q.elim)
      obtain ⟨q57e, q57d⟩ := q57
      rw [q57e]
      rcases q57d with q57r | ⟨q57r, q57m⟩
      · rw [q57r]
        refine tw_if_ne 31 dX10_change_18 (by decide) (fun _ => ?_) (fun c60 => absurd c60 (by decide))
        refine tw_iconst (v := 1) dX10_change_31 (by decide) ?_
        refine tw_goto 36 dX10_change_32 (by decide) ?_
        refine tw_iconst (v := 2) dX10_change_36 (by decide) ?_
        obtain ⟨e61, f62, th_63, td_64, ds_65, fr_66, ca_67, us_68, wo_69, cm_70, lc_71, lh_72, ld_73, rfl, k74, k75, k76, k77, k78, k79, k80, k81, k82, k83, k84, k85, k86, k87, k88, k89⟩ := sp53.1 x 36 kx (by decide)
        refine tw_bi (tw_callV (M := mX10_change) (pc := 37) okX10_refuse dX10_change_37 w_1204 rfl f62 [.int 1, .int 2] [] rfl rfl ⟨by decide, by decide⟩ (Nat.le_of_ble_eq_true rfl) (c_X10_refuse d g τ h46 sp53.1 x kx 1 2 (by decide)) 0 0 (Nat.le_of_ble_eq_true rfl) (Nat.le_of_ble_eq_true rfl)) (fun r92 h91 q90 => ?_) (fun E h1 q => q.elim)
        obtain ⟨e93, he94, hs95, hr96, h397⟩ := q90
        have sp98 : tw_sp d τ h g τ h91 := by rw [he94]; exact sp53.set kx (by decide) hs95
        rcases hr96 with ei99 | ⟨ei99, ei99b⟩
        · rw [ei99]
          refine tw_if_ne 68 dX10_change_40 (by decide) (fun _ => ?_) (fun c100 => absurd c100 (by decide))
          refine tw_iconst (v := 0) dX10_change_68 (by decide) ?_
          exact tw_iret dX10_change_69 rfl (Or.inl ⟨_, rfl, sp98⟩)
        · exact absurd ei99b (by decide)
      · rw [q57r]
        refine tw_if_ne 31 dX10_change_18 (by decide) (fun c101 => absurd (by decide) c101) (fun _ => ?_)
        refine tw_iload_n 3 dX10_change_21 rfl rfl ?_
        refine tw_iconst (v := 1) dX10_change_22 (by decide) ?_
        refine tw_ldc (v := 99999) dX10_change_23 w_1199 ?_
        refine tw_bi (tw_callS (M := mX10_change) (pc := 25) okX10_isIn dX10_change_25 w_1196 [.int gr, .int 1, .int 99999] [.ref x] rfl rfl ⟨by decide, by decide⟩ (Nat.le_of_ble_eq_true rfl) (c_X10_isIn d g τ h46 sp53.1 gr 1 99999) 0 0 (Nat.le_of_ble_eq_true rfl) (Nat.le_of_ble_eq_true rfl)) (fun r104 h103 q102 => ?_) (fun E h1 q => q.elim)
        obtain ⟨q102e, q102d⟩ := q102
        rw [q102e]
        rcases q102d with ⟨q102r, q102n⟩ | ⟨q102r, q102a, q102b⟩
        · rw [q102r]
          refine tw_if_ne 35 dX10_change_28 (by decide) (fun c105 => absurd (by decide) c105) (fun _ => ?_)
          refine tw_iconst (v := 1) dX10_change_31 (by decide) ?_
          refine tw_goto 36 dX10_change_32 (by decide) ?_
          refine tw_iconst (v := 2) dX10_change_36 (by decide) ?_
          obtain ⟨e106, f107, th_108, td_109, ds_110, fr_111, ca_112, us_113, wo_114, cm_115, lc_116, lh_117, ld_118, rfl, k119, k120, k121, k122, k123, k124, k125, k126, k127, k128, k129, k130, k131, k132, k133, k134⟩ := sp53.1 x 36 kx (by decide)
          refine tw_bi (tw_callV (M := mX10_change) (pc := 37) okX10_refuse dX10_change_37 w_1204 rfl f107 [.int 1, .int 2] [] rfl rfl ⟨by decide, by decide⟩ (Nat.le_of_ble_eq_true rfl) (c_X10_refuse d g τ h46 sp53.1 x kx 1 2 (by decide)) 0 0 (Nat.le_of_ble_eq_true rfl) (Nat.le_of_ble_eq_true rfl)) (fun r137 h136 q135 => ?_) (fun E h1 q => q.elim)
          obtain ⟨e138, he139, hs140, hr141, h3142⟩ := q135
          have sp143 : tw_sp d τ h g τ h136 := by rw [he139]; exact sp53.set kx (by decide) hs140
          rcases hr141 with ei144 | ⟨ei144, ei144b⟩
          · rw [ei144]
            refine tw_if_ne 68 dX10_change_40 (by decide) (fun _ => ?_) (fun c145 => absurd c145 (by decide))
            refine tw_iconst (v := 0) dX10_change_68 (by decide) ?_
            exact tw_iret dX10_change_69 rfl (Or.inl ⟨_, rfl, sp143⟩)
          · exact absurd ei144b (by decide)
        · rw [q102r]
          refine tw_if_ne 35 dX10_change_28 (by decide) (fun _ => ?_) (fun c146 => absurd c146 (by decide))
          refine tw_iconst (v := 0) dX10_change_35 (by decide) ?_
          refine tw_iconst (v := 2) dX10_change_36 (by decide) ?_
          obtain ⟨e147, f148, th_149, td_150, ds_151, fr_152, ca_153, us_154, wo_155, cm_156, lc_157, lh_158, ld_159, rfl, k160, k161, k162, k163, k164, k165, k166, k167, k168, k169, k170, k171, k172, k173, k174, k175⟩ := sp53.1 x 36 kx (by decide)
          refine tw_bi (tw_callV (M := mX10_change) (pc := 37) okX10_refuse dX10_change_37 w_1204 rfl f148 [.int 0, .int 2] [] rfl rfl ⟨by decide, by decide⟩ (Nat.le_of_ble_eq_true rfl) (c_X10_refuse d g τ h46 sp53.1 x kx 0 2 (by decide)) 0 0 (Nat.le_of_ble_eq_true rfl) (Nat.le_of_ble_eq_true rfl)) (fun r178 h177 q176 => ?_) (fun E h1 q => q.elim)
          obtain ⟨e179, he180, hs181, hr182, h3183⟩ := q176
          have sp184 : tw_sp d τ h g τ h177 := by rw [he180]; exact sp53.set kx (by decide) hs181
          rcases hr182 with ei185 | ⟨ei185, ei185b⟩
          · rw [ei185]
            refine tw_if_ne 68 dX10_change_40 (by decide) (fun _ => ?_) (fun c186 => absurd c186 (by decide))
            refine tw_iconst (v := 0) dX10_change_68 (by decide) ?_
            exact tw_iret dX10_change_69 rfl (Or.inl ⟨_, rfl, sp184⟩)
          · rw [ei185]
            refine tw_if_ne 68 dX10_change_40 (by decide) (fun c187 => absurd (by decide) c187) (fun _ => ?_)
            refine tw_aload_n 0 dX10_change_43 rfl rfl ?_
            refine tw_aload_n 0 dX10_change_44 rfl rfl ?_
            refine tw_aload_n 0 dX10_change_45 rfl rfl ?_
            obtain ⟨e188, f189, th_190, td_191, ds_192, fr_193, ca_194, us_195, wo_196, cm_197, lc_198, lh_199, ld_200, rfl, k201, k202, k203, k204, k205, k206, k207, k208, k209, k210, k211, k212, k213, k214, k215, k216⟩ := sp184.1 x 36 kx (by decide)
            refine tw_get (v := .ref lh_199) rfl in_14 10 dX10_change_46 w_1161 rfl (by decide) f189 rfl ?_
            refine tw_iload_n 1 dX10_change_49 rfl rfl ?_
            obtain ⟨e217, f218, ⟨el219, rfl, k220⟩, k221⟩ := sp184.1 lh_199 25 k208 (by decide)
            refine tw_br (tw_callV (M := mX10_change) (pc := 50) okJx4a65c_get_915e3 dX10_change_50 w_1296 rfl f218 [.int (nI j33)] [.ref x, .ref x] rfl rfl ⟨by decide, by decide⟩ (Nat.le_of_ble_eq_true rfl) (c25_get d g τ h177 sp184.1 lh_199 k208 j33 (by omega) (by omega)) 0 0 (Nat.le_of_ble_eq_true rfl) (Nat.le_of_ble_eq_true rfl)) (fun r224 h223 q222 => ?_) (fun E h1 q => q.elim)
            obtain ⟨q222e, q222k⟩ := q222
            rw [q222e]
            have el225 : tw_el h177 (g.2 13) j33 = r224 := by rw [← k221]; exact q222k.2.symm
            have kl226 : τ (g.2 13) = 25 := by rw [← k221]; exact k208
            obtain ⟨e227, f228, x_229, y_230, dy_231, p_232, rfl, k233, k234, k235⟩ := sp184.1 r224 23 q222k.1 (by decide)
            refine tw_castS (ci := 13) rfl dX10_change_53 w_1336 f228 ?_
            refine tw_iload_n 2 dX10_change_56 rfl rfl ?_
            refine tw_iload_n 3 dX10_change_57 rfl rfl ?_
            refine tw_bi (tw_callV (M := mX10_change) (pc := 58) okX10_isNoChange dX10_change_58 w_1366 rfl f189 [.ref r224, .int m, .int gr] [.ref x] rfl rfl ⟨by decide, by decide⟩ (Nat.le_of_ble_eq_true rfl) (c_X10_isNoChange d g τ h177 sp184.1 x kx r224 q222k.1 m gr q57m) 0 0 (Nat.le_of_ble_eq_true rfl) (Nat.le_of_ble_eq_true rfl)) (fun r238 h237 q236 => ?_) (fun E h1 q => q.elim)
            obtain ⟨q236e, q236d⟩ := q236
            rw [q236e]
            rcases q236d with q236r | ⟨q236r, q236a⟩
            · rw [q236r]
              refine tw_iconst (v := 3) dX10_change_61 (by decide) ?_
              refine tw_bi (tw_callV (M := mX10_change) (pc := 62) okX10_refuse dX10_change_62 w_1204 rfl f189 [.int 1, .int 3] [] rfl rfl ⟨by decide, by decide⟩ (Nat.le_of_ble_eq_true rfl) (c_X10_refuse d g τ h177 sp184.1 x kx 1 3 (by decide)) 0 0 (Nat.le_of_ble_eq_true rfl) (Nat.le_of_ble_eq_true rfl)) (fun r241 h240 q239 => ?_) (fun E h1 q => q.elim)
              obtain ⟨e242, he243, hs244, hr245, h3246⟩ := q239
              have sp247 : tw_sp d τ h g τ h240 := by rw [he243]; exact sp184.set kx (by decide) hs244
              have f248 : h240 lh_199 = some (.inr (3, [.int (g.1 4), .ref el219, .int (nI (g.2 4))])) := by rw [he243, tw_up_n (fun q => absurd (k208) (by rw [q, kx]; decide))]; exact f218
              have f249 : h240 r224 = some (.inr (13, [.int x_229, .int y_230, .int dy_231, .ref p_232])) := by rw [he243, tw_up_n (fun q => absurd (q222k.1) (by rw [q, kx]; decide))]; exact f228
              have el250 : tw_el h240 (g.2 13) j33 = r224 := by rw [he243]; exact (tw_el25_up sp184.1 kl226 (by omega) (by rw [kx]; decide) (by rw [kx]; decide)).trans el225
              rcases hr245 with ei251 | ⟨ei251, ei251b⟩
              · rw [ei251]
                refine tw_if_eq 70 dX10_change_65 (by decide) (fun c252 => absurd c252 (by decide)) (fun _ => ?_)
                refine tw_iconst (v := 0) dX10_change_68 (by decide) ?_
                exact tw_iret dX10_change_69 rfl (Or.inl ⟨_, rfl, sp247⟩)
              · exact absurd ei251b (by decide)
            · rw [q236r]
              obtain ⟨i253, hi254, ei255⟩ := q236a
              rw [f228] at ei255
              have ei2552 : x_229 = nI i253 := ei255
              subst ei2552
              refine tw_iconst (v := 3) dX10_change_61 (by decide) ?_
              refine tw_bi (tw_callV (M := mX10_change) (pc := 62) okX10_refuse dX10_change_62 w_1204 rfl f189 [.int 0, .int 3] [] rfl rfl ⟨by decide, by decide⟩ (Nat.le_of_ble_eq_true rfl) (c_X10_refuse d g τ h177 sp184.1 x kx 0 3 (by decide)) 0 0 (Nat.le_of_ble_eq_true rfl) (Nat.le_of_ble_eq_true rfl)) (fun r258 h257 q256 => ?_) (fun E h1 q => q.elim)
              obtain ⟨e259, he260, hs261, hr262, h3263⟩ := q256
              have sp264 : tw_sp d τ h g τ h257 := by rw [he260]; exact sp184.set kx (by decide) hs261
              have f265 : h257 lh_199 = some (.inr (3, [.int (g.1 4), .ref el219, .int (nI (g.2 4))])) := by rw [he260, tw_up_n (fun q => absurd (k208) (by rw [q, kx]; decide))]; exact f218
              have f266 : h257 r224 = some (.inr (13, [.int (nI i253), .int y_230, .int dy_231, .ref p_232])) := by rw [he260, tw_up_n (fun q => absurd (q222k.1) (by rw [q, kx]; decide))]; exact f228
              have el267 : tw_el h257 (g.2 13) j33 = r224 := by rw [he260]; exact (tw_el25_up sp184.1 kl226 (by omega) (by rw [kx]; decide) (by rw [kx]; decide)).trans el225
              rcases hr262 with ei268 | ⟨ei268, ei268b⟩
              · rw [ei268]
                refine tw_if_eq 70 dX10_change_65 (by decide) (fun c269 => absurd c269 (by decide)) (fun _ => ?_)
                refine tw_iconst (v := 0) dX10_change_68 (by decide) ?_
                exact tw_iret dX10_change_69 rfl (Or.inl ⟨_, rfl, sp264⟩)
              · rw [ei268]
                refine tw_if_eq 70 dX10_change_65 (by decide) (fun _ => ?_) (fun c270 => absurd (by decide) c270)
                refine tw_aload_n 0 dX10_change_70 rfl rfl ?_
                obtain ⟨e271, f272, th_273, td_274, ds_275, fr_276, ca_277, us_278, wo_279, cm_280, lc_281, lh_282, ld_283, rfl, k284, k285, k286, k287, k288, k289, k290, k291, k292, k293, k294, k295, k296, k297, k298, k299⟩ := sp264.1 x 36 kx (by decide)
                refine tw_get (v := .ref lh_282) rfl in_14 10 dX10_change_71 w_1161 rfl (by decide) f272 rfl ?_
                refine tw_iload_n 1 dX10_change_74 rfl rfl ?_
                obtain ⟨e300, f301, ⟨el302, rfl, k303⟩, k304⟩ := sp264.1 lh_282 25 k291 (by decide)
                refine tw_br (tw_callV (M := mX10_change) (pc := 75) okJx4a65c_get_915e3 dX10_change_75 w_1296 rfl f301 [.int (nI j33)] [] rfl rfl ⟨by decide, by decide⟩ (Nat.le_of_ble_eq_true rfl) (c25_get d g τ h257 sp264.1 lh_282 k291 j33 (by omega) (by omega)) 0 0 (Nat.le_of_ble_eq_true rfl) (Nat.le_of_ble_eq_true rfl)) (fun r307 h306 q305 => ?_) (fun E h1 q => q.elim)
                obtain ⟨q305e, q305k⟩ := q305
                rw [q305e]
                have q305ky : r307 = r224 := q305k.2.trans (by rw [k304]; exact el267)
                rw [q305ky]
                refine tw_castS (ci := 13) rfl dX10_change_78 w_1336 f266 ?_
                refine tw_astore [(4, .ref r224), (0, .ref x), (1, .int (nI j33)), (2, .int m), (3, .int gr)] dX10_change_81 (by decide) rfl ?_
                refine tw_aload_n 1 dX10_change_83 rfl rfl ?_
                refine tw_get (v := .ref lc_281) rfl in_14 9 dX10_change_84 w_1160 rfl (by decide) f272 rfl ?_
                refine tw_aload 0 dX10_change_87 rfl ?_
                refine tw_get (v := .int (nI i253)) rfl in_13 0 dX10_change_89 w_1342 rfl (by decide) f266 rfl ?_
                obtain ⟨e308, f309, ⟨el310, rfl, k311⟩, k312⟩ := sp264.1 lc_281 24 k290 (by decide)
                refine tw_br (tw_callV (M := mX10_change) (pc := 92) okJx4a65c_get_915e3 dX10_change_92 w_1296 rfl f309 [.int (nI i253)] [] rfl rfl ⟨by decide, by decide⟩ (Nat.le_of_ble_eq_true rfl) (c24_get d g τ h257 sp264.1 lc_281 k290 i253 (by omega) (by omega)) 0 0 (Nat.le_of_ble_eq_true rfl) (Nat.le_of_ble_eq_true rfl)) (fun r315 h314 q313 => ?_) (fun E h1 q => q.elim)
                obtain ⟨q313e, q313k⟩ := q313
                rw [q313e]
                have el316 : tw_el h257 (g.2 12) i253 = r315 := by rw [← k312]; exact q313k.2.symm
                have kl317 : τ (g.2 12) = 24 := by rw [← k312]; exact k290
                obtain ⟨e318, f319, r_320, c_321, v_322, o_323, t_324, rfl, k325, k326, k327, k328, k329⟩ := sp264.1 r315 21 q313k.1 (by decide)
                refine tw_castS (ci := 11) rfl dX10_change_95 w_1212 f319 ?_
                refine tw_astore [(5, .ref r315), (4, .ref r224), (0, .ref x), (1, .int (nI j33)), (2, .int m), (3, .int gr)] dX10_change_98 (by decide) rfl ?_
                refine tw_aload 0 dX10_change_100 rfl ?_
                refine tw_iload_n 4 dX10_change_102 rfl rfl ?_
                refine tw_iload_n 5 dX10_change_103 rfl rfl ?_
                refine tw_i2l dX10_change_104 ?_
                refine tw_nml (fun v330 ev330 => ?_)
                refine tw_bl (tw_callS (M := mX10_change) (pc := 105) okX10_given dX10_change_105 w_1370 [.ref r315, .int m, .long v330] [] rfl rfl ⟨by decide, by decide⟩ (Nat.le_of_ble_eq_true rfl) (c_X10_given d g τ h257 sp264.1 r315 q313k.1 m v330) 0 0 (Nat.le_of_ble_eq_true rfl) (Nat.le_of_ble_eq_true rfl)) (fun r333 h332 q331 => ?_) (fun E h1 q => q.elim)
                rw [q331]
                refine tw_lstore [(6, .long r333), (5, .ref r315), (4, .ref r224), (0, .ref x), (1, .int (nI j33)), (2, .int m), (3, .int gr)] dX10_change_108 (by decide) rfl ?_
                refine tw_aload 2 dX10_change_110 rfl ?_
                refine tw_get (v := .ref p_232) rfl in_13 3 dX10_change_112 w_1348 rfl (by decide) f266 rfl ?_
                refine tw_iload_n 5 dX10_change_115 rfl rfl ?_
                refine tw_dup2 dX10_change_116 rfl rfl ?_
                obtain ⟨e334, f335, F336, rfl⟩ := sp264.1 p_232 31 k233 (by decide)
                obtain ⟨v337, ev337⟩ : ∃ y : Int64, F336 (m).toNatClampNeg = y := ⟨_, rfl⟩
                refine tw_lald (v := v337) dX10_change_117 f335 (tw_in01 q57m (by decide)) ev337 ?_
                refine tw_iload_n 6 dX10_change_118 rfl rfl ?_
                refine tw_i2l dX10_change_119 ?_
                refine tw_nml (fun v338 ev338 => ?_)
                refine tw_lsub dX10_change_120 ?_
                refine tw_nml (fun v339 ev339 => ?_)
                refine tw_last dX10_change_121 f335 (tw_in01 q57m (by decide)) ?_
                obtain ⟨h340, eh340⟩ : ∃ z : tw_H, z = tw_up h257 p_232 (.inl (d.2 1, 2, .inr (.inl (vp_updL F336 (m).toNatClampNeg v339)))) := ⟨_, rfl⟩
                rw [← eh340]
                have sp341 : tw_sp d τ h g τ h340 := by rw [eh340]; exact sp264.set k233 (by decide) ⟨_, rfl⟩
                refine tw_aload 1 dX10_change_122 rfl ?_
                obtain ⟨e342, f343, r_344, c_345, v_346, o_347, t_348, rfl, k349, k350, k351, k352, k353⟩ := sp341.1 r315 21 q313k.1 (by decide)
                refine tw_get (v := .ref v_346) rfl in_11 2 dX10_change_124 w_1221 rfl (by decide) f343 rfl ?_
                refine tw_iload_n 5 dX10_change_127 rfl rfl ?_
                refine tw_dup2 dX10_change_128 rfl rfl ?_
                obtain ⟨e354, f355, F356, rfl⟩ := sp341.1 v_346 31 k349 (by decide)
                obtain ⟨v357, ev357⟩ : ∃ y : Int64, F356 (m).toNatClampNeg = y := ⟨_, rfl⟩
                refine tw_lald (v := v357) dX10_change_129 f355 (tw_in01 q57m (by decide)) ev357 ?_
                refine tw_iload_n 6 dX10_change_130 rfl rfl ?_
                refine tw_i2l dX10_change_131 ?_
                refine tw_nml (fun v358 ev358 => ?_)
                refine tw_ladd dX10_change_132 ?_
                refine tw_nml (fun v359 ev359 => ?_)
                refine tw_last dX10_change_133 f355 (tw_in01 q57m (by decide)) ?_
                obtain ⟨h360, eh360⟩ : ∃ z : tw_H, z = tw_up h340 v_346 (.inl (d.2 1, 2, .inr (.inl (vp_updL F356 (m).toNatClampNeg v359)))) := ⟨_, rfl⟩
                rw [← eh360]
                have sp361 : tw_sp d τ h g τ h360 := by rw [eh360]; exact sp341.set k349 (by decide) ⟨_, rfl⟩
                refine tw_aload 2 dX10_change_134 rfl ?_
                obtain ⟨e362, f363, x_364, y_365, dy_366, p_367, rfl, k368, k369, k370⟩ := sp361.1 r224 23 q222k.1 (by decide)
                refine tw_get (v := .ref p_367) rfl in_13 3 dX10_change_136 w_1348 rfl (by decide) f363 rfl ?_
                refine tw_iconst (v := 1) dX10_change_139 (by decide) ?_
                refine tw_iload_n 5 dX10_change_140 rfl rfl ?_
                refine tw_isub dX10_change_141 ?_
                refine tw_nmi (fun v371 ev371 => ?_)
                refine tw_dup2 dX10_change_142 rfl rfl ?_
                obtain ⟨e372, f373, F374, rfl⟩ := sp361.1 p_367 31 k368 (by decide)
                obtain ⟨v375, ev375⟩ : ∃ y : Int64, F374 (v371).toNatClampNeg = y := ⟨_, rfl⟩
                refine tw_lald (v := v375) dX10_change_143 f373 (tw_in01 (tw_1m q57m ev371) (by decide)) ev375 ?_
                refine tw_lload 0 dX10_change_144 rfl ?_
                refine tw_ladd dX10_change_146 ?_
                refine tw_nml (fun v376 ev376 => ?_)
                refine tw_last dX10_change_147 f373 (tw_in01 (tw_1m q57m ev371) (by decide)) ?_
                obtain ⟨h377, eh377⟩ : ∃ z : tw_H, z = tw_up h360 p_367 (.inl (d.2 1, 2, .inr (.inl (vp_updL F374 (v371).toNatClampNeg v376)))) := ⟨_, rfl⟩
                rw [← eh377]
                have sp378 : tw_sp d τ h g τ h377 := by rw [eh377]; exact sp361.set k368 (by decide) ⟨_, rfl⟩
                refine tw_aload 1 dX10_change_148 rfl ?_
                obtain ⟨e379, f380, r_381, c_382, v_383, o_384, t_385, rfl, k386, k387, k388, k389, k390⟩ := sp378.1 r315 21 q313k.1 (by decide)
                refine tw_get (v := .ref v_383) rfl in_11 2 dX10_change_150 w_1221 rfl (by decide) f380 rfl ?_
                refine tw_iconst (v := 1) dX10_change_153 (by decide) ?_
                refine tw_iload_n 5 dX10_change_154 rfl rfl ?_
                refine tw_isub dX10_change_155 ?_
                refine tw_nmi (fun v391 ev391 => ?_)
                refine tw_dup2 dX10_change_156 rfl rfl ?_
                obtain ⟨e392, f393, F394, rfl⟩ := sp378.1 v_383 31 k386 (by decide)
                obtain ⟨v395, ev395⟩ : ∃ y : Int64, F394 (v391).toNatClampNeg = y := ⟨_, rfl⟩
                refine tw_lald (v := v395) dX10_change_157 f393 (tw_in01 (tw_1m q57m ev391) (by decide)) ev395 ?_
                refine tw_lload 0 dX10_change_158 rfl ?_
                refine tw_lsub dX10_change_160 ?_
                refine tw_nml (fun v396 ev396 => ?_)
                refine tw_last dX10_change_161 f393 (tw_in01 (tw_1m q57m ev391) (by decide)) ?_
                obtain ⟨h397, eh397⟩ : ∃ z : tw_H, z = tw_up h377 v_383 (.inl (d.2 1, 2, .inr (.inl (vp_updL F394 (v391).toNatClampNeg v396)))) := ⟨_, rfl⟩
                rw [← eh397]
                have sp398 : tw_sp d τ h g τ h397 := by rw [eh397]; exact sp378.set k386 (by decide) ⟨_, rfl⟩
                refine tw_lload 0 dX10_change_162 rfl ?_
                refine tw_l2i dX10_change_164 ?_
                refine tw_nmi (fun v399 ev399 => ?_)
                exact tw_iret dX10_change_165 rfl (Or.inl ⟨_, rfl, sp398⟩)

set_option maxHeartbeats 4000000 in
set_option maxRecDepth 100000 in
theorem c_X10_send (d : tw_D) (g : tw_G) (τ : tw_K) (h : tw_H) (hw : tw_wt d g τ h) (x : Nat) (kx : τ x = 36) (n : Int32) (c : Int32) : tw_Ct d mX10_send 0 0 [.ref x, .int n, .int c] h (tw_qi (fun r h1 => tw_sp d τ h g τ h1) tw_nx) := by
  refine tw_of (by decide +kernel) (Nat.le_of_ble_eq_true rfl) ?_
  show tw_W d mX10_send _ 0 [(0, .ref x), (1, .int n), (2, .int c)] [] h 0 0
  have sp0 := tw_sp.rf hw
  refine tw_aload_n 0 dX10_send_0 rfl rfl ?_
  refine tw_aload_n 0 dX10_send_1 rfl rfl ?_
  refine tw_iload_n 1 dX10_send_2 rfl rfl ?_
  obtain ⟨e1, f2, th_3, td_4, ds_5, fr_6, ca_7, us_8, wo_9, cm_10, lc_11, lh_12, ld_13, rfl, k14, k15, k16, k17, k18, k19, k20, k21, k22, k23, k24, k25, k26, k27, k28, k29⟩ := sp0.1 x 36 kx (by decide)
  refine tw_bi (tw_callV (M := mX10_send) (pc := 3) okX10_isNoHouse dX10_send_3 w_1362 rfl f2 [.int n] [.ref x] rfl rfl ⟨by decide, by decide⟩ (Nat.le_of_ble_eq_true rfl) (c_X10_isNoHouse d g τ h sp0.1 x kx n) 0 0 (Nat.le_of_ble_eq_true rfl) (Nat.le_of_ble_eq_true rfl)) (fun r32 h31 q30 => ?_) (fun E h1 q => q.elim)
  obtain ⟨q30e, q30d⟩ := q30
  rw [q30e]
  rcases q30d with q30r | ⟨q30r, j33, q30j, q30k⟩
  · rw [q30r]
    refine tw_if_ne 17 dX10_send_6 (by decide) (fun _ => ?_) (fun c34 => absurd c34 (by decide))
    refine tw_iconst (v := 1) dX10_send_17 (by decide) ?_
    refine tw_goto 22 dX10_send_18 (by decide) ?_
    refine tw_iconst (v := 1) dX10_send_22 (by decide) ?_
    refine tw_bi (tw_callV (M := mX10_send) (pc := 23) okX10_start dX10_send_23 w_1200 rfl f2 [.int 1, .int 1] [] rfl rfl ⟨by decide, by decide⟩ (Nat.le_of_ble_eq_true rfl) (c_X10_start d g τ h sp0.1 x kx 1 1 (by decide)) 0 0 (Nat.le_of_ble_eq_true rfl) (Nat.le_of_ble_eq_true rfl)) (fun r37 h36 q35 => ?_) (fun E h1 q => q.elim)
    obtain ⟨e38, he39, hs40, hr41, h342⟩ := q35
    have sp43 : tw_sp d τ h g τ h36 := by rw [he39]; exact sp0.set kx (by decide) hs40
    rcases hr41 with ei44 | ⟨ei44, ei44b⟩
    · rw [ei44]
      refine tw_if_ne 78 dX10_send_26 (by decide) (fun _ => ?_) (fun c45 => absurd c45 (by decide))
      refine tw_iconst (v := 0) dX10_send_78 (by decide) ?_
      exact tw_iret dX10_send_79 rfl (Or.inl ⟨_, rfl, sp43⟩)
    · exact absurd ei44b (by decide)
  · rw [q30r]
    subst q30k
    refine tw_if_ne 17 dX10_send_6 (by decide) (fun c46 => absurd (by decide) c46) (fun _ => ?_)
    refine tw_aload_n 0 dX10_send_9 rfl rfl ?_
    refine tw_iload_n 2 dX10_send_10 rfl rfl ?_
    refine tw_bi (tw_callV (M := mX10_send) (pc := 11) okX10_isNoCountry dX10_send_11 w_1292 rfl f2 [.int c] [.ref x] rfl rfl ⟨by decide, by decide⟩ (Nat.le_of_ble_eq_true rfl) (c_X10_isNoCountry d g τ h sp0.1 x kx c) 0 0 (Nat.le_of_ble_eq_true rfl) (Nat.le_of_ble_eq_true rfl)) (fun r49 h48 q47 => ?_) (fun E h1 q => q.elim)
    obtain ⟨q47e, q47d⟩ := q47
    rw [q47e]
    rcases q47d with q47r | ⟨q47r, j50, q47j, q47k⟩
    · rw [q47r]
      refine tw_if_eq 21 dX10_send_14 (by decide) (fun c51 => absurd c51 (by decide)) (fun _ => ?_)
      refine tw_iconst (v := 1) dX10_send_17 (by decide) ?_
      refine tw_goto 22 dX10_send_18 (by decide) ?_
      refine tw_iconst (v := 1) dX10_send_22 (by decide) ?_
      refine tw_bi (tw_callV (M := mX10_send) (pc := 23) okX10_start dX10_send_23 w_1200 rfl f2 [.int 1, .int 1] [] rfl rfl ⟨by decide, by decide⟩ (Nat.le_of_ble_eq_true rfl) (c_X10_start d g τ h sp0.1 x kx 1 1 (by decide)) 0 0 (Nat.le_of_ble_eq_true rfl) (Nat.le_of_ble_eq_true rfl)) (fun r54 h53 q52 => ?_) (fun E h1 q => q.elim)
      obtain ⟨e55, he56, hs57, hr58, h359⟩ := q52
      have sp60 : tw_sp d τ h g τ h53 := by rw [he56]; exact sp0.set kx (by decide) hs57
      rcases hr58 with ei61 | ⟨ei61, ei61b⟩
      · rw [ei61]
        refine tw_if_ne 78 dX10_send_26 (by decide) (fun _ => ?_) (fun c62 => absurd c62 (by decide))
        refine tw_iconst (v := 0) dX10_send_78 (by decide) ?_
        exact tw_iret dX10_send_79 rfl (Or.inl ⟨_, rfl, sp60⟩)
      · exact absurd ei61b (by decide)
    · rw [q47r]
      subst q47k
      refine tw_if_eq 21 dX10_send_14 (by decide) (fun _ => ?_) (fun c63 => absurd (by decide) c63)
      refine tw_iconst (v := 0) dX10_send_21 (by decide) ?_
      refine tw_iconst (v := 1) dX10_send_22 (by decide) ?_
      refine tw_bi (tw_callV (M := mX10_send) (pc := 23) okX10_start dX10_send_23 w_1200 rfl f2 [.int 0, .int 1] [] rfl rfl ⟨by decide, by decide⟩ (Nat.le_of_ble_eq_true rfl) (c_X10_start d g τ h sp0.1 x kx 0 1 (by decide)) 0 0 (Nat.le_of_ble_eq_true rfl) (Nat.le_of_ble_eq_true rfl)) (fun r66 h65 q64 => ?_) (fun E h1 q => q.elim)
      obtain ⟨e67, he68, hs69, hr70, h371⟩ := q64
      have sp72 : tw_sp d τ h g τ h65 := by rw [he68]; exact sp0.set kx (by decide) hs69
      rcases hr70 with ei73 | ⟨ei73, ei73b⟩
      · rw [ei73]
        refine tw_if_ne 78 dX10_send_26 (by decide) (fun _ => ?_) (fun c74 => absurd c74 (by decide))
        refine tw_iconst (v := 0) dX10_send_78 (by decide) ?_
        exact tw_iret dX10_send_79 rfl (Or.inl ⟨_, rfl, sp72⟩)
      · rw [ei73]
        refine tw_if_ne 78 dX10_send_26 (by decide) (fun c75 => absurd (by decide) c75) (fun _ => ?_)
        refine tw_aload_n 0 dX10_send_29 rfl rfl ?_
        refine tw_aload_n 0 dX10_send_30 rfl rfl ?_
        obtain ⟨e76, f77, th_78, td_79, ds_80, fr_81, ca_82, us_83, wo_84, cm_85, lc_86, lh_87, ld_88, rfl, k89, k90, k91, k92, k93, k94, k95, k96, k97, k98, k99, k100, k101, k102, k103, k104⟩ := sp72.1 x 36 kx (by decide)
        refine tw_get (v := .ref lh_87) rfl in_14 10 dX10_send_31 w_1161 rfl (by decide) f77 rfl ?_
        refine tw_iload_n 1 dX10_send_34 rfl rfl ?_
        obtain ⟨e105, f106, ⟨el107, rfl, k108⟩, k109⟩ := sp72.1 lh_87 25 k96 (by decide)
        refine tw_br (tw_callV (M := mX10_send) (pc := 35) okJx4a65c_get_915e3 dX10_send_35 w_1296 rfl f106 [.int (nI j33)] [.ref x] rfl rfl ⟨by decide, by decide⟩ (Nat.le_of_ble_eq_true rfl) (c25_get d g τ h65 sp72.1 lh_87 k96 j33 (by omega) (by omega)) 0 0 (Nat.le_of_ble_eq_true rfl) (Nat.le_of_ble_eq_true rfl)) (fun r112 h111 q110 => ?_) (fun E h1 q => q.elim)
        obtain ⟨q110e, q110k⟩ := q110
        rw [q110e]
        have el113 : tw_el h65 (g.2 13) j33 = r112 := by rw [← k109]; exact q110k.2.symm
        have kl114 : τ (g.2 13) = 25 := by rw [← k109]; exact k96
        obtain ⟨e115, f116, x_117, y_118, dy_119, p_120, rfl, k121, k122, k123⟩ := sp72.1 r112 23 q110k.1 (by decide)
        refine tw_castS (ci := 13) rfl dX10_send_38 w_1336 f116 ?_
        refine tw_get (v := .int x_117) rfl in_13 0 dX10_send_41 w_1342 rfl (by decide) f116 rfl ?_
        refine tw_iconst (v := -1) dX10_send_44 (by decide) ?_
        refine tw_icmp_eq 66 dX10_send_45 (by decide) (fun c124 => ?_) (fun c124 => ?_)
        · refine tw_iconst (v := 1) dX10_send_66 (by decide) ?_
          refine tw_goto 71 dX10_send_67 (by decide) ?_
          refine tw_iconst (v := 2) dX10_send_71 (by decide) ?_
          refine tw_bi (tw_callV (M := mX10_send) (pc := 72) okX10_refuse dX10_send_72 w_1204 rfl f77 [.int 1, .int 2] [] rfl rfl ⟨by decide, by decide⟩ (Nat.le_of_ble_eq_true rfl) (c_X10_refuse d g τ h65 sp72.1 x kx 1 2 (by decide)) 0 0 (Nat.le_of_ble_eq_true rfl) (Nat.le_of_ble_eq_true rfl)) (fun r127 h126 q125 => ?_) (fun E h1 q => q.elim)
          obtain ⟨e128, he129, hs130, hr131, h3132⟩ := q125
          have sp133 : tw_sp d τ h g τ h126 := by rw [he129]; exact sp72.set kx (by decide) hs130
          have f134 : h126 lh_87 = some (.inr (3, [.int (g.1 4), .ref el107, .int (nI (g.2 4))])) := by rw [he129, tw_up_n (fun q => absurd (k96) (by rw [q, kx]; decide))]; exact f106
          have f135 : h126 r112 = some (.inr (13, [.int x_117, .int y_118, .int dy_119, .ref p_120])) := by rw [he129, tw_up_n (fun q => absurd (q110k.1) (by rw [q, kx]; decide))]; exact f116
          have el136 : tw_el h126 (g.2 13) j33 = r112 := by rw [he129]; exact (tw_el25_up sp72.1 kl114 (by omega) (by rw [kx]; decide) (by rw [kx]; decide)).trans el113
          rcases hr131 with ei137 | ⟨ei137, ei137b⟩
          · rw [ei137]
            refine tw_if_eq 80 dX10_send_75 (by decide) (fun c138 => absurd c138 (by decide)) (fun _ => ?_)
            refine tw_iconst (v := 0) dX10_send_78 (by decide) ?_
            exact tw_iret dX10_send_79 rfl (Or.inl ⟨_, rfl, sp133⟩)
          · exact absurd ei137b (by decide)
        · refine tw_aload_n 0 dX10_send_48 rfl rfl ?_
          refine tw_get (v := .ref lh_87) rfl in_14 10 dX10_send_49 w_1161 rfl (by decide) f77 rfl ?_
          refine tw_iload_n 1 dX10_send_52 rfl rfl ?_
          refine tw_br (tw_callV (M := mX10_send) (pc := 53) okJx4a65c_get_915e3 dX10_send_53 w_1296 rfl f106 [.int (nI j33)] [.ref x] rfl rfl ⟨by decide, by decide⟩ (Nat.le_of_ble_eq_true rfl) (c25_get d g τ h65 sp72.1 lh_87 k96 j33 (by omega) (by omega)) 0 0 (Nat.le_of_ble_eq_true rfl) (Nat.le_of_ble_eq_true rfl)) (fun r141 h140 q139 => ?_) (fun E h1 q => q.elim)
          obtain ⟨q139e, q139k⟩ := q139
          rw [q139e]
          have q139ky : r141 = r112 := q139k.2.trans (by rw [k109]; exact el113)
          rw [q139ky]
          refine tw_castS (ci := 13) rfl dX10_send_56 w_1336 f116 ?_
          refine tw_get (v := .int x_117) rfl in_13 0 dX10_send_59 w_1342 rfl (by decide) f116 rfl ?_
          refine tw_iload_n 2 dX10_send_62 rfl rfl ?_
          refine tw_icmp_ne 70 dX10_send_63 (by decide) (fun c142 => ?_) (fun c142 => ?_)
          · refine tw_iconst (v := 0) dX10_send_70 (by decide) ?_
            refine tw_iconst (v := 2) dX10_send_71 (by decide) ?_
            refine tw_bi (tw_callV (M := mX10_send) (pc := 72) okX10_refuse dX10_send_72 w_1204 rfl f77 [.int 0, .int 2] [] rfl rfl ⟨by decide, by decide⟩ (Nat.le_of_ble_eq_true rfl) (c_X10_refuse d g τ h65 sp72.1 x kx 0 2 (by decide)) 0 0 (Nat.le_of_ble_eq_true rfl) (Nat.le_of_ble_eq_true rfl)) (fun r145 h144 q143 => ?_) (fun E h1 q => q.elim)
            obtain ⟨e146, he147, hs148, hr149, h3150⟩ := q143
            have sp151 : tw_sp d τ h g τ h144 := by rw [he147]; exact sp72.set kx (by decide) hs148
            have f152 : h144 lh_87 = some (.inr (3, [.int (g.1 4), .ref el107, .int (nI (g.2 4))])) := by rw [he147, tw_up_n (fun q => absurd (k96) (by rw [q, kx]; decide))]; exact f106
            have f153 : h144 r112 = some (.inr (13, [.int x_117, .int y_118, .int dy_119, .ref p_120])) := by rw [he147, tw_up_n (fun q => absurd (q110k.1) (by rw [q, kx]; decide))]; exact f116
            have el154 : tw_el h144 (g.2 13) j33 = r112 := by rw [he147]; exact (tw_el25_up sp72.1 kl114 (by omega) (by rw [kx]; decide) (by rw [kx]; decide)).trans el113
            rcases hr149 with ei155 | ⟨ei155, ei155b⟩
            · rw [ei155]
              refine tw_if_eq 80 dX10_send_75 (by decide) (fun c156 => absurd c156 (by decide)) (fun _ => ?_)
              refine tw_iconst (v := 0) dX10_send_78 (by decide) ?_
              exact tw_iret dX10_send_79 rfl (Or.inl ⟨_, rfl, sp151⟩)
            · rw [ei155]
              refine tw_if_eq 80 dX10_send_75 (by decide) (fun _ => ?_) (fun c157 => absurd (by decide) c157)
              refine tw_aload_n 0 dX10_send_80 rfl rfl ?_
              obtain ⟨e158, f159, th_160, td_161, ds_162, fr_163, ca_164, us_165, wo_166, cm_167, lc_168, lh_169, ld_170, rfl, k171, k172, k173, k174, k175, k176, k177, k178, k179, k180, k181, k182, k183, k184, k185, k186⟩ := sp151.1 x 36 kx (by decide)
              refine tw_get (v := .ref lh_169) rfl in_14 10 dX10_send_81 w_1161 rfl (by decide) f159 rfl ?_
              refine tw_iload_n 1 dX10_send_84 rfl rfl ?_
              obtain ⟨e187, f188, ⟨el189, rfl, k190⟩, k191⟩ := sp151.1 lh_169 25 k178 (by decide)
              refine tw_br (tw_callV (M := mX10_send) (pc := 85) okJx4a65c_get_915e3 dX10_send_85 w_1296 rfl f188 [.int (nI j33)] [] rfl rfl ⟨by decide, by decide⟩ (Nat.le_of_ble_eq_true rfl) (c25_get d g τ h144 sp151.1 lh_169 k178 j33 (by omega) (by omega)) 0 0 (Nat.le_of_ble_eq_true rfl) (Nat.le_of_ble_eq_true rfl)) (fun r194 h193 q192 => ?_) (fun E h1 q => q.elim)
              obtain ⟨q192e, q192k⟩ := q192
              rw [q192e]
              have q192ky : r194 = r112 := q192k.2.trans (by rw [k191]; exact el154)
              rw [q192ky]
              refine tw_castS (ci := 13) rfl dX10_send_88 w_1336 f153 ?_
              refine tw_astore_n [(3, .ref r112), (0, .ref x), (1, .int (nI j33)), (2, .int (nI j50))] dX10_send_91 rfl (by decide) rfl ?_
              refine tw_iconst (v := 0) dX10_send_92 (by decide) ?_
              refine tw_istore [(4, .int 0), (3, .ref r112), (0, .ref x), (1, .int (nI j33)), (2, .int (nI j50))] dX10_send_93 (by decide) rfl ?_
              obtain ⟨j199, hj200, ej201⟩ := k122.resolve_left c124
              subst ej201
              have L198 : ∀ (r196 k195 : Nat) (h203 : tw_H) (sp204 : tw_sp d τ h144 g τ h203) (kf202 : h203 r112 = some (.inr (13, [.int (nI j199), .int y_118, .int dy_119, .ref p_120]))), 2 + 1 ≤ k195 + r196 → k195 ≤ 2 → tw_W d mX10_send (tw_qi (fun r h1 => tw_sp d τ h g τ h1) tw_nx) 95 [(0, .ref x), (1, .int (nI j33)), (2, .int (nI j50)), (3, .ref r112), (4, .int (nI k195))] [] h203 0 0 := by
                intro r196
                induction r196 with
                | zero => intro k195 h203 sp204 kf202 hk206 hk207; exact absurd hk206 (by omega)
                | succ r196 ih197 =>
                  intro k195 h203 sp204 kf202 hk206 hk207
                  refine tw_iload 4 dX10_send_95 rfl ?_
                  refine tw_iconst (v := 2) dX10_send_97 (by decide) ?_
                  refine tw_icmp_ge 159 dX10_send_98 (by decide) (fun c208 => ?_) (fun c208 => ?_)
                  · refine tw_aload_n 3 dX10_send_159 rfl rfl ?_
                    refine tw_aload_n 0 dX10_send_160 rfl rfl ?_
                    obtain ⟨e209, f210, th_211, td_212, ds_213, fr_214, ca_215, us_216, wo_217, cm_218, lc_219, lh_220, ld_221, rfl, k222, k223, k224, k225, k226, k227, k228, k229, k230, k231, k232, k233, k234, k235, k236, k237⟩ := sp204.1 x 36 kx (by decide)
                    refine tw_get (v := .int td_212) rfl in_14 1 dX10_send_161 w_1152 rfl (by decide) f210 rfl ?_
                    refine tw_aload_n 0 dX10_send_164 rfl rfl ?_
                    refine tw_get (v := .ref ds_213) rfl in_14 3 dX10_send_165 w_1154 rfl (by decide) f210 rfl ?_
                    refine tw_aload_n 3 dX10_send_168 rfl rfl ?_
                    refine tw_get (v := .int (nI j199)) rfl in_13 0 dX10_send_169 w_1342 rfl (by decide) kf202 rfl ?_
                    obtain ⟨e238, f239, F240, rfl, k241⟩ := sp204.1 ds_213 34 k222 (by decide)
                    obtain ⟨q242, k243, k244⟩ := k241 ((nI j199)).toNatClampNeg (by rw [nI_clamp (by omega)]; omega)
                    refine tw_aald (v := .ref q242) 8 rfl rfl dX10_send_172 f239 (vp_in_nI (by omega) (by decide)) (by rw [k243]; rfl) ?_
                    refine tw_iload_n 2 dX10_send_173 rfl rfl ?_
                    obtain ⟨e245, f246, F247, rfl⟩ := sp204.1 q242 6 k244 (by decide)
                    obtain ⟨v248, ev248⟩ : ∃ y : Int32, F247 ((nI j50)).toNatClampNeg = y := ⟨_, rfl⟩
                    refine tw_iald (v := v248) dX10_send_174 f246 (vp_in_nI (by omega) (by decide)) ev248 ?_
                    refine tw_iadd dX10_send_175 ?_
                    refine tw_nmi (fun v249 ev249 => ?_)
                    refine tw_put rfl in_13 tyX9 tyX9_ok nmX9 2 dX10_send_176 w_1346 rfl (by decide) kf202 rfl rfl rfl rfl (Nat.le_of_ble_eq_true rfl) [.int (nI j199), .int y_118, .int v249, .ref p_120] rfl ?_
                    obtain ⟨h250, eh250⟩ : ∃ z : tw_H, z = tw_up h203 r112 (.inr (13, [.int (nI j199), .int y_118, .int v249, .ref p_120])) := ⟨_, rfl⟩
                    rw [← eh250]
                    have sp251 : tw_sp d τ h144 g τ h250 := by rw [eh250]; exact sp204.set q110k.1 (by decide) ⟨(nI j199), y_118, v249, p_120, rfl, k121, (Or.inr ⟨_, (by omega), rfl⟩), k123⟩
                    have f252 : h250 r112 = some (.inr (13, [.int (nI j199), .int y_118, .int v249, .ref p_120])) := by rw [eh250]; exact tw_up_s
                    refine tw_aload_n 3 dX10_send_179 rfl rfl ?_
                    refine tw_iload_n 2 dX10_send_180 rfl rfl ?_
                    refine tw_put rfl in_13 tyX9 tyX9_ok nmX9 1 dX10_send_181 w_1344 rfl (by decide) f252 rfl rfl rfl rfl (Nat.le_of_ble_eq_true rfl) [.int (nI j199), .int (nI j50), .int v249, .ref p_120] rfl ?_
                    obtain ⟨h253, eh253⟩ : ∃ z : tw_H, z = tw_up h250 r112 (.inr (13, [.int (nI j199), .int (nI j50), .int v249, .ref p_120])) := ⟨_, rfl⟩
                    rw [← eh253]
                    have sp254 : tw_sp d τ h144 g τ h253 := by rw [eh253]; exact sp251.set q110k.1 (by decide) ⟨(nI j199), (nI j50), v249, p_120, rfl, k121, (Or.inr ⟨_, (by omega), rfl⟩), (Or.inr ⟨_, (by omega), rfl⟩)⟩
                    have f255 : h253 r112 = some (.inr (13, [.int (nI j199), .int (nI j50), .int v249, .ref p_120])) := by rw [eh253]; exact tw_up_s
                    refine tw_aload_n 3 dX10_send_184 rfl rfl ?_
                    refine tw_iconst (v := -1) dX10_send_185 (by decide) ?_
                    refine tw_put rfl in_13 tyX9 tyX9_ok nmX9 0 dX10_send_186 w_1342 rfl (by decide) f255 rfl rfl rfl rfl (Nat.le_of_ble_eq_true rfl) [.int (-1), .int (nI j50), .int v249, .ref p_120] rfl ?_
                    obtain ⟨h256, eh256⟩ : ∃ z : tw_H, z = tw_up h253 r112 (.inr (13, [.int (-1), .int (nI j50), .int v249, .ref p_120])) := ⟨_, rfl⟩
                    rw [← eh256]
                    have sp257 : tw_sp d τ h144 g τ h256 := by rw [eh256]; exact sp254.set q110k.1 (by decide) ⟨(-1), (nI j50), v249, p_120, rfl, k121, (Or.inl rfl), (Or.inr ⟨_, (by omega), rfl⟩)⟩
                    have f258 : h256 r112 = some (.inr (13, [.int (-1), .int (nI j50), .int v249, .ref p_120])) := by rw [eh256]; exact tw_up_s
                    refine tw_aload_n 3 dX10_send_189 rfl rfl ?_
                    refine tw_get (v := .int v249) rfl in_13 2 dX10_send_190 w_1346 rfl (by decide) f258 rfl ?_
                    exact tw_iret dX10_send_193 rfl (Or.inl ⟨_, rfl, (sp151.tr sp257)⟩)
                  · have kl259 := tw_klt (N := 2) c208 hk207 (by decide)
                    refine tw_aload_n 3 dX10_send_101 rfl rfl ?_
                    refine tw_get (v := .ref p_120) rfl in_13 3 dX10_send_102 w_1348 rfl (by decide) kf202 rfl ?_
                    refine tw_iload 4 dX10_send_105 rfl ?_
                    obtain ⟨e260, f261, F262, rfl⟩ := sp204.1 p_120 31 k121 (by decide)
                    obtain ⟨v263, ev263⟩ : ∃ y : Int64, F262 ((nI k195)).toNatClampNeg = y := ⟨_, rfl⟩
                    refine tw_lald (v := v263) dX10_send_107 f261 (vp_in_nI (by omega) (by decide)) ev263 ?_
                    refine tw_aload_n 0 dX10_send_108 rfl rfl ?_
                    obtain ⟨e264, f265, th_266, td_267, ds_268, fr_269, ca_270, us_271, wo_272, cm_273, lc_274, lh_275, ld_276, rfl, k277, k278, k279, k280, k281, k282, k283, k284, k285, k286, k287, k288, k289, k290, k291, k292⟩ := sp204.1 x 36 kx (by decide)
                    refine tw_get (v := .ref fr_269) rfl in_14 4 dX10_send_109 w_1155 rfl (by decide) f265 rfl ?_
                    refine tw_aload_n 3 dX10_send_112 rfl rfl ?_
                    refine tw_get (v := .int (nI j199)) rfl in_13 0 dX10_send_113 w_1342 rfl (by decide) kf202 rfl ?_
                    obtain ⟨e293, f294, F295, rfl, k296⟩ := sp204.1 fr_269 34 k278 (by decide)
                    obtain ⟨q297, k298, k299⟩ := k296 ((nI j199)).toNatClampNeg (by rw [nI_clamp (by omega)]; omega)
                    refine tw_aald (v := .ref q297) 8 rfl rfl dX10_send_116 f294 (vp_in_nI (by omega) (by decide)) (by rw [k298]; rfl) ?_
                    refine tw_iload_n 2 dX10_send_117 rfl rfl ?_
                    obtain ⟨e300, f301, F302, rfl⟩ := sp204.1 q297 6 k299 (by decide)
                    obtain ⟨v303, ev303⟩ : ∃ y : Int32, F302 ((nI j50)).toNatClampNeg = y := ⟨_, rfl⟩
                    refine tw_iald (v := v303) dX10_send_118 f301 (vp_in_nI (by omega) (by decide)) ev303 ?_
                    refine tw_i2l dX10_send_119 ?_
                    refine tw_nml (fun v304 ev304 => ?_)
                    refine tw_lmul dX10_send_120 ?_
                    refine tw_nml (fun v305 ev305 => ?_)
                    refine tw_ldc2 (v := 1000) dX10_send_121 w_1374 ?_
                    refine tw_bl (tw_callS (M := mX10_send) (pc := 124) okX10_up dX10_send_124 w_1375 [.long v305, .long 1000] [] rfl rfl ⟨by decide, by decide⟩ (Nat.le_of_ble_eq_true rfl) (c_X10_up d g τ h203 sp204.1 v305 1000 (by decide)) 0 0 (Nat.le_of_ble_eq_true rfl) (Nat.le_of_ble_eq_true rfl)) (fun r308 h307 q306 => ?_) (fun E h1 q => q.elim)
                    rw [q306]
                    refine tw_lstore [(5, .long r308), (0, .ref x), (1, .int (nI j33)), (2, .int (nI j50)), (3, .ref r112), (4, .int (nI k195))] dX10_send_127 (by decide) rfl ?_
                    refine tw_aload_n 4 dX10_send_129 rfl rfl ?_
                    refine tw_get (v := .ref p_120) rfl in_13 3 dX10_send_130 w_1348 rfl (by decide) kf202 rfl ?_
                    refine tw_iload 5 dX10_send_133 rfl ?_
                    refine tw_dup2 dX10_send_135 rfl rfl ?_
                    obtain ⟨v309, ev309⟩ : ∃ y : Int64, F262 ((nI k195)).toNatClampNeg = y := ⟨_, rfl⟩
                    refine tw_lald (v := v309) dX10_send_136 f261 (vp_in_nI (by omega) (by decide)) ev309 ?_
                    refine tw_lload 0 dX10_send_137 rfl ?_
                    refine tw_lsub dX10_send_139 ?_
                    refine tw_nml (fun v310 ev310 => ?_)
                    refine tw_last dX10_send_140 f261 (vp_in_nI (by omega) (by decide)) ?_
                    obtain ⟨h311, eh311⟩ : ∃ z : tw_H, z = tw_up h203 p_120 (.inl (d.2 1, 2, .inr (.inl (vp_updL F262 ((nI k195)).toNatClampNeg v310)))) := ⟨_, rfl⟩
                    rw [← eh311]
                    have sp312 : tw_sp d τ h144 g τ h311 := by rw [eh311]; exact sp204.set k121 (by decide) ⟨_, rfl⟩
                    have f313 : h311 r112 = some (.inr (13, [.int (nI j199), .int y_118, .int dy_119, .ref p_120])) := by rw [eh311, tw_up_n (fun q => absurd (q110k.1) (by rw [q, k121]; decide))]; exact kf202
                    refine tw_aload_n 1 dX10_send_141 rfl rfl ?_
                    obtain ⟨e314, f315, th_316, td_317, ds_318, fr_319, ca_320, us_321, wo_322, cm_323, lc_324, lh_325, ld_326, rfl, k327, k328, k329, k330, k331, k332, k333, k334, k335, k336, k337, k338, k339, k340, k341, k342⟩ := sp312.1 x 36 kx (by decide)
                    refine tw_get (v := .ref ca_320) rfl in_14 5 dX10_send_142 w_1156 rfl (by decide) f315 rfl ?_
                    refine tw_iload 5 dX10_send_145 rfl ?_
                    refine tw_dup2 dX10_send_147 rfl rfl ?_
                    obtain ⟨e343, f344, F345, rfl⟩ := sp312.1 ca_320 31 k329 (by decide)
                    obtain ⟨v346, ev346⟩ : ∃ y : Int64, F345 ((nI k195)).toNatClampNeg = y := ⟨_, rfl⟩
                    refine tw_lald (v := v346) dX10_send_148 f344 (vp_in_nI (by omega) (by decide)) ev346 ?_
                    refine tw_lload 0 dX10_send_149 rfl ?_
                    refine tw_ladd dX10_send_151 ?_
                    refine tw_nml (fun v347 ev347 => ?_)
                    refine tw_last dX10_send_152 f344 (vp_in_nI (by omega) (by decide)) ?_
                    obtain ⟨h348, eh348⟩ : ∃ z : tw_H, z = tw_up h311 ca_320 (.inl (d.2 1, 2, .inr (.inl (vp_updL F345 ((nI k195)).toNatClampNeg v347)))) := ⟨_, rfl⟩
                    rw [← eh348]
                    have sp349 : tw_sp d τ h144 g τ h348 := by rw [eh348]; exact sp312.set k329 (by decide) ⟨_, rfl⟩
                    have f350 : h348 r112 = some (.inr (13, [.int (nI j199), .int y_118, .int dy_119, .ref p_120])) := by rw [eh348, tw_up_n (fun q => absurd (q110k.1) (by rw [q, k329]; decide))]; exact f313
                    obtain ⟨v351, ev351⟩ : ∃ y : Int32, y = (nI k195) + 1 := ⟨_, rfl⟩
                    refine tw_iinc [(4, .int v351), (5, .long r308), (0, .ref x), (1, .int (nI j33)), (2, .int (nI j50)), (3, .ref r112)] 5 dX10_send_153 rfl (by rw [ev351]; rfl) (by decide) rfl ?_
                    refine tw_goto 95 dX10_send_156 (by decide) ?_
                    have qv351 := tw_nI3 ev351
                    rw [qv351]
                    refine tw_lv [2, 3, 4, 5, 0] rfl ?_
                    exact ih197 (k195 + 1)  _ sp349 f350 (by omega) (by omega)
              refine tw_lv [2, 3, 4, 1, 0] rfl ?_
              exact L198 (2 + 1) 0  _ (tw_sp.rf sp151.1) f153 (by omega) (by omega)
          · refine tw_iconst (v := 1) dX10_send_66 (by decide) ?_
            refine tw_goto 71 dX10_send_67 (by decide) ?_
            refine tw_iconst (v := 2) dX10_send_71 (by decide) ?_
            refine tw_bi (tw_callV (M := mX10_send) (pc := 72) okX10_refuse dX10_send_72 w_1204 rfl f77 [.int 1, .int 2] [] rfl rfl ⟨by decide, by decide⟩ (Nat.le_of_ble_eq_true rfl) (c_X10_refuse d g τ h65 sp72.1 x kx 1 2 (by decide)) 0 0 (Nat.le_of_ble_eq_true rfl) (Nat.le_of_ble_eq_true rfl)) (fun r354 h353 q352 => ?_) (fun E h1 q => q.elim)
            obtain ⟨e355, he356, hs357, hr358, h3359⟩ := q352
            have sp360 : tw_sp d τ h g τ h353 := by rw [he356]; exact sp72.set kx (by decide) hs357
            have f361 : h353 lh_87 = some (.inr (3, [.int (g.1 4), .ref el107, .int (nI (g.2 4))])) := by rw [he356, tw_up_n (fun q => absurd (k96) (by rw [q, kx]; decide))]; exact f106
            have f362 : h353 r112 = some (.inr (13, [.int x_117, .int y_118, .int dy_119, .ref p_120])) := by rw [he356, tw_up_n (fun q => absurd (q110k.1) (by rw [q, kx]; decide))]; exact f116
            have el363 : tw_el h353 (g.2 13) j33 = r112 := by rw [he356]; exact (tw_el25_up sp72.1 kl114 (by omega) (by rw [kx]; decide) (by rw [kx]; decide)).trans el113
            rcases hr358 with ei364 | ⟨ei364, ei364b⟩
            · rw [ei364]
              refine tw_if_eq 80 dX10_send_75 (by decide) (fun c365 => absurd c365 (by decide)) (fun _ => ?_)
              refine tw_iconst (v := 0) dX10_send_78 (by decide) ?_
              exact tw_iret dX10_send_79 rfl (Or.inl ⟨_, rfl, sp360⟩)
            · exact absurd ei364b (by decide)

set_option maxHeartbeats 4000000 in
set_option maxRecDepth 100000 in
theorem c_X10_due (d : tw_D) (g : tw_G) (τ : tw_K) (h : tw_H) (hw : tw_wt d g τ h) (x : Nat) (kx : τ x = 36) (y : Nat) (ky : τ y = 22) : tw_Ct d mX10_due 0 0 [.ref x, .ref y] h (tw_qi (fun r h1 => h1 = h) tw_nx) := by
  refine tw_of (by decide +kernel) (Nat.le_of_ble_eq_true rfl) ?_
  show tw_W d mX10_due _ 0 [(0, .ref x), (1, .ref y)] [] h 0 0
  have sp0 := tw_sp.rf hw
  refine tw_aload_n 1 dX10_due_0 rfl rfl ?_
  obtain ⟨e1, f2, v_3, dy_4, pd_5, i_6, j_7, rfl, k8, k9, k10⟩ := sp0.1 y 22 ky (by decide)
  refine tw_get (v := .int pd_5) rfl in_12 4 dX10_due_1 w_1447 rfl (by decide) f2 rfl ?_
  refine tw_if_eq 11 dX10_due_4 (by decide) (fun c11 => ?_) (fun c11 => ?_)
  · refine tw_aload_n 1 dX10_due_11 rfl rfl ?_
    refine tw_get (v := .int v_3) rfl in_12 2 dX10_due_12 w_1445 rfl (by decide) f2 rfl ?_
    refine tw_aload_n 1 dX10_due_15 rfl rfl ?_
    refine tw_get (v := .int v_3) rfl in_12 2 dX10_due_16 w_1445 rfl (by decide) f2 rfl ?_
    refine tw_bipush (v := 100) dX10_due_19 (by decide) ?_
    refine tw_idiv dX10_due_21 (by decide) ?_
    refine tw_nmi (fun v12 ev12 => ?_)
    refine tw_iconst (v := 0) dX10_due_22 (by decide) ?_
    refine tw_aload_n 0 dX10_due_23 rfl rfl ?_
    obtain ⟨e13, f14, th_15, td_16, ds_17, fr_18, ca_19, us_20, wo_21, cm_22, lc_23, lh_24, ld_25, rfl, k26, k27, k28, k29, k30, k31, k32, k33, k34, k35, k36, k37, k38, k39, k40, k41⟩ := sp0.1 x 36 kx (by decide)
    refine tw_get (v := .int td_16) rfl in_14 1 dX10_due_24 w_1152 rfl (by decide) f14 rfl ?_
    refine tw_aload_n 1 dX10_due_27 rfl rfl ?_
    refine tw_get (v := .int dy_4) rfl in_12 3 dX10_due_28 w_1446 rfl (by decide) f2 rfl ?_
    refine tw_isub dX10_due_31 ?_
    refine tw_nmi (fun v42 ev42 => ?_)
    refine tw_mmax dX10_due_32 w_1475 w_875 w_93 w_876 ⟨by decide, Nat.le_of_ble_eq_true rfl⟩ ?_
    refine tw_nmi (fun v43 ev43 => ?_)
    refine tw_bipush (v := 10) dX10_due_35 (by decide) ?_
    refine tw_idiv dX10_due_37 (by decide) ?_
    refine tw_nmi (fun v44 ev44 => ?_)
    refine tw_imul dX10_due_38 ?_
    refine tw_nmi (fun v45 ev45 => ?_)
    refine tw_iadd dX10_due_39 ?_
    refine tw_nmi (fun v46 ev46 => ?_)
    exact tw_iret dX10_due_40 rfl (Or.inl ⟨_, rfl, rfl⟩)
  · refine tw_iconst (v := 0) dX10_due_7 (by decide) ?_
    refine tw_goto 40 dX10_due_8 (by decide) ?_
    exact tw_iret dX10_due_40 rfl (Or.inl ⟨_, rfl, rfl⟩)

set_option maxHeartbeats 4000000 in
set_option maxRecDepth 100000 in
theorem c_X10_toPay (d : tw_D) (g : tw_G) (τ : tw_K) (h : tw_H) (hw : tw_wt d g τ h) (x : Nat) (kx : τ x = 36) (y : Nat) (ky : τ y = 22) (m : Int32) (a i : Nat) (ha : a < g.2 4) (hd1 : tw_th (h y) = nI a) (hi : i < g.2 3) (hd2 : tw_th (h (tw_el h (g.2 13) a)) = nI i) : tw_Ct d mX10_toPay 0 0 [.ref x, .ref y, .int m] h (tw_ql (fun r h1 => h1 = h) tw_nx) := by
  refine tw_of (by decide +kernel) (Nat.le_of_ble_eq_true rfl) ?_
  show tw_W d mX10_toPay _ 0 [(0, .ref x), (1, .ref y), (2, .int m)] [] h 0 0
  have sp0 := tw_sp.rf hw
  refine tw_iload_n 2 dX10_toPay_0 rfl rfl ?_
  refine tw_iconst (v := 1) dX10_toPay_1 (by decide) ?_
  refine tw_icmp_ne 14 dX10_toPay_2 (by decide) (fun c1 => ?_) (fun c1 => ?_)
  · refine tw_ldc2 (v := 10) dX10_toPay_14 w_1373 ?_
    refine tw_aload_n 0 dX10_toPay_17 rfl rfl ?_
    refine tw_aload_n 1 dX10_toPay_18 rfl rfl ?_
    obtain ⟨e2, f3, th_4, td_5, ds_6, fr_7, ca_8, us_9, wo_10, cm_11, lc_12, lh_13, ld_14, rfl, k15, k16, k17, k18, k19, k20, k21, k22, k23, k24, k25, k26, k27, k28, k29, k30⟩ := sp0.1 x 36 kx (by decide)
    refine tw_bi (tw_callV (M := mX10_toPay) (pc := 19) okX10_due dX10_toPay_19 w_1471 rfl f3 [.ref y] [.long 10] rfl rfl ⟨by decide, by decide⟩ (Nat.le_of_ble_eq_true rfl) (c_X10_due d g τ h sp0.1 x kx y ky) 0 0 (Nat.le_of_ble_eq_true rfl) (Nat.le_of_ble_eq_true rfl)) (fun r33 h32 q31 => ?_) (fun E h1 q => q.elim)
    rw [q31]
    refine tw_i2l dX10_toPay_22 ?_
    refine tw_nml (fun v34 ev34 => ?_)
    refine tw_lmul dX10_toPay_23 ?_
    refine tw_nml (fun v35 ev35 => ?_)
    refine tw_aload_n 0 dX10_toPay_24 rfl rfl ?_
    refine tw_get (v := .ref lc_12) rfl in_14 9 dX10_toPay_25 w_1160 rfl (by decide) f3 rfl ?_
    refine tw_aload_n 0 dX10_toPay_28 rfl rfl ?_
    refine tw_get (v := .ref lh_13) rfl in_14 10 dX10_toPay_29 w_1161 rfl (by decide) f3 rfl ?_
    refine tw_aload_n 1 dX10_toPay_32 rfl rfl ?_
    obtain ⟨e36, f37, v_38, dy_39, pd_40, i_41, j_42, rfl, k43, k44, k45⟩ := sp0.1 y 22 ky (by decide)
    refine tw_get (v := .int (nI i_41)) rfl in_12 0 dX10_toPay_33 w_1443 rfl (by decide) f37 rfl ?_
    obtain ⟨e46, f47, ⟨el48, rfl, k49⟩, k50⟩ := sp0.1 lh_13 25 k22 (by decide)
    refine tw_br (tw_callV (M := mX10_toPay) (pc := 36) okJx4a65c_get_915e3 dX10_toPay_36 w_1296 rfl f47 [.int (nI i_41)] [.ref lc_12, .long v35] rfl rfl ⟨by decide, by decide⟩ (Nat.le_of_ble_eq_true rfl) (c25_get d g τ h sp0.1 lh_13 k22 i_41 (by omega) (by omega)) 0 0 (Nat.le_of_ble_eq_true rfl) (Nat.le_of_ble_eq_true rfl)) (fun r53 h52 q51 => ?_) (fun E h1 q => q.elim)
    obtain ⟨q51e, q51k⟩ := q51
    rw [q51e]
    have el54 : tw_el h (g.2 13) i_41 = r53 := by rw [← k50]; exact q51k.2.symm
    have kl55 : τ (g.2 13) = 25 := by rw [← k50]; exact k22
    obtain ⟨e56, f57, x_58, y_59, dy_60, p_61, rfl, k62, k63, k64⟩ := sp0.1 r53 23 q51k.1 (by decide)
    refine tw_castS (ci := 13) rfl dX10_toPay_39 w_1336 f57 ?_
    refine tw_get (v := .int x_58) rfl in_13 0 dX10_toPay_42 w_1342 rfl (by decide) f57 rfl ?_
    have q65 : i_41 = a := tw_nIj (by have z := hd1; rw [f37] at z; exact z) (by omega) (by omega)
    have q66 : x_58 = nI i := by have z := hd2; rw [← q65, el54, f57] at z; exact z
    subst q66
    obtain ⟨e67, f68, ⟨el69, rfl, k70⟩, k71⟩ := sp0.1 lc_12 24 k21 (by decide)
    refine tw_br (tw_callV (M := mX10_toPay) (pc := 45) okJx4a65c_get_915e3 dX10_toPay_45 w_1296 rfl f68 [.int (nI i)] [.long v35] rfl rfl ⟨by decide, by decide⟩ (Nat.le_of_ble_eq_true rfl) (c24_get d g τ h sp0.1 lc_12 k21 i (by omega) (by omega)) 0 0 (Nat.le_of_ble_eq_true rfl) (Nat.le_of_ble_eq_true rfl)) (fun r74 h73 q72 => ?_) (fun E h1 q => q.elim)
    obtain ⟨q72e, q72k⟩ := q72
    rw [q72e]
    have el75 : tw_el h (g.2 12) i = r74 := by rw [← k71]; exact q72k.2.symm
    have kl76 : τ (g.2 12) = 24 := by rw [← k71]; exact k21
    obtain ⟨e77, f78, r_79, c_80, v_81, o_82, t_83, rfl, k84, k85, k86, k87, k88⟩ := sp0.1 r74 21 q72k.1 (by decide)
    refine tw_castS (ci := 11) rfl dX10_toPay_48 w_1212 f78 ?_
    refine tw_get (v := .int r_79) rfl in_11 0 dX10_toPay_51 w_1218 rfl (by decide) f78 rfl ?_
    refine tw_i2l dX10_toPay_54 ?_
    refine tw_nml (fun v89 ev89 => ?_)
    refine tw_bl (tw_callS (M := mX10_toPay) (pc := 55) okX10_up dX10_toPay_55 w_1375 [.long v35, .long v89] [] rfl rfl ⟨by decide, by decide⟩ (Nat.le_of_ble_eq_true rfl) (c_X10_up d g τ h sp0.1 v35 v89 (tw_nzl ev89 (tw_1le k87))) 0 0 (Nat.le_of_ble_eq_true rfl) (Nat.le_of_ble_eq_true rfl)) (fun r92 h91 q90 => ?_) (fun E h1 q => q.elim)
    rw [q90]
    exact tw_lret dX10_toPay_58 rfl (Or.inl ⟨_, rfl, rfl⟩)
  · refine tw_aload_n 0 dX10_toPay_5 rfl rfl ?_
    refine tw_aload_n 1 dX10_toPay_6 rfl rfl ?_
    obtain ⟨e93, f94, th_95, td_96, ds_97, fr_98, ca_99, us_100, wo_101, cm_102, lc_103, lh_104, ld_105, rfl, k106, k107, k108, k109, k110, k111, k112, k113, k114, k115, k116, k117, k118, k119, k120, k121⟩ := sp0.1 x 36 kx (by decide)
    refine tw_bi (tw_callV (M := mX10_toPay) (pc := 7) okX10_due dX10_toPay_7 w_1471 rfl f94 [.ref y] [] rfl rfl ⟨by decide, by decide⟩ (Nat.le_of_ble_eq_true rfl) (c_X10_due d g τ h sp0.1 x kx y ky) 0 0 (Nat.le_of_ble_eq_true rfl) (Nat.le_of_ble_eq_true rfl)) (fun r124 h123 q122 => ?_) (fun E h1 q => q.elim)
    rw [q122]
    refine tw_i2l dX10_toPay_10 ?_
    refine tw_nml (fun v125 ev125 => ?_)
    refine tw_goto 58 dX10_toPay_11 (by decide) ?_
    exact tw_lret dX10_toPay_58 rfl (Or.inl ⟨_, rfl, rfl⟩)

set_option maxHeartbeats 4000000 in
set_option maxRecDepth 100000 in
theorem c_X10_isNoPay (d : tw_D) (g : tw_G) (τ : tw_K) (h : tw_H) (hw : tw_wt d g τ h) (x : Nat) (kx : τ x = 36) (y : Nat) (ky : τ y = 22) (m : Int32) (hm : m = 0 ∨ m = 1) : tw_Ct d mX10_isNoPay 0 0 [.ref x, .ref y, .int m] h (tw_qi (fun r h1 => h1 = h ∧ (r = 1 ∨ r = 0 ∧ ∃ a i, a < g.2 4 ∧ tw_th (h y) = nI a ∧ i < g.2 3 ∧ tw_th (h (tw_el h (g.2 13) a)) = nI i)) tw_nx) := by
  refine tw_of (by decide +kernel) (Nat.le_of_ble_eq_true rfl) ?_
  show tw_W d mX10_isNoPay _ 0 [(0, .ref x), (1, .ref y), (2, .int m)] [] h 0 0
  have sp0 := tw_sp.rf hw
  refine tw_aload_n 0 dX10_isNoPay_0 rfl rfl ?_
  obtain ⟨e1, f2, th_3, td_4, ds_5, fr_6, ca_7, us_8, wo_9, cm_10, lc_11, lh_12, ld_13, rfl, k14, k15, k16, k17, k18, k19, k20, k21, k22, k23, k24, k25, k26, k27, k28, k29⟩ := sp0.1 x 36 kx (by decide)
  refine tw_get (v := .ref lh_12) rfl in_14 10 dX10_isNoPay_1 w_1161 rfl (by decide) f2 rfl ?_
  refine tw_aload_n 1 dX10_isNoPay_4 rfl rfl ?_
  obtain ⟨e30, f31, v_32, dy_33, pd_34, i_35, j_36, rfl, k37, k38, k39⟩ := sp0.1 y 22 ky (by decide)
  refine tw_get (v := .int (nI i_35)) rfl in_12 0 dX10_isNoPay_5 w_1443 rfl (by decide) f31 rfl ?_
  obtain ⟨e40, f41, ⟨el42, rfl, k43⟩, k44⟩ := sp0.1 lh_12 25 k21 (by decide)
  refine tw_br (tw_callV (M := mX10_isNoPay) (pc := 8) okJx4a65c_get_915e3 dX10_isNoPay_8 w_1296 rfl f41 [.int (nI i_35)] [] rfl rfl ⟨by decide, by decide⟩ (Nat.le_of_ble_eq_true rfl) (c25_get d g τ h sp0.1 lh_12 k21 i_35 (by omega) (by omega)) 0 0 (Nat.le_of_ble_eq_true rfl) (Nat.le_of_ble_eq_true rfl)) (fun r47 h46 q45 => ?_) (fun E h1 q => q.elim)
  obtain ⟨q45e, q45k⟩ := q45
  rw [q45e]
  have el48 : tw_el h (g.2 13) i_35 = r47 := by rw [← k44]; exact q45k.2.symm
  have kl49 : τ (g.2 13) = 25 := by rw [← k44]; exact k21
  obtain ⟨e50, f51, x_52, y_53, dy_54, p_55, rfl, k56, k57, k58⟩ := sp0.1 r47 23 q45k.1 (by decide)
  refine tw_castS (ci := 13) rfl dX10_isNoPay_11 w_1336 f51 ?_
  refine tw_astore_n [(3, .ref r47), (0, .ref x), (1, .ref y), (2, .int m)] dX10_isNoPay_14 rfl (by decide) rfl ?_
  refine tw_aload_n 2 dX10_isNoPay_15 rfl rfl ?_
  refine tw_get (v := .int pd_34) rfl in_12 4 dX10_isNoPay_16 w_1447 rfl (by decide) f31 rfl ?_
  refine tw_if_ne 67 dX10_isNoPay_19 (by decide) (fun c59 => ?_) (fun c59 => ?_)
  · refine tw_iconst (v := 1) dX10_isNoPay_67 (by decide) ?_
    refine tw_goto 72 dX10_isNoPay_68 (by decide) ?_
    exact tw_zret dX10_isNoPay_72 rfl rfl (Or.inl ⟨_, rfl, ⟨rfl, (Or.inl rfl)⟩⟩)
  · refine tw_aload_n 0 dX10_isNoPay_22 rfl rfl ?_
    refine tw_get (v := .int x_52) rfl in_13 0 dX10_isNoPay_23 w_1342 rfl (by decide) f51 rfl ?_
    refine tw_iconst (v := -1) dX10_isNoPay_26 (by decide) ?_
    refine tw_icmp_eq 67 dX10_isNoPay_27 (by decide) (fun c60 => ?_) (fun c60 => ?_)
    · refine tw_iconst (v := 1) dX10_isNoPay_67 (by decide) ?_
      refine tw_goto 72 dX10_isNoPay_68 (by decide) ?_
      exact tw_zret dX10_isNoPay_72 rfl rfl (Or.inl ⟨_, rfl, ⟨rfl, (Or.inl rfl)⟩⟩)
    · refine tw_aload_n 1 dX10_isNoPay_30 rfl rfl ?_
      refine tw_get (v := .ref lh_12) rfl in_14 10 dX10_isNoPay_31 w_1161 rfl (by decide) f2 rfl ?_
      refine tw_aload_n 2 dX10_isNoPay_34 rfl rfl ?_
      refine tw_get (v := .int (nI j_36)) rfl in_12 1 dX10_isNoPay_35 w_1444 rfl (by decide) f31 rfl ?_
      refine tw_br (tw_callV (M := mX10_isNoPay) (pc := 38) okJx4a65c_get_915e3 dX10_isNoPay_38 w_1296 rfl f41 [.int (nI j_36)] [] rfl rfl ⟨by decide, by decide⟩ (Nat.le_of_ble_eq_true rfl) (c25_get d g τ h sp0.1 lh_12 k21 j_36 (by omega) (by omega)) 0 0 (Nat.le_of_ble_eq_true rfl) (Nat.le_of_ble_eq_true rfl)) (fun r63 h62 q61 => ?_) (fun E h1 q => q.elim)
      obtain ⟨q61e, q61k⟩ := q61
      rw [q61e]
      have el64 : tw_el h (g.2 13) j_36 = r63 := by rw [← k44]; exact q61k.2.symm
      have kl65 : τ (g.2 13) = 25 := by rw [← k44]; exact k21
      obtain ⟨e66, f67, x_68, y_69, dy_70, p_71, rfl, k72, k73, k74⟩ := sp0.1 r63 23 q61k.1 (by decide)
      refine tw_castS (ci := 13) rfl dX10_isNoPay_41 w_1336 f67 ?_
      refine tw_get (v := .int x_68) rfl in_13 0 dX10_isNoPay_44 w_1342 rfl (by decide) f67 rfl ?_
      refine tw_iconst (v := -1) dX10_isNoPay_47 (by decide) ?_
      refine tw_icmp_eq 67 dX10_isNoPay_48 (by decide) (fun c75 => ?_) (fun c75 => ?_)
      · refine tw_iconst (v := 1) dX10_isNoPay_67 (by decide) ?_
        refine tw_goto 72 dX10_isNoPay_68 (by decide) ?_
        exact tw_zret dX10_isNoPay_72 rfl rfl (Or.inl ⟨_, rfl, ⟨rfl, (Or.inl rfl)⟩⟩)
      · refine tw_aload_n 0 dX10_isNoPay_51 rfl rfl ?_
        refine tw_get (v := .ref p_55) rfl in_13 3 dX10_isNoPay_52 w_1348 rfl (by decide) f51 rfl ?_
        refine tw_iload_n 3 dX10_isNoPay_55 rfl rfl ?_
        obtain ⟨e76, f77, F78, rfl⟩ := sp0.1 p_55 31 k56 (by decide)
        obtain ⟨v79, ev79⟩ : ∃ y : Int64, F78 (m).toNatClampNeg = y := ⟨_, rfl⟩
        refine tw_lald (v := v79) dX10_isNoPay_56 f77 (tw_in01 hm (by decide)) ev79 ?_
        refine tw_aload_n 1 dX10_isNoPay_57 rfl rfl ?_
        refine tw_aload_n 2 dX10_isNoPay_58 rfl rfl ?_
        refine tw_iload_n 3 dX10_isNoPay_59 rfl rfl ?_
        obtain ⟨j80, hj81, ej82⟩ := k57.resolve_left c60
        subst ej82
        refine tw_bl (tw_callV (M := mX10_isNoPay) (pc := 60) okX10_toPay dX10_isNoPay_60 w_1467 rfl f2 [.ref y, .int m] [.long v79] rfl rfl ⟨by decide, by decide⟩ (Nat.le_of_ble_eq_true rfl) (c_X10_toPay d g τ h sp0.1 x kx y ky m i_35 j80 (by omega) (by rw [f31]; rfl) (by omega) (by rw [el48, f51]; rfl)) 0 0 (Nat.le_of_ble_eq_true rfl) (Nat.le_of_ble_eq_true rfl)) (fun r85 h84 q83 => ?_) (fun E h1 q => q.elim)
        rw [q83]
        refine tw_lcmp dX10_isNoPay_63 ?_
        refine tw_nmi (fun v86 ev86 => ?_)
        refine tw_if_ge 71 dX10_isNoPay_64 (by decide) (fun c87 => ?_) (fun c87 => ?_)
        · refine tw_iconst (v := 0) dX10_isNoPay_71 (by decide) ?_
          exact tw_zret dX10_isNoPay_72 rfl rfl (Or.inl ⟨_, rfl, ⟨rfl, (Or.inr ⟨rfl, i_35, j80, by omega, by rw [f31]; rfl, by omega, by rw [el48, f51]; rfl⟩)⟩⟩)
        · refine tw_iconst (v := 1) dX10_isNoPay_67 (by decide) ?_
          refine tw_goto 72 dX10_isNoPay_68 (by decide) ?_
          exact tw_zret dX10_isNoPay_72 rfl rfl (Or.inl ⟨_, rfl, ⟨rfl, (Or.inl rfl)⟩⟩)

set_option maxHeartbeats 4000000 in
set_option maxRecDepth 100000 in
theorem c_X10_settle (d : tw_D) (g : tw_G) (τ : tw_K) (h : tw_H) (hw : tw_wt d g τ h) (x : Nat) (kx : τ x = 36) (n : Int32) (m : Int32) : tw_Ct d mX10_settle 0 0 [.ref x, .int n, .int m] h (tw_qi (fun r h1 => tw_sp d τ h g τ h1) tw_nx) := by
  refine tw_of (by decide +kernel) (Nat.le_of_ble_eq_true rfl) ?_
  show tw_W d mX10_settle _ 0 [(0, .ref x), (1, .int n), (2, .int m)] [] h 0 0
  have sp0 := tw_sp.rf hw
  refine tw_aload_n 0 dX10_settle_0 rfl rfl ?_
  refine tw_iload_n 1 dX10_settle_1 rfl rfl ?_
  refine tw_iconst (v := 0) dX10_settle_2 (by decide) ?_
  refine tw_aload_n 0 dX10_settle_3 rfl rfl ?_
  obtain ⟨e1, f2, th_3, td_4, ds_5, fr_6, ca_7, us_8, wo_9, cm_10, lc_11, lh_12, ld_13, rfl, k14, k15, k16, k17, k18, k19, k20, k21, k22, k23, k24, k25, k26, k27, k28, k29⟩ := sp0.1 x 36 kx (by decide)
  refine tw_get (v := .ref ld_13) rfl in_14 11 dX10_settle_4 w_1162 rfl (by decide) f2 rfl ?_
  obtain ⟨e30, f31, ⟨el32, rfl, k33⟩, k34⟩ := sp0.1 ld_13 26 k22 (by decide)
  refine tw_bi (tw_callV (M := mX10_settle) (pc := 7) okJx4a65c_size_8abf5 dX10_settle_7 w_1208 rfl f31 [] [.int 0, .int n, .ref x] rfl rfl ⟨by decide, by decide⟩ (Nat.le_of_ble_eq_true rfl) (c26_size d g τ h sp0.1 ld_13 k22) 0 0 (Nat.le_of_ble_eq_true rfl) (Nat.le_of_ble_eq_true rfl)) (fun r37 h36 q35 => ?_) (fun E h1 q => q.elim)
  obtain ⟨q35e, q35r⟩ := q35
  rw [q35e, q35r]
  refine tw_iconst (v := 1) dX10_settle_10 (by decide) ?_
  refine tw_isub dX10_settle_11 ?_
  refine tw_nmi (fun v38 ev38 => ?_)
  refine tw_bi (tw_callS (M := mX10_settle) (pc := 12) okX10_isIn dX10_settle_12 w_1196 [.int n, .int 0, .int v38] [.ref x] rfl rfl ⟨by decide, by decide⟩ (Nat.le_of_ble_eq_true rfl) (c_X10_isIn d g τ h sp0.1 n 0 v38) 0 0 (Nat.le_of_ble_eq_true rfl) (Nat.le_of_ble_eq_true rfl)) (fun r41 h40 q39 => ?_) (fun E h1 q => q.elim)
  obtain ⟨q39e, q39d⟩ := q39
  rw [q39e]
  rcases q39d with ⟨q39r, q39n⟩ | ⟨q39r, q39a, q39b⟩
  · rw [q39r]
    refine tw_if_ne 22 dX10_settle_15 (by decide) (fun c42 => absurd (by decide) c42) (fun _ => ?_)
    refine tw_iconst (v := 1) dX10_settle_18 (by decide) ?_
    refine tw_goto 23 dX10_settle_19 (by decide) ?_
    refine tw_iconst (v := 1) dX10_settle_23 (by decide) ?_
    refine tw_bi (tw_callV (M := mX10_settle) (pc := 24) okX10_start dX10_settle_24 w_1200 rfl f2 [.int 1, .int 1] [] rfl rfl ⟨by decide, by decide⟩ (Nat.le_of_ble_eq_true rfl) (c_X10_start d g τ h sp0.1 x kx 1 1 (by decide)) 0 0 (Nat.le_of_ble_eq_true rfl) (Nat.le_of_ble_eq_true rfl)) (fun r45 h44 q43 => ?_) (fun E h1 q => q.elim)
    obtain ⟨e46, he47, hs48, hr49, h350⟩ := q43
    have sp51 : tw_sp d τ h g τ h44 := by rw [he47]; exact sp0.set kx (by decide) hs48
    have f52 : h44 ld_13 = some (.inr (3, [.int (g.1 5), .ref el32, .int (nI (g.2 5))])) := by rw [he47, tw_up_n (fun q => absurd (k22) (by rw [q, kx]; decide))]; exact f31
    rcases hr49 with ei53 | ⟨ei53, ei53b⟩
    · rw [ei53]
      refine tw_if_ne 66 dX10_settle_27 (by decide) (fun _ => ?_) (fun c54 => absurd c54 (by decide))
      refine tw_iconst (v := 0) dX10_settle_66 (by decide) ?_
      exact tw_iret dX10_settle_67 rfl (Or.inl ⟨_, rfl, sp51⟩)
    · exact absurd ei53b (by decide)
  · rw [q39r]
    refine tw_if_ne 22 dX10_settle_15 (by decide) (fun _ => ?_) (fun c55 => absurd c55 (by decide))
    refine tw_iconst (v := 0) dX10_settle_22 (by decide) ?_
    refine tw_iconst (v := 1) dX10_settle_23 (by decide) ?_
    refine tw_bi (tw_callV (M := mX10_settle) (pc := 24) okX10_start dX10_settle_24 w_1200 rfl f2 [.int 0, .int 1] [] rfl rfl ⟨by decide, by decide⟩ (Nat.le_of_ble_eq_true rfl) (c_X10_start d g τ h sp0.1 x kx 0 1 (by decide)) 0 0 (Nat.le_of_ble_eq_true rfl) (Nat.le_of_ble_eq_true rfl)) (fun r58 h57 q56 => ?_) (fun E h1 q => q.elim)
    obtain ⟨e59, he60, hs61, hr62, h363⟩ := q56
    have sp64 : tw_sp d τ h g τ h57 := by rw [he60]; exact sp0.set kx (by decide) hs61
    have f65 : h57 ld_13 = some (.inr (3, [.int (g.1 5), .ref el32, .int (nI (g.2 5))])) := by rw [he60, tw_up_n (fun q => absurd (k22) (by rw [q, kx]; decide))]; exact f31
    rcases hr62 with ei66 | ⟨ei66, ei66b⟩
    · rw [ei66]
      refine tw_if_ne 66 dX10_settle_27 (by decide) (fun _ => ?_) (fun c67 => absurd c67 (by decide))
      refine tw_iconst (v := 0) dX10_settle_66 (by decide) ?_
      exact tw_iret dX10_settle_67 rfl (Or.inl ⟨_, rfl, sp64⟩)
    · rw [ei66]
      refine tw_if_ne 66 dX10_settle_27 (by decide) (fun c68 => absurd (by decide) c68) (fun _ => ?_)
      refine tw_aload_n 0 dX10_settle_30 rfl rfl ?_
      refine tw_iload_n 2 dX10_settle_31 rfl rfl ?_
      refine tw_bi (tw_callS (M := mX10_settle) (pc := 32) okX10_isNoMetal dX10_settle_32 w_1312 [.int m] [.ref x] rfl rfl ⟨by decide, by decide⟩ (Nat.le_of_ble_eq_true rfl) (c_X10_isNoMetal d g τ h57 sp64.1 m) 0 0 (Nat.le_of_ble_eq_true rfl) (Nat.le_of_ble_eq_true rfl)) (fun r71 h70 q69 => ?_) (fun E h1 q => q.elim)
      obtain ⟨q69e, q69d⟩ := q69
      rw [q69e]
      rcases q69d with q69r | ⟨q69r, q69m⟩
      · rw [q69r]
        refine tw_iconst (v := 2) dX10_settle_35 (by decide) ?_
        obtain ⟨e72, f73, th_74, td_75, ds_76, fr_77, ca_78, us_79, wo_80, cm_81, lc_82, lh_83, ld_84, rfl, k85, k86, k87, k88, k89, k90, k91, k92, k93, k94, k95, k96, k97, k98, k99, k100⟩ := sp64.1 x 36 kx (by decide)
        refine tw_bi (tw_callV (M := mX10_settle) (pc := 36) okX10_refuse dX10_settle_36 w_1204 rfl f73 [.int 1, .int 2] [] rfl rfl ⟨by decide, by decide⟩ (Nat.le_of_ble_eq_true rfl) (c_X10_refuse d g τ h57 sp64.1 x kx 1 2 (by decide)) 0 0 (Nat.le_of_ble_eq_true rfl) (Nat.le_of_ble_eq_true rfl)) (fun r103 h102 q101 => ?_) (fun E h1 q => q.elim)
        obtain ⟨e104, he105, hs106, hr107, h3108⟩ := q101
        have sp109 : tw_sp d τ h g τ h102 := by rw [he105]; exact sp64.set kx (by decide) hs106
        have f110 : h102 ld_13 = some (.inr (3, [.int (g.1 5), .ref el32, .int (nI (g.2 5))])) := by rw [he105, tw_up_n (fun q => absurd (k22) (by rw [q, kx]; decide))]; exact f65
        rcases hr107 with ei111 | ⟨ei111, ei111b⟩
        · rw [ei111]
          refine tw_if_ne 66 dX10_settle_39 (by decide) (fun _ => ?_) (fun c112 => absurd c112 (by decide))
          refine tw_iconst (v := 0) dX10_settle_66 (by decide) ?_
          exact tw_iret dX10_settle_67 rfl (Or.inl ⟨_, rfl, sp109⟩)
        · exact absurd ei111b (by decide)
      · rw [q69r]
        refine tw_iconst (v := 2) dX10_settle_35 (by decide) ?_
        obtain ⟨e113, f114, th_115, td_116, ds_117, fr_118, ca_119, us_120, wo_121, cm_122, lc_123, lh_124, ld_125, rfl, k126, k127, k128, k129, k130, k131, k132, k133, k134, k135, k136, k137, k138, k139, k140, k141⟩ := sp64.1 x 36 kx (by decide)
        refine tw_bi (tw_callV (M := mX10_settle) (pc := 36) okX10_refuse dX10_settle_36 w_1204 rfl f114 [.int 0, .int 2] [] rfl rfl ⟨by decide, by decide⟩ (Nat.le_of_ble_eq_true rfl) (c_X10_refuse d g τ h57 sp64.1 x kx 0 2 (by decide)) 0 0 (Nat.le_of_ble_eq_true rfl) (Nat.le_of_ble_eq_true rfl)) (fun r144 h143 q142 => ?_) (fun E h1 q => q.elim)
        obtain ⟨e145, he146, hs147, hr148, h3149⟩ := q142
        have sp150 : tw_sp d τ h g τ h143 := by rw [he146]; exact sp64.set kx (by decide) hs147
        have f151 : h143 ld_13 = some (.inr (3, [.int (g.1 5), .ref el32, .int (nI (g.2 5))])) := by rw [he146, tw_up_n (fun q => absurd (k22) (by rw [q, kx]; decide))]; exact f65
        rcases hr148 with ei152 | ⟨ei152, ei152b⟩
        · rw [ei152]
          refine tw_if_ne 66 dX10_settle_39 (by decide) (fun _ => ?_) (fun c153 => absurd c153 (by decide))
          refine tw_iconst (v := 0) dX10_settle_66 (by decide) ?_
          exact tw_iret dX10_settle_67 rfl (Or.inl ⟨_, rfl, sp150⟩)
        · rw [ei152]
          refine tw_if_ne 66 dX10_settle_39 (by decide) (fun c154 => absurd (by decide) c154) (fun _ => ?_)
          refine tw_aload_n 0 dX10_settle_42 rfl rfl ?_
          refine tw_aload_n 0 dX10_settle_43 rfl rfl ?_
          refine tw_aload_n 0 dX10_settle_44 rfl rfl ?_
          obtain ⟨e155, f156, th_157, td_158, ds_159, fr_160, ca_161, us_162, wo_163, cm_164, lc_165, lh_166, ld_167, rfl, k168, k169, k170, k171, k172, k173, k174, k175, k176, k177, k178, k179, k180, k181, k182, k183⟩ := sp150.1 x 36 kx (by decide)
          refine tw_get (v := .ref ld_167) rfl in_14 11 dX10_settle_45 w_1162 rfl (by decide) f156 rfl ?_
          refine tw_iload_n 1 dX10_settle_48 rfl rfl ?_
          obtain ⟨j184, hj185, ej186⟩ := tw_isc q39a q39b ev38 (by omega)
          subst ej186
          obtain ⟨e187, f188, ⟨el189, rfl, k190⟩, k191⟩ := sp150.1 ld_167 26 k176 (by decide)
          refine tw_br (tw_callV (M := mX10_settle) (pc := 49) okJx4a65c_get_915e3 dX10_settle_49 w_1296 rfl f188 [.int (nI j184)] [.ref x, .ref x] rfl rfl ⟨by decide, by decide⟩ (Nat.le_of_ble_eq_true rfl) (c26_get d g τ h143 sp150.1 ld_167 k176 j184 (by omega) (by omega)) 0 0 (Nat.le_of_ble_eq_true rfl) (Nat.le_of_ble_eq_true rfl)) (fun r194 h193 q192 => ?_) (fun E h1 q => q.elim)
          obtain ⟨q192e, q192k⟩ := q192
          rw [q192e]
          have el195 : tw_el h143 (g.2 14) j184 = r194 := by rw [← k191]; exact q192k.2.symm
          have kl196 : τ (g.2 14) = 26 := by rw [← k191]; exact k176
          obtain ⟨e197, f198, v_199, dy_200, pd_201, i_202, j_203, rfl, k204, k205, k206⟩ := sp150.1 r194 22 q192k.1 (by decide)
          refine tw_castS (ci := 12) rfl dX10_settle_52 w_1437 f198 ?_
          refine tw_iload_n 2 dX10_settle_55 rfl rfl ?_
          refine tw_bi (tw_callV (M := mX10_settle) (pc := 56) okX10_isNoPay dX10_settle_56 w_1463 rfl f156 [.ref r194, .int m] [.ref x] rfl rfl ⟨by decide, by decide⟩ (Nat.le_of_ble_eq_true rfl) (c_X10_isNoPay d g τ h143 sp150.1 x kx r194 q192k.1 m q69m) 0 0 (Nat.le_of_ble_eq_true rfl) (Nat.le_of_ble_eq_true rfl)) (fun r209 h208 q207 => ?_) (fun E h1 q => q.elim)
          obtain ⟨q207e, q207d⟩ := q207
          rw [q207e]
          rcases q207d with q207r | ⟨q207r, a210, i211, ha212, p213, hi214, p215⟩
          · rw [q207r]
            refine tw_iconst (v := 3) dX10_settle_59 (by decide) ?_
            refine tw_bi (tw_callV (M := mX10_settle) (pc := 60) okX10_refuse dX10_settle_60 w_1204 rfl f156 [.int 1, .int 3] [] rfl rfl ⟨by decide, by decide⟩ (Nat.le_of_ble_eq_true rfl) (c_X10_refuse d g τ h143 sp150.1 x kx 1 3 (by decide)) 0 0 (Nat.le_of_ble_eq_true rfl) (Nat.le_of_ble_eq_true rfl)) (fun r218 h217 q216 => ?_) (fun E h1 q => q.elim)
            obtain ⟨e219, he220, hs221, hr222, h3223⟩ := q216
            have sp224 : tw_sp d τ h g τ h217 := by rw [he220]; exact sp150.set kx (by decide) hs221
            have f225 : h217 ld_13 = some (.inr (3, [.int (g.1 5), .ref el32, .int (nI (g.2 5))])) := by rw [he220, tw_up_n (fun q => absurd (k22) (by rw [q, kx]; decide))]; exact f151
            have f226 : h217 ld_167 = some (.inr (3, [.int (g.1 5), .ref el189, .int (nI (g.2 5))])) := by rw [he220, tw_up_n (fun q => absurd (k176) (by rw [q, kx]; decide))]; exact f188
            have f227 : h217 r194 = some (.inr (12, [.int (nI i_202), .int (nI j_203), .int v_199, .int dy_200, .int pd_201])) := by rw [he220, tw_up_n (fun q => absurd (q192k.1) (by rw [q, kx]; decide))]; exact f198
            have el228 : tw_el h217 (g.2 14) j184 = r194 := by rw [he220]; exact (tw_el26_up sp150.1 kl196 (by omega) (by rw [kx]; decide) (by rw [kx]; decide)).trans el195
            rcases hr222 with ei229 | ⟨ei229, ei229b⟩
            · rw [ei229]
              refine tw_if_eq 68 dX10_settle_63 (by decide) (fun c230 => absurd c230 (by decide)) (fun _ => ?_)
              refine tw_iconst (v := 0) dX10_settle_66 (by decide) ?_
              exact tw_iret dX10_settle_67 rfl (Or.inl ⟨_, rfl, sp224⟩)
            · exact absurd ei229b (by decide)
          · rw [q207r]
            obtain ⟨e231, f232, ⟨el233, rfl, k234⟩, k235⟩ := sp150.1 lh_166 25 k175 (by decide)
            have kl237 : τ (g.2 13) = 25 := by rw [← k235]; exact k175
            have kz236 := tw_elk25 sp150.1 kl237 ha212
            refine tw_iconst (v := 3) dX10_settle_59 (by decide) ?_
            refine tw_bi (tw_callV (M := mX10_settle) (pc := 60) okX10_refuse dX10_settle_60 w_1204 rfl f156 [.int 0, .int 3] [] rfl rfl ⟨by decide, by decide⟩ (Nat.le_of_ble_eq_true rfl) (c_X10_refuse d g τ h143 sp150.1 x kx 0 3 (by decide)) 0 0 (Nat.le_of_ble_eq_true rfl) (Nat.le_of_ble_eq_true rfl)) (fun r240 h239 q238 => ?_) (fun E h1 q => q.elim)
            obtain ⟨e241, he242, hs243, hr244, h3245⟩ := q238
            have sp246 : tw_sp d τ h g τ h239 := by rw [he242]; exact sp150.set kx (by decide) hs243
            have f247 : h239 ld_13 = some (.inr (3, [.int (g.1 5), .ref el32, .int (nI (g.2 5))])) := by rw [he242, tw_up_n (fun q => absurd (k22) (by rw [q, kx]; decide))]; exact f151
            have f248 : h239 ld_167 = some (.inr (3, [.int (g.1 5), .ref el189, .int (nI (g.2 5))])) := by rw [he242, tw_up_n (fun q => absurd (k176) (by rw [q, kx]; decide))]; exact f188
            have f249 : h239 r194 = some (.inr (12, [.int (nI i_202), .int (nI j_203), .int v_199, .int dy_200, .int pd_201])) := by rw [he242, tw_up_n (fun q => absurd (q192k.1) (by rw [q, kx]; decide))]; exact f198
            have f250 : h239 lh_166 = some (.inr (3, [.int (g.1 4), .ref el233, .int (nI (g.2 4))])) := by rw [he242, tw_up_n (fun q => absurd (k175) (by rw [q, kx]; decide))]; exact f232
            have el251 : tw_el h239 (g.2 14) j184 = r194 := by rw [he242]; exact (tw_el26_up sp150.1 kl196 (by omega) (by rw [kx]; decide) (by rw [kx]; decide)).trans el195
            have p252 : tw_th (h239 r194) = nI a210 := by rw [he242, tw_up_n (fun q => absurd (q192k.1) (by rw [q, kx]; decide))]; exact p213
            have p253 : tw_th (h239 (tw_el h239 (g.2 13) a210)) = nI i211 := by rw [he242, tw_el25_up sp150.1 kl237 ha212 (by rw [kx]; decide) (by rw [kx]; decide), tw_up_n (fun q => absurd (kz236) (by rw [q, kx]; decide))]; exact p215
            rcases hr244 with ei254 | ⟨ei254, ei254b⟩
            · rw [ei254]
              refine tw_if_eq 68 dX10_settle_63 (by decide) (fun c255 => absurd c255 (by decide)) (fun _ => ?_)
              refine tw_iconst (v := 0) dX10_settle_66 (by decide) ?_
              exact tw_iret dX10_settle_67 rfl (Or.inl ⟨_, rfl, sp246⟩)
            · rw [ei254]
              refine tw_if_eq 68 dX10_settle_63 (by decide) (fun _ => ?_) (fun c256 => absurd (by decide) c256)
              refine tw_aload_n 0 dX10_settle_68 rfl rfl ?_
              obtain ⟨e257, f258, th_259, td_260, ds_261, fr_262, ca_263, us_264, wo_265, cm_266, lc_267, lh_268, ld_269, rfl, k270, k271, k272, k273, k274, k275, k276, k277, k278, k279, k280, k281, k282, k283, k284, k285⟩ := sp246.1 x 36 kx (by decide)
              refine tw_get (v := .ref ld_269) rfl in_14 11 dX10_settle_69 w_1162 rfl (by decide) f258 rfl ?_
              refine tw_iload_n 1 dX10_settle_72 rfl rfl ?_
              obtain ⟨e286, f287, ⟨el288, rfl, k289⟩, k290⟩ := sp246.1 ld_269 26 k278 (by decide)
              refine tw_br (tw_callV (M := mX10_settle) (pc := 73) okJx4a65c_get_915e3 dX10_settle_73 w_1296 rfl f287 [.int (nI j184)] [] rfl rfl ⟨by decide, by decide⟩ (Nat.le_of_ble_eq_true rfl) (c26_get d g τ h239 sp246.1 ld_269 k278 j184 (by omega) (by omega)) 0 0 (Nat.le_of_ble_eq_true rfl) (Nat.le_of_ble_eq_true rfl)) (fun r293 h292 q291 => ?_) (fun E h1 q => q.elim)
              obtain ⟨q291e, q291k⟩ := q291
              rw [q291e]
              have q291ky : r293 = r194 := q291k.2.trans (by rw [k290]; exact el251)
              rw [q291ky]
              refine tw_castS (ci := 12) rfl dX10_settle_76 w_1437 f249 ?_
              refine tw_astore_n [(3, .ref r194), (0, .ref x), (1, .int (nI j184)), (2, .int m)] dX10_settle_79 rfl (by decide) rfl ?_
              refine tw_aload_n 1 dX10_settle_80 rfl rfl ?_
              refine tw_aload_n 0 dX10_settle_81 rfl rfl ?_
              refine tw_iload_n 3 dX10_settle_82 rfl rfl ?_
              refine tw_bl (tw_callV (M := mX10_settle) (pc := 83) okX10_toPay dX10_settle_83 w_1467 rfl f258 [.ref r194, .int m] [] rfl rfl ⟨by decide, by decide⟩ (Nat.le_of_ble_eq_true rfl) (c_X10_toPay d g τ h239 sp246.1 x kx r194 q192k.1 m a210 i211 ha212 p252 hi214 p253) 0 0 (Nat.le_of_ble_eq_true rfl) (Nat.le_of_ble_eq_true rfl)) (fun r296 h295 q294 => ?_) (fun E h1 q => q.elim)
              rw [q294]
              refine tw_lstore [(4, .long r296), (3, .ref r194), (0, .ref x), (1, .int (nI j184)), (2, .int m)] dX10_settle_86 (by decide) rfl ?_
              refine tw_aload_n 2 dX10_settle_88 rfl rfl ?_
              refine tw_get (v := .ref lh_268) rfl in_14 10 dX10_settle_89 w_1161 rfl (by decide) f258 rfl ?_
              refine tw_aload_n 1 dX10_settle_92 rfl rfl ?_
              refine tw_get (v := .int (nI i_202)) rfl in_12 0 dX10_settle_93 w_1443 rfl (by decide) f249 rfl ?_
              obtain ⟨e297, f298, ⟨el299, rfl, k300⟩, k301⟩ := sp246.1 lh_268 25 k277 (by decide)
              refine tw_br (tw_callV (M := mX10_settle) (pc := 96) okJx4a65c_get_915e3 dX10_settle_96 w_1296 rfl f298 [.int (nI i_202)] [] rfl rfl ⟨by decide, by decide⟩ (Nat.le_of_ble_eq_true rfl) (c25_get d g τ h239 sp246.1 lh_268 k277 i_202 (by omega) (by omega)) 0 0 (Nat.le_of_ble_eq_true rfl) (Nat.le_of_ble_eq_true rfl)) (fun r304 h303 q302 => ?_) (fun E h1 q => q.elim)
              obtain ⟨q302e, q302k⟩ := q302
              rw [q302e]
              have el305 : tw_el h239 (g.2 13) i_202 = r304 := by rw [← k301]; exact q302k.2.symm
              have kl306 : τ (g.2 13) = 25 := by rw [← k301]; exact k277
              obtain ⟨e307, f308, x_309, y_310, dy_311, p_312, rfl, k313, k314, k315⟩ := sp246.1 r304 23 q302k.1 (by decide)
              refine tw_castS (ci := 13) rfl dX10_settle_99 w_1336 f308 ?_
              refine tw_get (v := .ref p_312) rfl in_13 3 dX10_settle_102 w_1348 rfl (by decide) f308 rfl ?_
              refine tw_iload_n 4 dX10_settle_105 rfl rfl ?_
              refine tw_dup2 dX10_settle_106 rfl rfl ?_
              obtain ⟨e316, f317, F318, rfl⟩ := sp246.1 p_312 31 k313 (by decide)
              obtain ⟨v319, ev319⟩ : ∃ y : Int64, F318 (m).toNatClampNeg = y := ⟨_, rfl⟩
              refine tw_lald (v := v319) dX10_settle_107 f317 (tw_in01 q69m (by decide)) ev319 ?_
              refine tw_lload 0 dX10_settle_108 rfl ?_
              refine tw_lsub dX10_settle_110 ?_
              refine tw_nml (fun v320 ev320 => ?_)
              refine tw_last dX10_settle_111 f317 (tw_in01 q69m (by decide)) ?_
              obtain ⟨h321, eh321⟩ : ∃ z : tw_H, z = tw_up h239 p_312 (.inl (d.2 1, 2, .inr (.inl (vp_updL F318 (m).toNatClampNeg v320)))) := ⟨_, rfl⟩
              rw [← eh321]
              have sp322 : tw_sp d τ h g τ h321 := by rw [eh321]; exact sp246.set k313 (by decide) ⟨_, rfl⟩
              refine tw_aload_n 2 dX10_settle_112 rfl rfl ?_
              obtain ⟨e323, f324, th_325, td_326, ds_327, fr_328, ca_329, us_330, wo_331, cm_332, lc_333, lh_334, ld_335, rfl, k336, k337, k338, k339, k340, k341, k342, k343, k344, k345, k346, k347, k348, k349, k350, k351⟩ := sp322.1 x 36 kx (by decide)
              refine tw_get (v := .ref lh_334) rfl in_14 10 dX10_settle_113 w_1161 rfl (by decide) f324 rfl ?_
              refine tw_aload_n 1 dX10_settle_116 rfl rfl ?_
              obtain ⟨e352, f353, v_354, dy_355, pd_356, i_357, j_358, rfl, k359, k360, k361⟩ := sp322.1 r194 22 q192k.1 (by decide)
              refine tw_get (v := .int (nI j_358)) rfl in_12 1 dX10_settle_117 w_1444 rfl (by decide) f353 rfl ?_
              obtain ⟨e362, f363, ⟨el364, rfl, k365⟩, k366⟩ := sp322.1 lh_334 25 k343 (by decide)
              refine tw_br (tw_callV (M := mX10_settle) (pc := 120) okJx4a65c_get_915e3 dX10_settle_120 w_1296 rfl f363 [.int (nI j_358)] [] rfl rfl ⟨by decide, by decide⟩ (Nat.le_of_ble_eq_true rfl) (c25_get d g τ h321 sp322.1 lh_334 k343 j_358 (by omega) (by omega)) 0 0 (Nat.le_of_ble_eq_true rfl) (Nat.le_of_ble_eq_true rfl)) (fun r369 h368 q367 => ?_) (fun E h1 q => q.elim)
              obtain ⟨q367e, q367k⟩ := q367
              rw [q367e]
              have el370 : tw_el h321 (g.2 13) j_358 = r369 := by rw [← k366]; exact q367k.2.symm
              have kl371 : τ (g.2 13) = 25 := by rw [← k366]; exact k343
              obtain ⟨e372, f373, x_374, y_375, dy_376, p_377, rfl, k378, k379, k380⟩ := sp322.1 r369 23 q367k.1 (by decide)
              refine tw_castS (ci := 13) rfl dX10_settle_123 w_1336 f373 ?_
              refine tw_get (v := .ref p_377) rfl in_13 3 dX10_settle_126 w_1348 rfl (by decide) f373 rfl ?_
              refine tw_iload_n 4 dX10_settle_129 rfl rfl ?_
              refine tw_dup2 dX10_settle_130 rfl rfl ?_
              obtain ⟨e381, f382, F383, rfl⟩ := sp322.1 p_377 31 k378 (by decide)
              obtain ⟨v384, ev384⟩ : ∃ y : Int64, F383 (m).toNatClampNeg = y := ⟨_, rfl⟩
              refine tw_lald (v := v384) dX10_settle_131 f382 (tw_in01 q69m (by decide)) ev384 ?_
              refine tw_lload 0 dX10_settle_132 rfl ?_
              refine tw_ladd dX10_settle_134 ?_
              refine tw_nml (fun v385 ev385 => ?_)
              refine tw_last dX10_settle_135 f382 (tw_in01 q69m (by decide)) ?_
              obtain ⟨h386, eh386⟩ : ∃ z : tw_H, z = tw_up h321 p_377 (.inl (d.2 1, 2, .inr (.inl (vp_updL F383 (m).toNatClampNeg v385)))) := ⟨_, rfl⟩
              rw [← eh386]
              have sp387 : tw_sp d τ h g τ h386 := by rw [eh386]; exact sp322.set k378 (by decide) ⟨_, rfl⟩
              refine tw_aload_n 1 dX10_settle_136 rfl rfl ?_
              refine tw_iconst (v := 1) dX10_settle_137 (by decide) ?_
              obtain ⟨e388, f389, v_390, dy_391, pd_392, i_393, j_394, rfl, k395, k396, k397⟩ := sp387.1 r194 22 q192k.1 (by decide)
              refine tw_put rfl in_12 tyX8 tyX8_ok nmX8 4 dX10_settle_138 w_1447 rfl (by decide) f389 rfl rfl rfl rfl (Nat.le_of_ble_eq_true rfl) [.int (nI i_393), .int (nI j_394), .int v_390, .int dy_391, .int 1] rfl ?_
              obtain ⟨h398, eh398⟩ : ∃ z : tw_H, z = tw_up h386 r194 (.inr (12, [.int (nI i_393), .int (nI j_394), .int v_390, .int dy_391, .int 1])) := ⟨_, rfl⟩
              rw [← eh398]
              have sp399 : tw_sp d τ h g τ h398 := by rw [eh398]; exact sp387.set q192k.1 (by decide) ⟨v_390, dy_391, 1, i_393, j_394, rfl, (by omega), (by omega), (by unfold tw_01; decide)⟩
              have f400 : h398 r194 = some (.inr (12, [.int (nI i_393), .int (nI j_394), .int v_390, .int dy_391, .int 1])) := by rw [eh398]; exact tw_up_s
              refine tw_lload 0 dX10_settle_141 rfl ?_
              refine tw_l2i dX10_settle_143 ?_
              refine tw_nmi (fun v401 ev401 => ?_)
              exact tw_iret dX10_settle_144 rfl (Or.inl ⟨_, rfl, sp399⟩)

set_option maxHeartbeats 4000000 in
set_option maxRecDepth 100000 in
theorem c_X10_till (d : tw_D) (g : tw_G) (τ : tw_K) (h : tw_H) (hw : tw_wt d g τ h) (x : Nat) (kx : τ x = 36) (n : Int32) (k : Int32) (many : Int32) : tw_Ct d mX10_till 0 0 [.ref x, .int n, .int k, .int many] h (tw_qi (fun r h1 => tw_sp d τ h g τ h1) tw_nx) := by
  refine tw_of (by decide +kernel) (Nat.le_of_ble_eq_true rfl) ?_
  show tw_W d mX10_till _ 0 [(0, .ref x), (1, .int n), (2, .int k), (3, .int many)] [] h 0 0
  have sp0 := tw_sp.rf hw
  refine tw_aload_n 0 dX10_till_0 rfl rfl ?_
  refine tw_aload_n 0 dX10_till_1 rfl rfl ?_
  refine tw_iload_n 1 dX10_till_2 rfl rfl ?_
  obtain ⟨e1, f2, th_3, td_4, ds_5, fr_6, ca_7, us_8, wo_9, cm_10, lc_11, lh_12, ld_13, rfl, k14, k15, k16, k17, k18, k19, k20, k21, k22, k23, k24, k25, k26, k27, k28, k29⟩ := sp0.1 x 36 kx (by decide)
  refine tw_bi (tw_callV (M := mX10_till) (pc := 3) okX10_isNoCountry dX10_till_3 w_1292 rfl f2 [.int n] [.ref x] rfl rfl ⟨by decide, by decide⟩ (Nat.le_of_ble_eq_true rfl) (c_X10_isNoCountry d g τ h sp0.1 x kx n) 0 0 (Nat.le_of_ble_eq_true rfl) (Nat.le_of_ble_eq_true rfl)) (fun r32 h31 q30 => ?_) (fun E h1 q => q.elim)
  obtain ⟨q30e, q30d⟩ := q30
  rw [q30e]
  rcases q30d with q30r | ⟨q30r, j33, q30j, q30k⟩
  · rw [q30r]
    refine tw_if_ne 18 dX10_till_6 (by decide) (fun _ => ?_) (fun c34 => absurd c34 (by decide))
    refine tw_iconst (v := 1) dX10_till_18 (by decide) ?_
    refine tw_goto 23 dX10_till_19 (by decide) ?_
    refine tw_iconst (v := 1) dX10_till_23 (by decide) ?_
    refine tw_bi (tw_callV (M := mX10_till) (pc := 24) okX10_start dX10_till_24 w_1200 rfl f2 [.int 1, .int 1] [] rfl rfl ⟨by decide, by decide⟩ (Nat.le_of_ble_eq_true rfl) (c_X10_start d g τ h sp0.1 x kx 1 1 (by decide)) 0 0 (Nat.le_of_ble_eq_true rfl) (Nat.le_of_ble_eq_true rfl)) (fun r37 h36 q35 => ?_) (fun E h1 q => q.elim)
    obtain ⟨e38, he39, hs40, hr41, h342⟩ := q35
    have sp43 : tw_sp d τ h g τ h36 := by rw [he39]; exact sp0.set kx (by decide) hs40
    rcases hr41 with ei44 | ⟨ei44, ei44b⟩
    · rw [ei44]
      refine tw_if_ne 53 dX10_till_27 (by decide) (fun _ => ?_) (fun c45 => absurd c45 (by decide))
      refine tw_iconst (v := 0) dX10_till_53 (by decide) ?_
      exact tw_iret dX10_till_54 rfl (Or.inl ⟨_, rfl, sp43⟩)
    · exact absurd ei44b (by decide)
  · rw [q30r]
    subst q30k
    refine tw_if_ne 18 dX10_till_6 (by decide) (fun c46 => absurd (by decide) c46) (fun _ => ?_)
    refine tw_iload_n 2 dX10_till_9 rfl rfl ?_
    refine tw_iconst (v := 0) dX10_till_10 (by decide) ?_
    refine tw_iconst (v := 4) dX10_till_11 (by decide) ?_
    refine tw_bi (tw_callS (M := mX10_till) (pc := 12) okX10_isIn dX10_till_12 w_1196 [.int k, .int 0, .int 4] [.ref x] rfl rfl ⟨by decide, by decide⟩ (Nat.le_of_ble_eq_true rfl) (c_X10_isIn d g τ h sp0.1 k 0 4) 0 0 (Nat.le_of_ble_eq_true rfl) (Nat.le_of_ble_eq_true rfl)) (fun r49 h48 q47 => ?_) (fun E h1 q => q.elim)
    obtain ⟨q47e, q47d⟩ := q47
    rw [q47e]
    rcases q47d with ⟨q47r, q47n⟩ | ⟨q47r, q47a, q47b⟩
    · rw [q47r]
      refine tw_if_ne 22 dX10_till_15 (by decide) (fun c50 => absurd (by decide) c50) (fun _ => ?_)
      refine tw_iconst (v := 1) dX10_till_18 (by decide) ?_
      refine tw_goto 23 dX10_till_19 (by decide) ?_
      refine tw_iconst (v := 1) dX10_till_23 (by decide) ?_
      refine tw_bi (tw_callV (M := mX10_till) (pc := 24) okX10_start dX10_till_24 w_1200 rfl f2 [.int 1, .int 1] [] rfl rfl ⟨by decide, by decide⟩ (Nat.le_of_ble_eq_true rfl) (c_X10_start d g τ h sp0.1 x kx 1 1 (by decide)) 0 0 (Nat.le_of_ble_eq_true rfl) (Nat.le_of_ble_eq_true rfl)) (fun r53 h52 q51 => ?_) (fun E h1 q => q.elim)
      obtain ⟨e54, he55, hs56, hr57, h358⟩ := q51
      have sp59 : tw_sp d τ h g τ h52 := by rw [he55]; exact sp0.set kx (by decide) hs56
      rcases hr57 with ei60 | ⟨ei60, ei60b⟩
      · rw [ei60]
        refine tw_if_ne 53 dX10_till_27 (by decide) (fun _ => ?_) (fun c61 => absurd c61 (by decide))
        refine tw_iconst (v := 0) dX10_till_53 (by decide) ?_
        exact tw_iret dX10_till_54 rfl (Or.inl ⟨_, rfl, sp59⟩)
      · exact absurd ei60b (by decide)
    · rw [q47r]
      refine tw_if_ne 22 dX10_till_15 (by decide) (fun _ => ?_) (fun c62 => absurd c62 (by decide))
      refine tw_iconst (v := 0) dX10_till_22 (by decide) ?_
      refine tw_iconst (v := 1) dX10_till_23 (by decide) ?_
      refine tw_bi (tw_callV (M := mX10_till) (pc := 24) okX10_start dX10_till_24 w_1200 rfl f2 [.int 0, .int 1] [] rfl rfl ⟨by decide, by decide⟩ (Nat.le_of_ble_eq_true rfl) (c_X10_start d g τ h sp0.1 x kx 0 1 (by decide)) 0 0 (Nat.le_of_ble_eq_true rfl) (Nat.le_of_ble_eq_true rfl)) (fun r65 h64 q63 => ?_) (fun E h1 q => q.elim)
      obtain ⟨e66, he67, hs68, hr69, h370⟩ := q63
      have sp71 : tw_sp d τ h g τ h64 := by rw [he67]; exact sp0.set kx (by decide) hs68
      rcases hr69 with ei72 | ⟨ei72, ei72b⟩
      · rw [ei72]
        refine tw_if_ne 53 dX10_till_27 (by decide) (fun _ => ?_) (fun c73 => absurd c73 (by decide))
        refine tw_iconst (v := 0) dX10_till_53 (by decide) ?_
        exact tw_iret dX10_till_54 rfl (Or.inl ⟨_, rfl, sp71⟩)
      · rw [ei72]
        refine tw_if_ne 53 dX10_till_27 (by decide) (fun c74 => absurd (by decide) c74) (fun _ => ?_)
        refine tw_aload_n 0 dX10_till_30 rfl rfl ?_
        refine tw_iload_n 3 dX10_till_31 rfl rfl ?_
        refine tw_iconst (v := 0) dX10_till_32 (by decide) ?_
        refine tw_bipush (v := 9) dX10_till_33 (by decide) ?_
        refine tw_bi (tw_callS (M := mX10_till) (pc := 35) okX10_isIn dX10_till_35 w_1196 [.int many, .int 0, .int 9] [.ref x] rfl rfl ⟨by decide, by decide⟩ (Nat.le_of_ble_eq_true rfl) (c_X10_isIn d g τ h64 sp71.1 many 0 9) 0 0 (Nat.le_of_ble_eq_true rfl) (Nat.le_of_ble_eq_true rfl)) (fun r77 h76 q75 => ?_) (fun E h1 q => q.elim)
        obtain ⟨q75e, q75d⟩ := q75
        rw [q75e]
        rcases q75d with ⟨q75r, q75n⟩ | ⟨q75r, q75a, q75b⟩
        · rw [q75r]
          refine tw_if_ne 45 dX10_till_38 (by decide) (fun c78 => absurd (by decide) c78) (fun _ => ?_)
          refine tw_iconst (v := 1) dX10_till_41 (by decide) ?_
          refine tw_goto 46 dX10_till_42 (by decide) ?_
          refine tw_iconst (v := 2) dX10_till_46 (by decide) ?_
          obtain ⟨e79, f80, th_81, td_82, ds_83, fr_84, ca_85, us_86, wo_87, cm_88, lc_89, lh_90, ld_91, rfl, k92, k93, k94, k95, k96, k97, k98, k99, k100, k101, k102, k103, k104, k105, k106, k107⟩ := sp71.1 x 36 kx (by decide)
          refine tw_bi (tw_callV (M := mX10_till) (pc := 47) okX10_refuse dX10_till_47 w_1204 rfl f80 [.int 1, .int 2] [] rfl rfl ⟨by decide, by decide⟩ (Nat.le_of_ble_eq_true rfl) (c_X10_refuse d g τ h64 sp71.1 x kx 1 2 (by decide)) 0 0 (Nat.le_of_ble_eq_true rfl) (Nat.le_of_ble_eq_true rfl)) (fun r110 h109 q108 => ?_) (fun E h1 q => q.elim)
          obtain ⟨e111, he112, hs113, hr114, h3115⟩ := q108
          have sp116 : tw_sp d τ h g τ h109 := by rw [he112]; exact sp71.set kx (by decide) hs113
          rcases hr114 with ei117 | ⟨ei117, ei117b⟩
          · rw [ei117]
            refine tw_if_eq 55 dX10_till_50 (by decide) (fun c118 => absurd c118 (by decide)) (fun _ => ?_)
            refine tw_iconst (v := 0) dX10_till_53 (by decide) ?_
            exact tw_iret dX10_till_54 rfl (Or.inl ⟨_, rfl, sp116⟩)
          · exact absurd ei117b (by decide)
        · rw [q75r]
          refine tw_if_ne 45 dX10_till_38 (by decide) (fun _ => ?_) (fun c119 => absurd c119 (by decide))
          refine tw_iconst (v := 0) dX10_till_45 (by decide) ?_
          refine tw_iconst (v := 2) dX10_till_46 (by decide) ?_
          obtain ⟨e120, f121, th_122, td_123, ds_124, fr_125, ca_126, us_127, wo_128, cm_129, lc_130, lh_131, ld_132, rfl, k133, k134, k135, k136, k137, k138, k139, k140, k141, k142, k143, k144, k145, k146, k147, k148⟩ := sp71.1 x 36 kx (by decide)
          refine tw_bi (tw_callV (M := mX10_till) (pc := 47) okX10_refuse dX10_till_47 w_1204 rfl f121 [.int 0, .int 2] [] rfl rfl ⟨by decide, by decide⟩ (Nat.le_of_ble_eq_true rfl) (c_X10_refuse d g τ h64 sp71.1 x kx 0 2 (by decide)) 0 0 (Nat.le_of_ble_eq_true rfl) (Nat.le_of_ble_eq_true rfl)) (fun r151 h150 q149 => ?_) (fun E h1 q => q.elim)
          obtain ⟨e152, he153, hs154, hr155, h3156⟩ := q149
          have sp157 : tw_sp d τ h g τ h150 := by rw [he153]; exact sp71.set kx (by decide) hs154
          rcases hr155 with ei158 | ⟨ei158, ei158b⟩
          · rw [ei158]
            refine tw_if_eq 55 dX10_till_50 (by decide) (fun c159 => absurd c159 (by decide)) (fun _ => ?_)
            refine tw_iconst (v := 0) dX10_till_53 (by decide) ?_
            exact tw_iret dX10_till_54 rfl (Or.inl ⟨_, rfl, sp157⟩)
          · rw [ei158]
            refine tw_if_eq 55 dX10_till_50 (by decide) (fun _ => ?_) (fun c160 => absurd (by decide) c160)
            refine tw_aload_n 0 dX10_till_55 rfl rfl ?_
            obtain ⟨e161, f162, th_163, td_164, ds_165, fr_166, ca_167, us_168, wo_169, cm_170, lc_171, lh_172, ld_173, rfl, k174, k175, k176, k177, k178, k179, k180, k181, k182, k183, k184, k185, k186, k187, k188, k189⟩ := sp157.1 x 36 kx (by decide)
            refine tw_get (v := .ref lc_171) rfl in_14 9 dX10_till_56 w_1160 rfl (by decide) f162 rfl ?_
            refine tw_iload_n 1 dX10_till_59 rfl rfl ?_
            obtain ⟨e190, f191, ⟨el192, rfl, k193⟩, k194⟩ := sp157.1 lc_171 24 k180 (by decide)
            refine tw_br (tw_callV (M := mX10_till) (pc := 60) okJx4a65c_get_915e3 dX10_till_60 w_1296 rfl f191 [.int (nI j33)] [] rfl rfl ⟨by decide, by decide⟩ (Nat.le_of_ble_eq_true rfl) (c24_get d g τ h150 sp157.1 lc_171 k180 j33 (by omega) (by omega)) 0 0 (Nat.le_of_ble_eq_true rfl) (Nat.le_of_ble_eq_true rfl)) (fun r197 h196 q195 => ?_) (fun E h1 q => q.elim)
            obtain ⟨q195e, q195k⟩ := q195
            rw [q195e]
            have el198 : tw_el h150 (g.2 12) j33 = r197 := by rw [← k194]; exact q195k.2.symm
            have kl199 : τ (g.2 12) = 24 := by rw [← k194]; exact k180
            obtain ⟨e200, f201, r_202, c_203, v_204, o_205, t_206, rfl, k207, k208, k209, k210, k211⟩ := sp157.1 r197 21 q195k.1 (by decide)
            refine tw_castS (ci := 11) rfl dX10_till_63 w_1212 f201 ?_
            refine tw_get (v := .ref t_206) rfl in_11 4 dX10_till_66 w_1225 rfl (by decide) f201 rfl ?_
            refine tw_iload_n 2 dX10_till_69 rfl rfl ?_
            obtain ⟨e212, f213, F214, rfl, k215⟩ := sp157.1 t_206 33 k209 (by decide)
            obtain ⟨v216, ev216⟩ : ∃ y : Int32, F214 (k).toNatClampNeg = y := ⟨_, rfl⟩
            refine tw_iald (v := v216) dX10_till_70 f213 (tw_irng (N := 5) q47a q47b (by decide) (by decide)) ev216 ?_
            refine tw_istore [(4, .int v216), (0, .ref x), (1, .int (nI j33)), (2, .int k), (3, .int many)] dX10_till_71 (by decide) rfl ?_
            refine tw_aload_n 1 dX10_till_73 rfl rfl ?_
            refine tw_get (v := .ref lc_171) rfl in_14 9 dX10_till_74 w_1160 rfl (by decide) f162 rfl ?_
            refine tw_iload_n 2 dX10_till_77 rfl rfl ?_
            refine tw_br (tw_callV (M := mX10_till) (pc := 78) okJx4a65c_get_915e3 dX10_till_78 w_1296 rfl f191 [.int (nI j33)] [] rfl rfl ⟨by decide, by decide⟩ (Nat.le_of_ble_eq_true rfl) (c24_get d g τ h150 sp157.1 lc_171 k180 j33 (by omega) (by omega)) 0 0 (Nat.le_of_ble_eq_true rfl) (Nat.le_of_ble_eq_true rfl)) (fun r219 h218 q217 => ?_) (fun E h1 q => q.elim)
            obtain ⟨q217e, q217k⟩ := q217
            rw [q217e]
            have q217ky : r219 = r197 := q217k.2.trans (by rw [k194]; exact el198)
            rw [q217ky]
            refine tw_castS (ci := 11) rfl dX10_till_81 w_1212 f201 ?_
            refine tw_get (v := .ref t_206) rfl in_11 4 dX10_till_84 w_1225 rfl (by decide) f201 rfl ?_
            refine tw_iload_n 3 dX10_till_87 rfl rfl ?_
            refine tw_iload_n 4 dX10_till_88 rfl rfl ?_
            refine tw_iast dX10_till_89 f213 (tw_irng (N := 5) q47a q47b (by decide) (by decide)) ?_
            obtain ⟨h220, eh220⟩ : ∃ z : tw_H, z = tw_up h150 t_206 (.inl (d.2 0, 5, .inl (upd F214 (k).toNatClampNeg many))) := ⟨_, rfl⟩
            rw [← eh220]
            have sp221 : tw_sp d τ h g τ h220 := by rw [eh220]; exact sp157.set k209 (by decide) ⟨_, rfl, (tw_tk k215 q75a q75b)⟩
            refine tw_iload 0 dX10_till_90 rfl ?_
            exact tw_iret dX10_till_92 rfl (Or.inl ⟨_, rfl, sp221⟩)

set_option maxHeartbeats 4000000 in
set_option maxRecDepth 100000 in
theorem c_X10_cheaper (d : tw_D) (g : tw_G) (τ : tw_K) (h : tw_H) (hw : tw_wt d g τ h) (x : Nat) (kx : τ x = 36) (y : Nat) (ky : τ y = 22) : tw_Ct d mX10_cheaper 0 0 [.ref x, .ref y] h (tw_qi (fun r h1 => h1 = h) tw_nx) := by
  refine tw_of (by decide +kernel) (Nat.le_of_ble_eq_true rfl) ?_
  show tw_W d mX10_cheaper _ 0 [(0, .ref x), (1, .ref y)] [] h 0 0
  have sp0 := tw_sp.rf hw
  refine tw_aload_n 1 dX10_cheaper_0 rfl rfl ?_
  obtain ⟨e1, f2, v_3, dy_4, pd_5, i_6, j_7, rfl, k8, k9, k10⟩ := sp0.1 y 22 ky (by decide)
  refine tw_get (v := .int pd_5) rfl in_12 4 dX10_cheaper_1 w_1447 rfl (by decide) f2 rfl ?_
  refine tw_if_ne 28 dX10_cheaper_4 (by decide) (fun c11 => ?_) (fun c11 => ?_)
  · refine tw_iconst (v := -1) dX10_cheaper_28 (by decide) ?_
    exact tw_iret dX10_cheaper_29 rfl (Or.inl ⟨_, rfl, rfl⟩)
  · refine tw_aload_n 0 dX10_cheaper_7 rfl rfl ?_
    obtain ⟨e12, f13, th_14, td_15, ds_16, fr_17, ca_18, us_19, wo_20, cm_21, lc_22, lh_23, ld_24, rfl, k25, k26, k27, k28, k29, k30, k31, k32, k33, k34, k35, k36, k37, k38, k39, k40⟩ := sp0.1 x 36 kx (by decide)
    refine tw_get (v := .ref lh_23) rfl in_14 10 dX10_cheaper_8 w_1161 rfl (by decide) f13 rfl ?_
    refine tw_aload_n 1 dX10_cheaper_11 rfl rfl ?_
    refine tw_get (v := .int (nI i_6)) rfl in_12 0 dX10_cheaper_12 w_1443 rfl (by decide) f2 rfl ?_
    obtain ⟨e41, f42, ⟨el43, rfl, k44⟩, k45⟩ := sp0.1 lh_23 25 k32 (by decide)
    refine tw_br (tw_callV (M := mX10_cheaper) (pc := 15) okJx4a65c_get_915e3 dX10_cheaper_15 w_1296 rfl f42 [.int (nI i_6)] [] rfl rfl ⟨by decide, by decide⟩ (Nat.le_of_ble_eq_true rfl) (c25_get d g τ h sp0.1 lh_23 k32 i_6 (by omega) (by omega)) 0 0 (Nat.le_of_ble_eq_true rfl) (Nat.le_of_ble_eq_true rfl)) (fun r48 h47 q46 => ?_) (fun E h1 q => q.elim)
    obtain ⟨q46e, q46k⟩ := q46
    rw [q46e]
    have el49 : tw_el h (g.2 13) i_6 = r48 := by rw [← k45]; exact q46k.2.symm
    have kl50 : τ (g.2 13) = 25 := by rw [← k45]; exact k32
    obtain ⟨e51, f52, x_53, y_54, dy_55, p_56, rfl, k57, k58, k59⟩ := sp0.1 r48 23 q46k.1 (by decide)
    refine tw_castS (ci := 13) rfl dX10_cheaper_18 w_1336 f52 ?_
    refine tw_get (v := .int x_53) rfl in_13 0 dX10_cheaper_21 w_1342 rfl (by decide) f52 rfl ?_
    refine tw_iconst (v := -1) dX10_cheaper_24 (by decide) ?_
    refine tw_icmp_ne 30 dX10_cheaper_25 (by decide) (fun c60 => ?_) (fun c60 => ?_)
    · refine tw_aload_n 0 dX10_cheaper_30 rfl rfl ?_
      refine tw_aload_n 1 dX10_cheaper_31 rfl rfl ?_
      refine tw_iconst (v := 0) dX10_cheaper_32 (by decide) ?_
      obtain ⟨j61, hj62, ej63⟩ := k58.resolve_left c60
      subst ej63
      refine tw_bl (tw_callV (M := mX10_cheaper) (pc := 33) okX10_toPay dX10_cheaper_33 w_1467 rfl f13 [.ref y, .int 0] [] rfl rfl ⟨by decide, by decide⟩ (Nat.le_of_ble_eq_true rfl) (c_X10_toPay d g τ h sp0.1 x kx y ky 0 i_6 j61 (by omega) (by rw [f2]; rfl) (by omega) (by rw [el49, f52]; rfl)) 0 0 (Nat.le_of_ble_eq_true rfl) (Nat.le_of_ble_eq_true rfl)) (fun r66 h65 q64 => ?_) (fun E h1 q => q.elim)
      rw [q64]
      refine tw_aload_n 0 dX10_cheaper_36 rfl rfl ?_
      refine tw_get (v := .int (g.1 1)) rfl in_14 2 dX10_cheaper_37 w_1153 rfl (by decide) f13 rfl ?_
      refine tw_i2l dX10_cheaper_40 ?_
      refine tw_nml (fun v67 ev67 => ?_)
      refine tw_lmul dX10_cheaper_41 ?_
      refine tw_nml (fun v68 ev68 => ?_)
      refine tw_ldc2 (v := 10) dX10_cheaper_42 w_1373 ?_
      refine tw_ldiv dX10_cheaper_45 (by decide) ?_
      refine tw_nml (fun v69 ev69 => ?_)
      refine tw_aload_n 0 dX10_cheaper_46 rfl rfl ?_
      refine tw_aload_n 1 dX10_cheaper_47 rfl rfl ?_
      refine tw_iconst (v := 1) dX10_cheaper_48 (by decide) ?_
      refine tw_bl (tw_callV (M := mX10_cheaper) (pc := 49) okX10_toPay dX10_cheaper_49 w_1467 rfl f13 [.ref y, .int 1] [.long v69] rfl rfl ⟨by decide, by decide⟩ (Nat.le_of_ble_eq_true rfl) (c_X10_toPay d g τ h sp0.1 x kx y ky 1 i_6 j61 (by omega) (by rw [f2]; rfl) (by omega) (by rw [el49, f52]; rfl)) 0 0 (Nat.le_of_ble_eq_true rfl) (Nat.le_of_ble_eq_true rfl)) (fun r72 h71 q70 => ?_) (fun E h1 q => q.elim)
      rw [q70]
      refine tw_lcmp dX10_cheaper_52 ?_
      refine tw_nmi (fun v73 ev73 => ?_)
      refine tw_if_ge 60 dX10_cheaper_53 (by decide) (fun c74 => ?_) (fun c74 => ?_)
      · refine tw_iconst (v := 1) dX10_cheaper_60 (by decide) ?_
        exact tw_iret dX10_cheaper_61 rfl (Or.inl ⟨_, rfl, rfl⟩)
      · refine tw_iconst (v := 0) dX10_cheaper_56 (by decide) ?_
        refine tw_goto 61 dX10_cheaper_57 (by decide) ?_
        exact tw_iret dX10_cheaper_61 rfl (Or.inl ⟨_, rfl, rfl⟩)
    · refine tw_iconst (v := -1) dX10_cheaper_28 (by decide) ?_
      exact tw_iret dX10_cheaper_29 rfl (Or.inl ⟨_, rfl, rfl⟩)

set_option maxHeartbeats 4000000 in
set_option maxRecDepth 100000 in
theorem c_X10_tripNow (d : tw_D) (g : tw_G) (τ : tw_K) (h : tw_H) (hw : tw_wt d g τ h) (x : Nat) (kx : τ x = 36) (m : Int32) (gr : Int64) (a b : Nat) (ha : a < g.2 3) (hb : b < g.2 3) : tw_Ct d mX10_tripNow 0 0 [.ref x, .int (nI a), .int (nI b), .int m, .long gr] h (tw_ql (fun r h1 => h1 = h) tw_nx) := by
  refine tw_of (by decide +kernel) (Nat.le_of_ble_eq_true rfl) ?_
  show tw_W d mX10_tripNow _ 0 [(0, .ref x), (1, .int (nI a)), (2, .int (nI b)), (3, .int m), (4, .long gr)] [] h 0 0
  have sp0 := tw_sp.rf hw
  refine tw_aload_n 0 dX10_tripNow_0 rfl rfl ?_
  obtain ⟨e1, f2, th_3, td_4, ds_5, fr_6, ca_7, us_8, wo_9, cm_10, lc_11, lh_12, ld_13, rfl, k14, k15, k16, k17, k18, k19, k20, k21, k22, k23, k24, k25, k26, k27, k28, k29⟩ := sp0.1 x 36 kx (by decide)
  refine tw_get (v := .ref lc_11) rfl in_14 9 dX10_tripNow_1 w_1160 rfl (by decide) f2 rfl ?_
  refine tw_iload_n 1 dX10_tripNow_4 rfl rfl ?_
  obtain ⟨e30, f31, ⟨el32, rfl, k33⟩, k34⟩ := sp0.1 lc_11 24 k20 (by decide)
  refine tw_br (tw_callV (M := mX10_tripNow) (pc := 5) okJx4a65c_get_915e3 dX10_tripNow_5 w_1296 rfl f31 [.int (nI a)] [] rfl rfl ⟨by decide, by decide⟩ (Nat.le_of_ble_eq_true rfl) (c24_get d g τ h sp0.1 lc_11 k20 a (by omega) (by omega)) 0 0 (Nat.le_of_ble_eq_true rfl) (Nat.le_of_ble_eq_true rfl)) (fun r37 h36 q35 => ?_) (fun E h1 q => q.elim)
  obtain ⟨q35e, q35k⟩ := q35
  rw [q35e]
  have el38 : tw_el h (g.2 12) a = r37 := by rw [← k34]; exact q35k.2.symm
  have kl39 : τ (g.2 12) = 24 := by rw [← k34]; exact k20
  obtain ⟨e40, f41, r_42, c_43, v_44, o_45, t_46, rfl, k47, k48, k49, k50, k51⟩ := sp0.1 r37 21 q35k.1 (by decide)
  refine tw_castS (ci := 11) rfl dX10_tripNow_8 w_1212 f41 ?_
  refine tw_iload_n 3 dX10_tripNow_11 rfl rfl ?_
  refine tw_lload 4 dX10_tripNow_12 rfl ?_
  refine tw_bl (tw_callS (M := mX10_tripNow) (pc := 14) okX10_given dX10_tripNow_14 w_1370 [.ref r37, .int m, .long gr] [] rfl rfl ⟨by decide, by decide⟩ (Nat.le_of_ble_eq_true rfl) (c_X10_given d g τ h sp0.1 r37 q35k.1 m gr) 0 0 (Nat.le_of_ble_eq_true rfl) (Nat.le_of_ble_eq_true rfl)) (fun r54 h53 q52 => ?_) (fun E h1 q => q.elim)
  rw [q52]
  refine tw_lstore [(6, .long r54), (0, .ref x), (1, .int (nI a)), (2, .int (nI b)), (3, .int m), (4, .long gr)] dX10_tripNow_17 (by decide) rfl ?_
  refine tw_lload 0 dX10_tripNow_19 rfl ?_
  refine tw_lload 0 dX10_tripNow_21 rfl ?_
  refine tw_aload_n 1 dX10_tripNow_23 rfl rfl ?_
  refine tw_get (v := .ref fr_6) rfl in_14 4 dX10_tripNow_24 w_1155 rfl (by decide) f2 rfl ?_
  refine tw_iload_n 2 dX10_tripNow_27 rfl rfl ?_
  obtain ⟨e55, f56, F57, rfl, k58⟩ := sp0.1 fr_6 34 k15 (by decide)
  obtain ⟨q59, k60, k61⟩ := k58 ((nI a)).toNatClampNeg (by rw [nI_clamp (by omega)]; omega)
  refine tw_aald (v := .ref q59) 8 rfl rfl dX10_tripNow_28 f56 (vp_in_nI (by omega) (by decide)) (by rw [k60]; rfl) ?_
  refine tw_iload_n 3 dX10_tripNow_29 rfl rfl ?_
  obtain ⟨e62, f63, F64, rfl⟩ := sp0.1 q59 6 k61 (by decide)
  obtain ⟨v65, ev65⟩ : ∃ y : Int32, F64 ((nI b)).toNatClampNeg = y := ⟨_, rfl⟩
  refine tw_iald (v := v65) dX10_tripNow_30 f63 (vp_in_nI (by omega) (by decide)) ev65 ?_
  refine tw_i2l dX10_tripNow_31 ?_
  refine tw_nml (fun v66 ev66 => ?_)
  refine tw_lmul dX10_tripNow_32 ?_
  refine tw_nml (fun v67 ev67 => ?_)
  refine tw_ldc2 (v := 1000) dX10_tripNow_33 w_1374 ?_
  refine tw_bl (tw_callS (M := mX10_tripNow) (pc := 36) okX10_up dX10_tripNow_36 w_1375 [.long v67, .long 1000] [.long r54] rfl rfl ⟨by decide, by decide⟩ (Nat.le_of_ble_eq_true rfl) (c_X10_up d g τ h sp0.1 v67 1000 (by decide)) 0 0 (Nat.le_of_ble_eq_true rfl) (Nat.le_of_ble_eq_true rfl)) (fun r70 h69 q68 => ?_) (fun E h1 q => q.elim)
  rw [q68]
  refine tw_lsub dX10_tripNow_39 ?_
  refine tw_nml (fun v71 ev71 => ?_)
  refine tw_lstore [(6, .long v71), (0, .ref x), (1, .int (nI a)), (2, .int (nI b)), (3, .int m), (4, .long gr)] dX10_tripNow_40 (by decide) rfl ?_
  refine tw_aload_n 1 dX10_tripNow_42 rfl rfl ?_
  refine tw_get (v := .ref lc_11) rfl in_14 9 dX10_tripNow_43 w_1160 rfl (by decide) f2 rfl ?_
  refine tw_iload_n 3 dX10_tripNow_46 rfl rfl ?_
  refine tw_br (tw_callV (M := mX10_tripNow) (pc := 47) okJx4a65c_get_915e3 dX10_tripNow_47 w_1296 rfl f31 [.int (nI b)] [] rfl rfl ⟨by decide, by decide⟩ (Nat.le_of_ble_eq_true rfl) (c24_get d g τ h sp0.1 lc_11 k20 b (by omega) (by omega)) 0 0 (Nat.le_of_ble_eq_true rfl) (Nat.le_of_ble_eq_true rfl)) (fun r74 h73 q72 => ?_) (fun E h1 q => q.elim)
  obtain ⟨q72e, q72k⟩ := q72
  rw [q72e]
  have el75 : tw_el h (g.2 12) b = r74 := by rw [← k34]; exact q72k.2.symm
  have kl76 : τ (g.2 12) = 24 := by rw [← k34]; exact k20
  obtain ⟨e77, f78, r_79, c_80, v_81, o_82, t_83, rfl, k84, k85, k86, k87, k88⟩ := sp0.1 r74 21 q72k.1 (by decide)
  refine tw_castS (ci := 11) rfl dX10_tripNow_50 w_1212 f78 ?_
  refine tw_iconst (v := 1) dX10_tripNow_53 (by decide) ?_
  refine tw_iload_n 4 dX10_tripNow_54 rfl rfl ?_
  refine tw_isub dX10_tripNow_55 ?_
  refine tw_nmi (fun v89 ev89 => ?_)
  refine tw_lload 0 dX10_tripNow_56 rfl ?_
  refine tw_bl (tw_callS (M := mX10_tripNow) (pc := 58) okX10_given dX10_tripNow_58 w_1370 [.ref r74, .int v89, .long v71] [] rfl rfl ⟨by decide, by decide⟩ (Nat.le_of_ble_eq_true rfl) (c_X10_given d g τ h sp0.1 r74 q72k.1 v89 v71) 0 0 (Nat.le_of_ble_eq_true rfl) (Nat.le_of_ble_eq_true rfl)) (fun r92 h91 q90 => ?_) (fun E h1 q => q.elim)
  rw [q90]
  refine tw_lstore [(8, .long r92), (6, .long v71), (0, .ref x), (1, .int (nI a)), (2, .int (nI b)), (3, .int m), (4, .long gr)] dX10_tripNow_61 (by decide) rfl ?_
  refine tw_lload 0 dX10_tripNow_63 rfl ?_
  refine tw_lload 0 dX10_tripNow_65 rfl ?_
  refine tw_aload_n 2 dX10_tripNow_67 rfl rfl ?_
  refine tw_get (v := .ref fr_6) rfl in_14 4 dX10_tripNow_68 w_1155 rfl (by decide) f2 rfl ?_
  refine tw_iload_n 4 dX10_tripNow_71 rfl rfl ?_
  obtain ⟨q93, k94, k95⟩ := k58 ((nI b)).toNatClampNeg (by rw [nI_clamp (by omega)]; omega)
  refine tw_aald (v := .ref q93) 8 rfl rfl dX10_tripNow_72 f56 (vp_in_nI (by omega) (by decide)) (by rw [k94]; rfl) ?_
  refine tw_iload_n 3 dX10_tripNow_73 rfl rfl ?_
  obtain ⟨e96, f97, F98, rfl⟩ := sp0.1 q93 6 k95 (by decide)
  obtain ⟨v99, ev99⟩ : ∃ y : Int32, F98 ((nI a)).toNatClampNeg = y := ⟨_, rfl⟩
  refine tw_iald (v := v99) dX10_tripNow_74 f97 (vp_in_nI (by omega) (by decide)) ev99 ?_
  refine tw_i2l dX10_tripNow_75 ?_
  refine tw_nml (fun v100 ev100 => ?_)
  refine tw_lmul dX10_tripNow_76 ?_
  refine tw_nml (fun v101 ev101 => ?_)
  refine tw_ldc2 (v := 1000) dX10_tripNow_77 w_1374 ?_
  refine tw_bl (tw_callS (M := mX10_tripNow) (pc := 80) okX10_up dX10_tripNow_80 w_1375 [.long v101, .long 1000] [.long r92] rfl rfl ⟨by decide, by decide⟩ (Nat.le_of_ble_eq_true rfl) (c_X10_up d g τ h sp0.1 v101 1000 (by decide)) 0 0 (Nat.le_of_ble_eq_true rfl) (Nat.le_of_ble_eq_true rfl)) (fun r104 h103 q102 => ?_) (fun E h1 q => q.elim)
  rw [q102]
  refine tw_lsub dX10_tripNow_83 ?_
  refine tw_nml (fun v105 ev105 => ?_)
  exact tw_lret dX10_tripNow_84 rfl (Or.inl ⟨_, rfl, rfl⟩)

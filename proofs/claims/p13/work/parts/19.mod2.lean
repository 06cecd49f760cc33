/-! the class's methods over the typed heap. Laid by wip/p5/mkclass.py. -/
set_option maxHeartbeats 4000000 in
set_option maxRecDepth 100000 in
theorem c_X10_isNoChange (d : tw_D) (g : tw_G) (τ : tw_K) (h : tw_H) (hw : tw_wt d g τ h) (x : Nat) (kx : τ x = 36) (y : Nat) (ky : τ y = 23) (m : Int32) (gr : Int32) (hm : m = 0 ∨ m = 1) : tw_Ct d mX10_isNoChange 0 0 [.ref x, .ref y, .int m, .int gr] h (tw_qi (fun r h1 => h1 = h ∧ (r = 1 ∨ r = 0 ∧ ∃ i, i < g.2 3 ∧ tw_th (h y) = nI i)) tw_nx) := by
  refine tw_of (by decide +kernel) (Nat.le_of_ble_eq_true rfl) ?_
  show tw_W d mX10_isNoChange _ 0 [(0, .ref x), (1, .ref y), (2, .int m), (3, .int gr)] [] h 0 0
  have sp0 := tw_sp.rf hw
  refine tw_aload_n 1 dX10_isNoChange_0 rfl rfl ?_
  obtain ⟨e1, f2, x_3, y_4, dy_5, p_6, rfl, k7, k8, k9⟩ := sp0.1 y 23 ky (by decide)
  refine tw_get (v := .int x_3) rfl in_13 0 dX10_isNoChange_1 w_1342 rfl (by decide) f2 rfl ?_
  refine tw_iconst (v := -1) dX10_isNoChange_4 (by decide) ?_
  refine tw_icmp_eq 20 dX10_isNoChange_5 (by decide) (fun c10 => ?_) (fun c10 => ?_)
  · refine tw_iconst (v := 1) dX10_isNoChange_20 (by decide) ?_
    exact tw_zret dX10_isNoChange_21 rfl rfl (Or.inl ⟨_, rfl, ⟨rfl, (Or.inl rfl)⟩⟩)
  · refine tw_aload_n 1 dX10_isNoChange_8 rfl rfl ?_
    refine tw_get (v := .ref p_6) rfl in_13 3 dX10_isNoChange_9 w_1348 rfl (by decide) f2 rfl ?_
    refine tw_iload_n 2 dX10_isNoChange_12 rfl rfl ?_
    obtain ⟨e11, f12, F13, rfl⟩ := sp0.1 p_6 31 k7 (by decide)
    obtain ⟨v14, ev14⟩ : ∃ y : Int64, F13 (m).toNatClampNeg = y := ⟨_, rfl⟩
    refine tw_lald (v := v14) dX10_isNoChange_13 f12 (tw_in01 hm (by decide)) ev14 ?_
    refine tw_iload_n 3 dX10_isNoChange_14 rfl rfl ?_
    refine tw_i2l dX10_isNoChange_15 ?_
    refine tw_nml (fun v15 ev15 => ?_)
    refine tw_lcmp dX10_isNoChange_16 ?_
    refine tw_nmi (fun v16 ev16 => ?_)
    refine tw_if_ge 22 dX10_isNoChange_17 (by decide) (fun c17 => ?_) (fun c17 => ?_)
    · refine tw_aload_n 0 dX10_isNoChange_22 rfl rfl ?_
      obtain ⟨e18, f19, th_20, td_21, ds_22, fr_23, ca_24, us_25, wo_26, cm_27, lc_28, lh_29, ld_30, rfl, k31, k32, k33, k34, k35, k36, k37, k38, k39, k40, k41, k42, k43, k44⟩ := sp0.1 x 36 kx (by decide)
      refine tw_get (v := .ref lc_28) rfl in_14 9 dX10_isNoChange_23 w_1160 rfl (by decide) f19 rfl ?_
      refine tw_aload_n 1 dX10_isNoChange_26 rfl rfl ?_
      refine tw_get (v := .int x_3) rfl in_13 0 dX10_isNoChange_27 w_1342 rfl (by decide) f2 rfl ?_
      obtain ⟨j45, hj46, ej47⟩ := k8.resolve_left c10
      subst ej47
      obtain ⟨e48, f49, ⟨el50, rfl, k51⟩, k52⟩ := sp0.1 lc_28 24 k37 (by decide)
      refine tw_br (tw_callV (M := mX10_isNoChange) (pc := 30) okJx4a65c_get_915e3 dX10_isNoChange_30 w_1296 rfl f49 [.int (nI j45)] [] rfl rfl ⟨by decide, by decide⟩ (Nat.le_of_ble_eq_true rfl) (c24_get d g τ h sp0.1 lc_28 k37 j45 (by omega) (by omega)) 0 0 (Nat.le_of_ble_eq_true rfl) (Nat.le_of_ble_eq_true rfl)) (fun r55 h54 q53 => ?_) (fun E h1 q => q.elim)
      obtain ⟨q53e, q53k⟩ := q53
      rw [q53e]
      have el56 : tw_el h (g.2 12) j45 = r55 := by rw [← k52]; exact q53k.2.symm
      have kl57 : τ (g.2 12) = 24 := by rw [← k52]; exact k37
      obtain ⟨e58, f59, r_60, c_61, v_62, o_63, t_64, rfl, k65, k66, k67, k68, k69⟩ := sp0.1 r55 21 q53k.1 (by decide)
      refine tw_castS (ci := 11) rfl dX10_isNoChange_33 w_1212 f59 ?_
      refine tw_astore [(4, .ref r55), (0, .ref x), (1, .ref y), (2, .int m), (3, .int gr)] dX10_isNoChange_36 (by decide) rfl ?_
      refine tw_aload 0 dX10_isNoChange_38 rfl ?_
      refine tw_get (v := .ref o_63) rfl in_11 3 dX10_isNoChange_40 w_1223 rfl (by decide) f59 rfl ?_
      refine tw_iload_n 3 dX10_isNoChange_43 rfl rfl ?_
      obtain ⟨e70, f71, F72, rfl, k73⟩ := sp0.1 o_63 32 k66 (by decide)
      obtain ⟨v74, ev74⟩ : ∃ y : Int32, F72 (m).toNatClampNeg = y := ⟨_, rfl⟩
      refine tw_zald (v := v74) dX10_isNoChange_44 f71 (tw_in01 hm (by decide)) ev74 ?_
      refine tw_if_eq 69 dX10_isNoChange_45 (by decide) (fun c75 => ?_) (fun c75 => ?_)
      · refine tw_iconst (v := 1) dX10_isNoChange_69 (by decide) ?_
        refine tw_goto 74 dX10_isNoChange_70 (by decide) ?_
        exact tw_zret dX10_isNoChange_74 rfl rfl (Or.inl ⟨_, rfl, ⟨rfl, (Or.inl rfl)⟩⟩)
      · refine tw_aload 0 dX10_isNoChange_48 rfl ?_
        refine tw_get (v := .ref v_62) rfl in_11 2 dX10_isNoChange_50 w_1221 rfl (by decide) f59 rfl ?_
        refine tw_iconst (v := 1) dX10_isNoChange_53 (by decide) ?_
        refine tw_iload_n 3 dX10_isNoChange_54 rfl rfl ?_
        refine tw_isub dX10_isNoChange_55 ?_
        refine tw_nmi (fun v76 ev76 => ?_)
        obtain ⟨e77, f78, F79, rfl⟩ := sp0.1 v_62 31 k65 (by decide)
        obtain ⟨v80, ev80⟩ : ∃ y : Int64, F79 (v76).toNatClampNeg = y := ⟨_, rfl⟩
        refine tw_lald (v := v80) dX10_isNoChange_56 f78 (tw_in01 (tw_1m hm ev76) (by decide)) ev80 ?_
        refine tw_aload 0 dX10_isNoChange_57 rfl ?_
        refine tw_iload_n 3 dX10_isNoChange_59 rfl rfl ?_
        refine tw_iload_n 4 dX10_isNoChange_60 rfl rfl ?_
        refine tw_i2l dX10_isNoChange_61 ?_
        refine tw_nml (fun v81 ev81 => ?_)
        refine tw_bl (tw_callS (M := mX10_isNoChange) (pc := 62) okX10_given dX10_isNoChange_62 w_1370 [.ref r55, .int m, .long v81] [.long v80] rfl rfl ⟨by decide, by decide⟩ (Nat.le_of_ble_eq_true rfl) (c_X10_given d g τ h sp0.1 r55 q53k.1 m v81) 0 0 (Nat.le_of_ble_eq_true rfl) (Nat.le_of_ble_eq_true rfl)) (fun r84 h83 q82 => ?_) (fun E h1 q => q.elim)
        rw [q82]
        refine tw_lcmp dX10_isNoChange_65 ?_
        refine tw_nmi (fun v85 ev85 => ?_)
        refine tw_if_ge 73 dX10_isNoChange_66 (by decide) (fun c86 => ?_) (fun c86 => ?_)
        · refine tw_iconst (v := 0) dX10_isNoChange_73 (by decide) ?_
          exact tw_zret dX10_isNoChange_74 rfl rfl (Or.inl ⟨_, rfl, ⟨rfl, (Or.inr ⟨rfl, j45, by omega, by rw [f2]; rfl⟩)⟩⟩)
        · refine tw_iconst (v := 1) dX10_isNoChange_69 (by decide) ?_
          refine tw_goto 74 dX10_isNoChange_70 (by decide) ?_
          exact tw_zret dX10_isNoChange_74 rfl rfl (Or.inl ⟨_, rfl, ⟨rfl, (Or.inl rfl)⟩⟩)
    · refine tw_iconst (v := 1) dX10_isNoChange_20 (by decide) ?_
      exact tw_zret dX10_isNoChange_21 rfl rfl (Or.inl ⟨_, rfl, ⟨rfl, (Or.inl rfl)⟩⟩)

set_option maxHeartbeats 4000000 in
set_option maxRecDepth 100000 in
theorem c_X10_change (d : tw_D) (g : tw_G) (τ : tw_K) (h : tw_H) (hw : tw_wt d g τ h) (x : Nat) (kx : τ x = 36) (n : Int32) (m : Int32) (gr : Int32) : tw_Ct d mX10_change 0 0 [.ref x, .int n, .int m, .int gr] h (tw_qi (fun r h1 => tw_sp d τ h g τ h1) tw_nx) := by
  refine tw_of (by decide +kernel) (Nat.le_of_ble_eq_true rfl) ?_
  show tw_W d mX10_change _ 0 [(0, .ref x), (1, .int n), (2, .int m), (3, .int gr)] [] h 0 0
  have sp0 := tw_sp.rf hw
  refine tw_aload_n 0 dX10_change_0 rfl rfl ?_
  refine tw_aload_n 0 dX10_change_1 rfl rfl ?_
  refine tw_iload_n 1 dX10_change_2 rfl rfl ?_
  obtain ⟨e1, f2, th_3, td_4, ds_5, fr_6, ca_7, us_8, wo_9, cm_10, lc_11, lh_12, ld_13, rfl, k14, k15, k16, k17, k18, k19, k20, k21, k22, k23, k24, k25, k26, k27⟩ := sp0.1 x 36 kx (by decide)
  refine tw_bi (tw_callV (M := mX10_change) (pc := 3) okX10_isNoHouse dX10_change_3 w_1362 rfl f2 [.int n] [.ref x] rfl rfl ⟨by decide, by decide⟩ (Nat.le_of_ble_eq_true rfl) (c_X10_isNoHouse d g τ h sp0.1 x kx n) 0 0 (Nat.le_of_ble_eq_true rfl) (Nat.le_of_ble_eq_true rfl)) (fun r30 h29 q28 => ?_) (fun E h1 q => q.elim)
  obtain ⟨q28e, q28d⟩ := q28
  rw [q28e]
  rcases q28d with q28r | ⟨q28r, j31, q28j, q28k⟩
  · rw [q28r]
    refine tw_iconst (v := 1) dX10_change_6 (by decide) ?_
    refine tw_bi (tw_callV (M := mX10_change) (pc := 7) okX10_start dX10_change_7 w_1200 rfl f2 [.int 1, .int 1] [] rfl rfl ⟨by decide, by decide⟩ (Nat.le_of_ble_eq_true rfl) (c_X10_start d g τ h sp0.1 x kx 1 1 (by decide)) 0 0 (Nat.le_of_ble_eq_true rfl) (Nat.le_of_ble_eq_true rfl)) (fun r34 h33 q32 => ?_) (fun E h1 q => q.elim)
    obtain ⟨e35, he36, hs37, hr38, h339⟩ := q32
    have sp40 : tw_sp d τ h g τ h33 := by rw [he36]; exact sp0.set kx (by decide) hs37
    rcases hr38 with ei41 | ⟨ei41, ei41b⟩
    · rw [ei41]
      refine tw_if_ne 68 dX10_change_10 (by decide) (fun _ => ?_) (fun c42 => absurd c42 (by decide))
      refine tw_iconst (v := 0) dX10_change_68 (by decide) ?_
      exact tw_iret dX10_change_69 rfl (Or.inl ⟨_, rfl, sp40⟩)
    · exact absurd ei41b (by decide)
  · rw [q28r]
    subst q28k
    refine tw_iconst (v := 1) dX10_change_6 (by decide) ?_
    refine tw_bi (tw_callV (M := mX10_change) (pc := 7) okX10_start dX10_change_7 w_1200 rfl f2 [.int 0, .int 1] [] rfl rfl ⟨by decide, by decide⟩ (Nat.le_of_ble_eq_true rfl) (c_X10_start d g τ h sp0.1 x kx 0 1 (by decide)) 0 0 (Nat.le_of_ble_eq_true rfl) (Nat.le_of_ble_eq_true rfl)) (fun r45 h44 q43 => ?_) (fun E h1 q => q.elim)
    obtain ⟨e46, he47, hs48, hr49, h350⟩ := q43
    have sp51 : tw_sp d τ h g τ h44 := by rw [he47]; exact sp0.set kx (by decide) hs48
    rcases hr49 with ei52 | ⟨ei52, ei52b⟩
    · rw [ei52]
      refine tw_if_ne 68 dX10_change_10 (by decide) (fun _ => ?_) (fun c53 => absurd c53 (by decide))
      refine tw_iconst (v := 0) dX10_change_68 (by decide) ?_
      exact tw_iret dX10_change_69 rfl (Or.inl ⟨_, rfl, sp51⟩)
    · rw [ei52]
      refine tw_if_ne 68 dX10_change_10 (by decide) (fun c54 => absurd (by decide) c54) (fun _ => ?_)
      refine tw_aload_n 0 dX10_change_13 rfl rfl ?_
      refine tw_iload_n 2 dX10_change_14 rfl rfl ?_
      refine tw_bi (tw_callS (M := mX10_change) (pc := 15) okX10_isNoMetal dX10_change_15 w_1312 [.int m] [.ref x] rfl rfl ⟨by decide, by decide⟩ (Nat.le_of_ble_eq_true rfl) (c_X10_isNoMetal d g τ h44 sp51.1 m) 0 0 (Nat.le_of_ble_eq_true rfl) (Nat.le_of_ble_eq_true rfl)) (fun r57 h56 q55 => ?_) (fun E h1 q => q.elim)
      obtain ⟨q55e, q55d⟩ := q55
      rw [q55e]
      rcases q55d with q55r | ⟨q55r, q55m⟩
      · rw [q55r]
        refine tw_if_ne 31 dX10_change_18 (by decide) (fun _ => ?_) (fun c58 => absurd c58 (by decide))
        refine tw_iconst (v := 1) dX10_change_31 (by decide) ?_
        refine tw_goto 36 dX10_change_32 (by decide) ?_
        refine tw_iconst (v := 2) dX10_change_36 (by decide) ?_
        obtain ⟨e59, f60, th_61, td_62, ds_63, fr_64, ca_65, us_66, wo_67, cm_68, lc_69, lh_70, ld_71, rfl, k72, k73, k74, k75, k76, k77, k78, k79, k80, k81, k82, k83, k84, k85⟩ := sp51.1 x 36 kx (by decide)
        refine tw_bi (tw_callV (M := mX10_change) (pc := 37) okX10_refuse dX10_change_37 w_1204 rfl f60 [.int 1, .int 2] [] rfl rfl ⟨by decide, by decide⟩ (Nat.le_of_ble_eq_true rfl) (c_X10_refuse d g τ h44 sp51.1 x kx 1 2 (by decide)) 0 0 (Nat.le_of_ble_eq_true rfl) (Nat.le_of_ble_eq_true rfl)) (fun r88 h87 q86 => ?_) (fun E h1 q => q.elim)
        obtain ⟨e89, he90, hs91, hr92, h393⟩ := q86
        have sp94 : tw_sp d τ h g τ h87 := by rw [he90]; exact sp51.set kx (by decide) hs91
        rcases hr92 with ei95 | ⟨ei95, ei95b⟩
        · rw [ei95]
          refine tw_if_ne 68 dX10_change_40 (by decide) (fun _ => ?_) (fun c96 => absurd c96 (by decide))
          refine tw_iconst (v := 0) dX10_change_68 (by decide) ?_
          exact tw_iret dX10_change_69 rfl (Or.inl ⟨_, rfl, sp94⟩)
        · exact absurd ei95b (by decide)
      · rw [q55r]
        refine tw_if_ne 31 dX10_change_18 (by decide) (fun c97 => absurd (by decide) c97) (fun _ => ?_)
        refine tw_iload_n 3 dX10_change_21 rfl rfl ?_
        refine tw_iconst (v := 1) dX10_change_22 (by decide) ?_
        refine tw_ldc (v := 99999) dX10_change_23 w_1199 ?_
        refine tw_bi (tw_callS (M := mX10_change) (pc := 25) okX10_isIn dX10_change_25 w_1196 [.int gr, .int 1, .int 99999] [.ref x] rfl rfl ⟨by decide, by decide⟩ (Nat.le_of_ble_eq_true rfl) (c_X10_isIn d g τ h44 sp51.1 gr 1 99999) 0 0 (Nat.le_of_ble_eq_true rfl) (Nat.le_of_ble_eq_true rfl)) (fun r100 h99 q98 => ?_) (fun E h1 q => q.elim)
        obtain ⟨q98e, q98d⟩ := q98
        rw [q98e]
        rcases q98d with ⟨q98r, q98n⟩ | ⟨q98r, q98a, q98b⟩
        · rw [q98r]
          refine tw_if_ne 35 dX10_change_28 (by decide) (fun c101 => absurd (by decide) c101) (fun _ => ?_)
          refine tw_iconst (v := 1) dX10_change_31 (by decide) ?_
          refine tw_goto 36 dX10_change_32 (by decide) ?_
          refine tw_iconst (v := 2) dX10_change_36 (by decide) ?_
          obtain ⟨e102, f103, th_104, td_105, ds_106, fr_107, ca_108, us_109, wo_110, cm_111, lc_112, lh_113, ld_114, rfl, k115, k116, k117, k118, k119, k120, k121, k122, k123, k124, k125, k126, k127, k128⟩ := sp51.1 x 36 kx (by decide)
          refine tw_bi (tw_callV (M := mX10_change) (pc := 37) okX10_refuse dX10_change_37 w_1204 rfl f103 [.int 1, .int 2] [] rfl rfl ⟨by decide, by decide⟩ (Nat.le_of_ble_eq_true rfl) (c_X10_refuse d g τ h44 sp51.1 x kx 1 2 (by decide)) 0 0 (Nat.le_of_ble_eq_true rfl) (Nat.le_of_ble_eq_true rfl)) (fun r131 h130 q129 => ?_) (fun E h1 q => q.elim)
          obtain ⟨e132, he133, hs134, hr135, h3136⟩ := q129
          have sp137 : tw_sp d τ h g τ h130 := by rw [he133]; exact sp51.set kx (by decide) hs134
          rcases hr135 with ei138 | ⟨ei138, ei138b⟩
          · rw [ei138]
            refine tw_if_ne 68 dX10_change_40 (by decide) (fun _ => ?_) (fun c139 => absurd c139 (by decide))
            refine tw_iconst (v := 0) dX10_change_68 (by decide) ?_
            exact tw_iret dX10_change_69 rfl (Or.inl ⟨_, rfl, sp137⟩)
          · exact absurd ei138b (by decide)
        · rw [q98r]
          refine tw_if_ne 35 dX10_change_28 (by decide) (fun _ => ?_) (fun c140 => absurd c140 (by decide))
          refine tw_iconst (v := 0) dX10_change_35 (by decide) ?_
          refine tw_iconst (v := 2) dX10_change_36 (by decide) ?_
          obtain ⟨e141, f142, th_143, td_144, ds_145, fr_146, ca_147, us_148, wo_149, cm_150, lc_151, lh_152, ld_153, rfl, k154, k155, k156, k157, k158, k159, k160, k161, k162, k163, k164, k165, k166, k167⟩ := sp51.1 x 36 kx (by decide)
          refine tw_bi (tw_callV (M := mX10_change) (pc := 37) okX10_refuse dX10_change_37 w_1204 rfl f142 [.int 0, .int 2] [] rfl rfl ⟨by decide, by decide⟩ (Nat.le_of_ble_eq_true rfl) (c_X10_refuse d g τ h44 sp51.1 x kx 0 2 (by decide)) 0 0 (Nat.le_of_ble_eq_true rfl) (Nat.le_of_ble_eq_true rfl)) (fun r170 h169 q168 => ?_) (fun E h1 q => q.elim)
          obtain ⟨e171, he172, hs173, hr174, h3175⟩ := q168
          have sp176 : tw_sp d τ h g τ h169 := by rw [he172]; exact sp51.set kx (by decide) hs173
          rcases hr174 with ei177 | ⟨ei177, ei177b⟩
          · rw [ei177]
            refine tw_if_ne 68 dX10_change_40 (by decide) (fun _ => ?_) (fun c178 => absurd c178 (by decide))
            refine tw_iconst (v := 0) dX10_change_68 (by decide) ?_
            exact tw_iret dX10_change_69 rfl (Or.inl ⟨_, rfl, sp176⟩)
          · rw [ei177]
            refine tw_if_ne 68 dX10_change_40 (by decide) (fun c179 => absurd (by decide) c179) (fun _ => ?_)
            refine tw_aload_n 0 dX10_change_43 rfl rfl ?_
            refine tw_aload_n 0 dX10_change_44 rfl rfl ?_
            refine tw_aload_n 0 dX10_change_45 rfl rfl ?_
            obtain ⟨e180, f181, th_182, td_183, ds_184, fr_185, ca_186, us_187, wo_188, cm_189, lc_190, lh_191, ld_192, rfl, k193, k194, k195, k196, k197, k198, k199, k200, k201, k202, k203, k204, k205, k206⟩ := sp176.1 x 36 kx (by decide)
            refine tw_get (v := .ref lh_191) rfl in_14 10 dX10_change_46 w_1161 rfl (by decide) f181 rfl ?_
            refine tw_iload_n 1 dX10_change_49 rfl rfl ?_
            obtain ⟨e207, f208, ⟨el209, rfl, k210⟩, k211⟩ := sp176.1 lh_191 25 k200 (by decide)
            refine tw_br (tw_callV (M := mX10_change) (pc := 50) okJx4a65c_get_915e3 dX10_change_50 w_1296 rfl f208 [.int (nI j31)] [.ref x, .ref x] rfl rfl ⟨by decide, by decide⟩ (Nat.le_of_ble_eq_true rfl) (c25_get d g τ h169 sp176.1 lh_191 k200 j31 (by omega) (by omega)) 0 0 (Nat.le_of_ble_eq_true rfl) (Nat.le_of_ble_eq_true rfl)) (fun r214 h213 q212 => ?_) (fun E h1 q => q.elim)
            obtain ⟨q212e, q212k⟩ := q212
            rw [q212e]
            have el215 : tw_el h169 (g.2 13) j31 = r214 := by rw [← k211]; exact q212k.2.symm
            have kl216 : τ (g.2 13) = 25 := by rw [← k211]; exact k200
            obtain ⟨e217, f218, x_219, y_220, dy_221, p_222, rfl, k223, k224, k225⟩ := sp176.1 r214 23 q212k.1 (by decide)
            refine tw_castS (ci := 13) rfl dX10_change_53 w_1336 f218 ?_
            refine tw_iload_n 2 dX10_change_56 rfl rfl ?_
            refine tw_iload_n 3 dX10_change_57 rfl rfl ?_
            refine tw_bi (tw_callV (M := mX10_change) (pc := 58) okX10_isNoChange dX10_change_58 w_1366 rfl f181 [.ref r214, .int m, .int gr] [.ref x] rfl rfl ⟨by decide, by decide⟩ (Nat.le_of_ble_eq_true rfl) (c_X10_isNoChange d g τ h169 sp176.1 x kx r214 q212k.1 m gr q55m) 0 0 (Nat.le_of_ble_eq_true rfl) (Nat.le_of_ble_eq_true rfl)) (fun r228 h227 q226 => ?_) (fun E h1 q => q.elim)
            obtain ⟨q226e, q226d⟩ := q226
            rw [q226e]
            rcases q226d with q226r | ⟨q226r, q226a⟩
            · rw [q226r]
              refine tw_iconst (v := 3) dX10_change_61 (by decide) ?_
              refine tw_bi (tw_callV (M := mX10_change) (pc := 62) okX10_refuse dX10_change_62 w_1204 rfl f181 [.int 1, .int 3] [] rfl rfl ⟨by decide, by decide⟩ (Nat.le_of_ble_eq_true rfl) (c_X10_refuse d g τ h169 sp176.1 x kx 1 3 (by decide)) 0 0 (Nat.le_of_ble_eq_true rfl) (Nat.le_of_ble_eq_true rfl)) (fun r231 h230 q229 => ?_) (fun E h1 q => q.elim)
              obtain ⟨e232, he233, hs234, hr235, h3236⟩ := q229
              have sp237 : tw_sp d τ h g τ h230 := by rw [he233]; exact sp176.set kx (by decide) hs234
              have f238 : h230 lh_191 = some (.inr (3, [.int (g.1 4), .ref el209, .int (nI (g.2 4))])) := by rw [he233, tw_up_n (fun q => absurd (k200) (by rw [q, kx]; decide))]; exact f208
              have f239 : h230 r214 = some (.inr (13, [.int x_219, .int y_220, .int dy_221, .ref p_222])) := by rw [he233, tw_up_n (fun q => absurd (q212k.1) (by rw [q, kx]; decide))]; exact f218
              have el240 : tw_el h230 (g.2 13) j31 = r214 := by rw [he233]; exact (tw_el25_up sp176.1 kl216 (by omega) (by rw [kx]; decide) (by rw [kx]; decide)).trans el215
              rcases hr235 with ei241 | ⟨ei241, ei241b⟩
              · rw [ei241]
                refine tw_if_eq 70 dX10_change_65 (by decide) (fun c242 => absurd c242 (by decide)) (fun _ => ?_)
                refine tw_iconst (v := 0) dX10_change_68 (by decide) ?_
                exact tw_iret dX10_change_69 rfl (Or.inl ⟨_, rfl, sp237⟩)
              · exact absurd ei241b (by decide)
            · rw [q226r]
              obtain ⟨i243, hi244, ei245⟩ := q226a
              rw [f218] at ei245
              have ei2452 : x_219 = nI i243 := ei245
              subst ei2452
              refine tw_iconst (v := 3) dX10_change_61 (by decide) ?_
              refine tw_bi (tw_callV (M := mX10_change) (pc := 62) okX10_refuse dX10_change_62 w_1204 rfl f181 [.int 0, .int 3] [] rfl rfl ⟨by decide, by decide⟩ (Nat.le_of_ble_eq_true rfl) (c_X10_refuse d g τ h169 sp176.1 x kx 0 3 (by decide)) 0 0 (Nat.le_of_ble_eq_true rfl) (Nat.le_of_ble_eq_true rfl)) (fun r248 h247 q246 => ?_) (fun E h1 q => q.elim)
              obtain ⟨e249, he250, hs251, hr252, h3253⟩ := q246
              have sp254 : tw_sp d τ h g τ h247 := by rw [he250]; exact sp176.set kx (by decide) hs251
              have f255 : h247 lh_191 = some (.inr (3, [.int (g.1 4), .ref el209, .int (nI (g.2 4))])) := by rw [he250, tw_up_n (fun q => absurd (k200) (by rw [q, kx]; decide))]; exact f208
              have f256 : h247 r214 = some (.inr (13, [.int (nI i243), .int y_220, .int dy_221, .ref p_222])) := by rw [he250, tw_up_n (fun q => absurd (q212k.1) (by rw [q, kx]; decide))]; exact f218
              have el257 : tw_el h247 (g.2 13) j31 = r214 := by rw [he250]; exact (tw_el25_up sp176.1 kl216 (by omega) (by rw [kx]; decide) (by rw [kx]; decide)).trans el215
              rcases hr252 with ei258 | ⟨ei258, ei258b⟩
              · rw [ei258]
                refine tw_if_eq 70 dX10_change_65 (by decide) (fun c259 => absurd c259 (by decide)) (fun _ => ?_)
                refine tw_iconst (v := 0) dX10_change_68 (by decide) ?_
                exact tw_iret dX10_change_69 rfl (Or.inl ⟨_, rfl, sp254⟩)
              · rw [ei258]
                refine tw_if_eq 70 dX10_change_65 (by decide) (fun _ => ?_) (fun c260 => absurd (by decide) c260)
                refine tw_aload_n 0 dX10_change_70 rfl rfl ?_
                obtain ⟨e261, f262, th_263, td_264, ds_265, fr_266, ca_267, us_268, wo_269, cm_270, lc_271, lh_272, ld_273, rfl, k274, k275, k276, k277, k278, k279, k280, k281, k282, k283, k284, k285, k286, k287⟩ := sp254.1 x 36 kx (by decide)
                refine tw_get (v := .ref lh_272) rfl in_14 10 dX10_change_71 w_1161 rfl (by decide) f262 rfl ?_
                refine tw_iload_n 1 dX10_change_74 rfl rfl ?_
                obtain ⟨e288, f289, ⟨el290, rfl, k291⟩, k292⟩ := sp254.1 lh_272 25 k281 (by decide)
                refine tw_br (tw_callV (M := mX10_change) (pc := 75) okJx4a65c_get_915e3 dX10_change_75 w_1296 rfl f289 [.int (nI j31)] [] rfl rfl ⟨by decide, by decide⟩ (Nat.le_of_ble_eq_true rfl) (c25_get d g τ h247 sp254.1 lh_272 k281 j31 (by omega) (by omega)) 0 0 (Nat.le_of_ble_eq_true rfl) (Nat.le_of_ble_eq_true rfl)) (fun r295 h294 q293 => ?_) (fun E h1 q => q.elim)
                obtain ⟨q293e, q293k⟩ := q293
                rw [q293e]
                have q293ky : r295 = r214 := q293k.2.trans (by rw [k292]; exact el257)
                rw [q293ky]
                refine tw_castS (ci := 13) rfl dX10_change_78 w_1336 f256 ?_
                refine tw_astore [(4, .ref r214), (0, .ref x), (1, .int (nI j31)), (2, .int m), (3, .int gr)] dX10_change_81 (by decide) rfl ?_
                refine tw_aload_n 1 dX10_change_83 rfl rfl ?_
                refine tw_get (v := .ref lc_271) rfl in_14 9 dX10_change_84 w_1160 rfl (by decide) f262 rfl ?_
                refine tw_aload 0 dX10_change_87 rfl ?_
                refine tw_get (v := .int (nI i243)) rfl in_13 0 dX10_change_89 w_1342 rfl (by decide) f256 rfl ?_
                obtain ⟨e296, f297, ⟨el298, rfl, k299⟩, k300⟩ := sp254.1 lc_271 24 k280 (by decide)
                refine tw_br (tw_callV (M := mX10_change) (pc := 92) okJx4a65c_get_915e3 dX10_change_92 w_1296 rfl f297 [.int (nI i243)] [] rfl rfl ⟨by decide, by decide⟩ (Nat.le_of_ble_eq_true rfl) (c24_get d g τ h247 sp254.1 lc_271 k280 i243 (by omega) (by omega)) 0 0 (Nat.le_of_ble_eq_true rfl) (Nat.le_of_ble_eq_true rfl)) (fun r303 h302 q301 => ?_) (fun E h1 q => q.elim)
                obtain ⟨q301e, q301k⟩ := q301
                rw [q301e]
                have el304 : tw_el h247 (g.2 12) i243 = r303 := by rw [← k300]; exact q301k.2.symm
                have kl305 : τ (g.2 12) = 24 := by rw [← k300]; exact k280
                obtain ⟨e306, f307, r_308, c_309, v_310, o_311, t_312, rfl, k313, k314, k315, k316, k317⟩ := sp254.1 r303 21 q301k.1 (by decide)
                refine tw_castS (ci := 11) rfl dX10_change_95 w_1212 f307 ?_
                refine tw_astore [(5, .ref r303), (4, .ref r214), (0, .ref x), (1, .int (nI j31)), (2, .int m), (3, .int gr)] dX10_change_98 (by decide) rfl ?_
                refine tw_aload 0 dX10_change_100 rfl ?_
                refine tw_iload_n 4 dX10_change_102 rfl rfl ?_
                refine tw_iload_n 5 dX10_change_103 rfl rfl ?_
                refine tw_i2l dX10_change_104 ?_
                refine tw_nml (fun v318 ev318 => ?_)
                refine tw_bl (tw_callS (M := mX10_change) (pc := 105) okX10_given dX10_change_105 w_1370 [.ref r303, .int m, .long v318] [] rfl rfl ⟨by decide, by decide⟩ (Nat.le_of_ble_eq_true rfl) (c_X10_given d g τ h247 sp254.1 r303 q301k.1 m v318) 0 0 (Nat.le_of_ble_eq_true rfl) (Nat.le_of_ble_eq_true rfl)) (fun r321 h320 q319 => ?_) (fun E h1 q => q.elim)
                rw [q319]
                refine tw_lstore [(6, .long r321), (5, .ref r303), (4, .ref r214), (0, .ref x), (1, .int (nI j31)), (2, .int m), (3, .int gr)] dX10_change_108 (by decide) rfl ?_
                refine tw_aload 2 dX10_change_110 rfl ?_
                refine tw_get (v := .ref p_222) rfl in_13 3 dX10_change_112 w_1348 rfl (by decide) f256 rfl ?_
                refine tw_iload_n 5 dX10_change_115 rfl rfl ?_
                refine tw_dup2 dX10_change_116 rfl rfl ?_
                obtain ⟨e322, f323, F324, rfl⟩ := sp254.1 p_222 31 k223 (by decide)
                obtain ⟨v325, ev325⟩ : ∃ y : Int64, F324 (m).toNatClampNeg = y := ⟨_, rfl⟩
                refine tw_lald (v := v325) dX10_change_117 f323 (tw_in01 q55m (by decide)) ev325 ?_
                refine tw_iload_n 6 dX10_change_118 rfl rfl ?_
                refine tw_i2l dX10_change_119 ?_
                refine tw_nml (fun v326 ev326 => ?_)
                refine tw_lsub dX10_change_120 ?_
                refine tw_nml (fun v327 ev327 => ?_)
                refine tw_last dX10_change_121 f323 (tw_in01 q55m (by decide)) ?_
                obtain ⟨h328, eh328⟩ : ∃ z : tw_H, z = tw_up h247 p_222 (.inl (d.2 1, 2, .inr (.inl (vp_updL F324 (m).toNatClampNeg v327)))) := ⟨_, rfl⟩
                rw [← eh328]
                have sp329 : tw_sp d τ h g τ h328 := by rw [eh328]; exact sp254.set k223 (by decide) ⟨_, rfl⟩
                refine tw_aload 1 dX10_change_122 rfl ?_
                obtain ⟨e330, f331, r_332, c_333, v_334, o_335, t_336, rfl, k337, k338, k339, k340, k341⟩ := sp329.1 r303 21 q301k.1 (by decide)
                refine tw_get (v := .ref v_334) rfl in_11 2 dX10_change_124 w_1221 rfl (by decide) f331 rfl ?_
                refine tw_iload_n 5 dX10_change_127 rfl rfl ?_
                refine tw_dup2 dX10_change_128 rfl rfl ?_
                obtain ⟨e342, f343, F344, rfl⟩ := sp329.1 v_334 31 k337 (by decide)
                obtain ⟨v345, ev345⟩ : ∃ y : Int64, F344 (m).toNatClampNeg = y := ⟨_, rfl⟩
                refine tw_lald (v := v345) dX10_change_129 f343 (tw_in01 q55m (by decide)) ev345 ?_
                refine tw_iload_n 6 dX10_change_130 rfl rfl ?_
                refine tw_i2l dX10_change_131 ?_
                refine tw_nml (fun v346 ev346 => ?_)
                refine tw_ladd dX10_change_132 ?_
                refine tw_nml (fun v347 ev347 => ?_)
                refine tw_last dX10_change_133 f343 (tw_in01 q55m (by decide)) ?_
                obtain ⟨h348, eh348⟩ : ∃ z : tw_H, z = tw_up h328 v_334 (.inl (d.2 1, 2, .inr (.inl (vp_updL F344 (m).toNatClampNeg v347)))) := ⟨_, rfl⟩
                rw [← eh348]
                have sp349 : tw_sp d τ h g τ h348 := by rw [eh348]; exact sp329.set k337 (by decide) ⟨_, rfl⟩
                refine tw_aload 2 dX10_change_134 rfl ?_
                obtain ⟨e350, f351, x_352, y_353, dy_354, p_355, rfl, k356, k357, k358⟩ := sp349.1 r214 23 q212k.1 (by decide)
                refine tw_get (v := .ref p_355) rfl in_13 3 dX10_change_136 w_1348 rfl (by decide) f351 rfl ?_
                refine tw_iconst (v := 1) dX10_change_139 (by decide) ?_
                refine tw_iload_n 5 dX10_change_140 rfl rfl ?_
                refine tw_isub dX10_change_141 ?_
                refine tw_nmi (fun v359 ev359 => ?_)
                refine tw_dup2 dX10_change_142 rfl rfl ?_
                obtain ⟨e360, f361, F362, rfl⟩ := sp349.1 p_355 31 k356 (by decide)
                obtain ⟨v363, ev363⟩ : ∃ y : Int64, F362 (v359).toNatClampNeg = y := ⟨_, rfl⟩
                refine tw_lald (v := v363) dX10_change_143 f361 (tw_in01 (tw_1m q55m ev359) (by decide)) ev363 ?_
                refine tw_lload 0 dX10_change_144 rfl ?_
                refine tw_ladd dX10_change_146 ?_
                refine tw_nml (fun v364 ev364 => ?_)
                refine tw_last dX10_change_147 f361 (tw_in01 (tw_1m q55m ev359) (by decide)) ?_
                obtain ⟨h365, eh365⟩ : ∃ z : tw_H, z = tw_up h348 p_355 (.inl (d.2 1, 2, .inr (.inl (vp_updL F362 (v359).toNatClampNeg v364)))) := ⟨_, rfl⟩
                rw [← eh365]
                have sp366 : tw_sp d τ h g τ h365 := by rw [eh365]; exact sp349.set k356 (by decide) ⟨_, rfl⟩
                refine tw_aload 1 dX10_change_148 rfl ?_
                obtain ⟨e367, f368, r_369, c_370, v_371, o_372, t_373, rfl, k374, k375, k376, k377, k378⟩ := sp366.1 r303 21 q301k.1 (by decide)
                refine tw_get (v := .ref v_371) rfl in_11 2 dX10_change_150 w_1221 rfl (by decide) f368 rfl ?_
                refine tw_iconst (v := 1) dX10_change_153 (by decide) ?_
                refine tw_iload_n 5 dX10_change_154 rfl rfl ?_
                refine tw_isub dX10_change_155 ?_
                refine tw_nmi (fun v379 ev379 => ?_)
                refine tw_dup2 dX10_change_156 rfl rfl ?_
                obtain ⟨e380, f381, F382, rfl⟩ := sp366.1 v_371 31 k374 (by decide)
                obtain ⟨v383, ev383⟩ : ∃ y : Int64, F382 (v379).toNatClampNeg = y := ⟨_, rfl⟩
                refine tw_lald (v := v383) dX10_change_157 f381 (tw_in01 (tw_1m q55m ev379) (by decide)) ev383 ?_
                refine tw_lload 0 dX10_change_158 rfl ?_
                refine tw_lsub dX10_change_160 ?_
                refine tw_nml (fun v384 ev384 => ?_)
                refine tw_last dX10_change_161 f381 (tw_in01 (tw_1m q55m ev379) (by decide)) ?_
                obtain ⟨h385, eh385⟩ : ∃ z : tw_H, z = tw_up h365 v_371 (.inl (d.2 1, 2, .inr (.inl (vp_updL F382 (v379).toNatClampNeg v384)))) := ⟨_, rfl⟩
                rw [← eh385]
                have sp386 : tw_sp d τ h g τ h385 := by rw [eh385]; exact sp366.set k374 (by decide) ⟨_, rfl⟩
                refine tw_lload 0 dX10_change_162 rfl ?_
                refine tw_l2i dX10_change_164 ?_
                refine tw_nmi (fun v387 ev387 => ?_)
                exact tw_iret dX10_change_165 rfl (Or.inl ⟨_, rfl, sp386⟩)

set_option maxHeartbeats 4000000 in
set_option maxRecDepth 100000 in
theorem c_X10_send (d : tw_D) (g : tw_G) (τ : tw_K) (h : tw_H) (hw : tw_wt d g τ h) (x : Nat) (kx : τ x = 36) (n : Int32) (c : Int32) : tw_Ct d mX10_send 0 0 [.ref x, .int n, .int c] h (tw_qi (fun r h1 => tw_sp d τ h g τ h1) tw_nx) := by
  refine tw_of (by decide +kernel) (Nat.le_of_ble_eq_true rfl) ?_
  show tw_W d mX10_send _ 0 [(0, .ref x), (1, .int n), (2, .int c)] [] h 0 0
  have sp0 := tw_sp.rf hw
  refine tw_aload_n 0 dX10_send_0 rfl rfl ?_
  refine tw_aload_n 0 dX10_send_1 rfl rfl ?_
  refine tw_iload_n 1 dX10_send_2 rfl rfl ?_
  obtain ⟨e1, f2, th_3, td_4, ds_5, fr_6, ca_7, us_8, wo_9, cm_10, lc_11, lh_12, ld_13, rfl, k14, k15, k16, k17, k18, k19, k20, k21, k22, k23, k24, k25, k26, k27⟩ := sp0.1 x 36 kx (by decide)
  refine tw_bi (tw_callV (M := mX10_send) (pc := 3) okX10_isNoHouse dX10_send_3 w_1362 rfl f2 [.int n] [.ref x] rfl rfl ⟨by decide, by decide⟩ (Nat.le_of_ble_eq_true rfl) (c_X10_isNoHouse d g τ h sp0.1 x kx n) 0 0 (Nat.le_of_ble_eq_true rfl) (Nat.le_of_ble_eq_true rfl)) (fun r30 h29 q28 => ?_) (fun E h1 q => q.elim)
  obtain ⟨q28e, q28d⟩ := q28
  rw [q28e]
  rcases q28d with q28r | ⟨q28r, j31, q28j, q28k⟩
  · rw [q28r]
    refine tw_if_ne 17 dX10_send_6 (by decide) (fun _ => ?_) (fun c32 => absurd c32 (by decide))
    refine tw_iconst (v := 1) dX10_send_17 (by decide) ?_
    refine tw_goto 22 dX10_send_18 (by decide) ?_
    refine tw_iconst (v := 1) dX10_send_22 (by decide) ?_
    refine tw_bi (tw_callV (M := mX10_send) (pc := 23) okX10_start dX10_send_23 w_1200 rfl f2 [.int 1, .int 1] [] rfl rfl ⟨by decide, by decide⟩ (Nat.le_of_ble_eq_true rfl) (c_X10_start d g τ h sp0.1 x kx 1 1 (by decide)) 0 0 (Nat.le_of_ble_eq_true rfl) (Nat.le_of_ble_eq_true rfl)) (fun r35 h34 q33 => ?_) (fun E h1 q => q.elim)
    obtain ⟨e36, he37, hs38, hr39, h340⟩ := q33
    have sp41 : tw_sp d τ h g τ h34 := by rw [he37]; exact sp0.set kx (by decide) hs38
    rcases hr39 with ei42 | ⟨ei42, ei42b⟩
    · rw [ei42]
      refine tw_if_ne 78 dX10_send_26 (by decide) (fun _ => ?_) (fun c43 => absurd c43 (by decide))
      refine tw_iconst (v := 0) dX10_send_78 (by decide) ?_
      exact tw_iret dX10_send_79 rfl (Or.inl ⟨_, rfl, sp41⟩)
    · exact absurd ei42b (by decide)
  · rw [q28r]
    subst q28k
    refine tw_if_ne 17 dX10_send_6 (by decide) (fun c44 => absurd (by decide) c44) (fun _ => ?_)
    refine tw_aload_n 0 dX10_send_9 rfl rfl ?_
    refine tw_iload_n 2 dX10_send_10 rfl rfl ?_
    refine tw_bi (tw_callV (M := mX10_send) (pc := 11) okX10_isNoCountry dX10_send_11 w_1292 rfl f2 [.int c] [.ref x] rfl rfl ⟨by decide, by decide⟩ (Nat.le_of_ble_eq_true rfl) (c_X10_isNoCountry d g τ h sp0.1 x kx c) 0 0 (Nat.le_of_ble_eq_true rfl) (Nat.le_of_ble_eq_true rfl)) (fun r47 h46 q45 => ?_) (fun E h1 q => q.elim)
    obtain ⟨q45e, q45d⟩ := q45
    rw [q45e]
    rcases q45d with q45r | ⟨q45r, j48, q45j, q45k⟩
    · rw [q45r]
      refine tw_if_eq 21 dX10_send_14 (by decide) (fun c49 => absurd c49 (by decide)) (fun _ => ?_)
      refine tw_iconst (v := 1) dX10_send_17 (by decide) ?_
      refine tw_goto 22 dX10_send_18 (by decide) ?_
      refine tw_iconst (v := 1) dX10_send_22 (by decide) ?_
      refine tw_bi (tw_callV (M := mX10_send) (pc := 23) okX10_start dX10_send_23 w_1200 rfl f2 [.int 1, .int 1] [] rfl rfl ⟨by decide, by decide⟩ (Nat.le_of_ble_eq_true rfl) (c_X10_start d g τ h sp0.1 x kx 1 1 (by decide)) 0 0 (Nat.le_of_ble_eq_true rfl) (Nat.le_of_ble_eq_true rfl)) (fun r52 h51 q50 => ?_) (fun E h1 q => q.elim)
      obtain ⟨e53, he54, hs55, hr56, h357⟩ := q50
      have sp58 : tw_sp d τ h g τ h51 := by rw [he54]; exact sp0.set kx (by decide) hs55
      rcases hr56 with ei59 | ⟨ei59, ei59b⟩
      · rw [ei59]
        refine tw_if_ne 78 dX10_send_26 (by decide) (fun _ => ?_) (fun c60 => absurd c60 (by decide))
        refine tw_iconst (v := 0) dX10_send_78 (by decide) ?_
        exact tw_iret dX10_send_79 rfl (Or.inl ⟨_, rfl, sp58⟩)
      · exact absurd ei59b (by decide)
    · rw [q45r]
      subst q45k
      refine tw_if_eq 21 dX10_send_14 (by decide) (fun _ => ?_) (fun c61 => absurd (by decide) c61)
      refine tw_iconst (v := 0) dX10_send_21 (by decide) ?_
      refine tw_iconst (v := 1) dX10_send_22 (by decide) ?_
      refine tw_bi (tw_callV (M := mX10_send) (pc := 23) okX10_start dX10_send_23 w_1200 rfl f2 [.int 0, .int 1] [] rfl rfl ⟨by decide, by decide⟩ (Nat.le_of_ble_eq_true rfl) (c_X10_start d g τ h sp0.1 x kx 0 1 (by decide)) 0 0 (Nat.le_of_ble_eq_true rfl) (Nat.le_of_ble_eq_true rfl)) (fun r64 h63 q62 => ?_) (fun E h1 q => q.elim)
      obtain ⟨e65, he66, hs67, hr68, h369⟩ := q62
      have sp70 : tw_sp d τ h g τ h63 := by rw [he66]; exact sp0.set kx (by decide) hs67
      rcases hr68 with ei71 | ⟨ei71, ei71b⟩
      · rw [ei71]
        refine tw_if_ne 78 dX10_send_26 (by decide) (fun _ => ?_) (fun c72 => absurd c72 (by decide))
        refine tw_iconst (v := 0) dX10_send_78 (by decide) ?_
        exact tw_iret dX10_send_79 rfl (Or.inl ⟨_, rfl, sp70⟩)
      · rw [ei71]
        refine tw_if_ne 78 dX10_send_26 (by decide) (fun c73 => absurd (by decide) c73) (fun _ => ?_)
        refine tw_aload_n 0 dX10_send_29 rfl rfl ?_
        refine tw_aload_n 0 dX10_send_30 rfl rfl ?_
        obtain ⟨e74, f75, th_76, td_77, ds_78, fr_79, ca_80, us_81, wo_82, cm_83, lc_84, lh_85, ld_86, rfl, k87, k88, k89, k90, k91, k92, k93, k94, k95, k96, k97, k98, k99, k100⟩ := sp70.1 x 36 kx (by decide)
        refine tw_get (v := .ref lh_85) rfl in_14 10 dX10_send_31 w_1161 rfl (by decide) f75 rfl ?_
        refine tw_iload_n 1 dX10_send_34 rfl rfl ?_
        obtain ⟨e101, f102, ⟨el103, rfl, k104⟩, k105⟩ := sp70.1 lh_85 25 k94 (by decide)
        refine tw_br (tw_callV (M := mX10_send) (pc := 35) okJx4a65c_get_915e3 dX10_send_35 w_1296 rfl f102 [.int (nI j31)] [.ref x] rfl rfl ⟨by decide, by decide⟩ (Nat.le_of_ble_eq_true rfl) (c25_get d g τ h63 sp70.1 lh_85 k94 j31 (by omega) (by omega)) 0 0 (Nat.le_of_ble_eq_true rfl) (Nat.le_of_ble_eq_true rfl)) (fun r108 h107 q106 => ?_) (fun E h1 q => q.elim)
        obtain ⟨q106e, q106k⟩ := q106
        rw [q106e]
        have el109 : tw_el h63 (g.2 13) j31 = r108 := by rw [← k105]; exact q106k.2.symm
        have kl110 : τ (g.2 13) = 25 := by rw [← k105]; exact k94
        obtain ⟨e111, f112, x_113, y_114, dy_115, p_116, rfl, k117, k118, k119⟩ := sp70.1 r108 23 q106k.1 (by decide)
        refine tw_castS (ci := 13) rfl dX10_send_38 w_1336 f112 ?_
        refine tw_get (v := .int x_113) rfl in_13 0 dX10_send_41 w_1342 rfl (by decide) f112 rfl ?_
        refine tw_iconst (v := -1) dX10_send_44 (by decide) ?_
        refine tw_icmp_eq 66 dX10_send_45 (by decide) (fun c120 => ?_) (fun c120 => ?_)
        · refine tw_iconst (v := 1) dX10_send_66 (by decide) ?_
          refine tw_goto 71 dX10_send_67 (by decide) ?_
          refine tw_iconst (v := 2) dX10_send_71 (by decide) ?_
          refine tw_bi (tw_callV (M := mX10_send) (pc := 72) okX10_refuse dX10_send_72 w_1204 rfl f75 [.int 1, .int 2] [] rfl rfl ⟨by decide, by decide⟩ (Nat.le_of_ble_eq_true rfl) (c_X10_refuse d g τ h63 sp70.1 x kx 1 2 (by decide)) 0 0 (Nat.le_of_ble_eq_true rfl) (Nat.le_of_ble_eq_true rfl)) (fun r123 h122 q121 => ?_) (fun E h1 q => q.elim)
          obtain ⟨e124, he125, hs126, hr127, h3128⟩ := q121
          have sp129 : tw_sp d τ h g τ h122 := by rw [he125]; exact sp70.set kx (by decide) hs126
          have f130 : h122 lh_85 = some (.inr (3, [.int (g.1 4), .ref el103, .int (nI (g.2 4))])) := by rw [he125, tw_up_n (fun q => absurd (k94) (by rw [q, kx]; decide))]; exact f102
          have f131 : h122 r108 = some (.inr (13, [.int x_113, .int y_114, .int dy_115, .ref p_116])) := by rw [he125, tw_up_n (fun q => absurd (q106k.1) (by rw [q, kx]; decide))]; exact f112
          have el132 : tw_el h122 (g.2 13) j31 = r108 := by rw [he125]; exact (tw_el25_up sp70.1 kl110 (by omega) (by rw [kx]; decide) (by rw [kx]; decide)).trans el109
          rcases hr127 with ei133 | ⟨ei133, ei133b⟩
          · rw [ei133]
            refine tw_if_eq 80 dX10_send_75 (by decide) (fun c134 => absurd c134 (by decide)) (fun _ => ?_)
            refine tw_iconst (v := 0) dX10_send_78 (by decide) ?_
            exact tw_iret dX10_send_79 rfl (Or.inl ⟨_, rfl, sp129⟩)
          · exact absurd ei133b (by decide)
        · refine tw_aload_n 0 dX10_send_48 rfl rfl ?_
          refine tw_get (v := .ref lh_85) rfl in_14 10 dX10_send_49 w_1161 rfl (by decide) f75 rfl ?_
          refine tw_iload_n 1 dX10_send_52 rfl rfl ?_
          refine tw_br (tw_callV (M := mX10_send) (pc := 53) okJx4a65c_get_915e3 dX10_send_53 w_1296 rfl f102 [.int (nI j31)] [.ref x] rfl rfl ⟨by decide, by decide⟩ (Nat.le_of_ble_eq_true rfl) (c25_get d g τ h63 sp70.1 lh_85 k94 j31 (by omega) (by omega)) 0 0 (Nat.le_of_ble_eq_true rfl) (Nat.le_of_ble_eq_true rfl)) (fun r137 h136 q135 => ?_) (fun E h1 q => q.elim)
          obtain ⟨q135e, q135k⟩ := q135
          rw [q135e]
          have q135ky : r137 = r108 := q135k.2.trans (by rw [k105]; exact el109)
          rw [q135ky]
          refine tw_castS (ci := 13) rfl dX10_send_56 w_1336 f112 ?_
          refine tw_get (v := .int x_113) rfl in_13 0 dX10_send_59 w_1342 rfl (by decide) f112 rfl ?_
          refine tw_iload_n 2 dX10_send_62 rfl rfl ?_
          refine tw_icmp_ne 70 dX10_send_63 (by decide) (fun c138 => ?_) (fun c138 => ?_)
          · refine tw_iconst (v := 0) dX10_send_70 (by decide) ?_
            refine tw_iconst (v := 2) dX10_send_71 (by decide) ?_
            refine tw_bi (tw_callV (M := mX10_send) (pc := 72) okX10_refuse dX10_send_72 w_1204 rfl f75 [.int 0, .int 2] [] rfl rfl ⟨by decide, by decide⟩ (Nat.le_of_ble_eq_true rfl) (c_X10_refuse d g τ h63 sp70.1 x kx 0 2 (by decide)) 0 0 (Nat.le_of_ble_eq_true rfl) (Nat.le_of_ble_eq_true rfl)) (fun r141 h140 q139 => ?_) (fun E h1 q => q.elim)
            obtain ⟨e142, he143, hs144, hr145, h3146⟩ := q139
            have sp147 : tw_sp d τ h g τ h140 := by rw [he143]; exact sp70.set kx (by decide) hs144
            have f148 : h140 lh_85 = some (.inr (3, [.int (g.1 4), .ref el103, .int (nI (g.2 4))])) := by rw [he143, tw_up_n (fun q => absurd (k94) (by rw [q, kx]; decide))]; exact f102
            have f149 : h140 r108 = some (.inr (13, [.int x_113, .int y_114, .int dy_115, .ref p_116])) := by rw [he143, tw_up_n (fun q => absurd (q106k.1) (by rw [q, kx]; decide))]; exact f112
            have el150 : tw_el h140 (g.2 13) j31 = r108 := by rw [he143]; exact (tw_el25_up sp70.1 kl110 (by omega) (by rw [kx]; decide) (by rw [kx]; decide)).trans el109
            rcases hr145 with ei151 | ⟨ei151, ei151b⟩
            · rw [ei151]
              refine tw_if_eq 80 dX10_send_75 (by decide) (fun c152 => absurd c152 (by decide)) (fun _ => ?_)
              refine tw_iconst (v := 0) dX10_send_78 (by decide) ?_
              exact tw_iret dX10_send_79 rfl (Or.inl ⟨_, rfl, sp147⟩)
            · rw [ei151]
              refine tw_if_eq 80 dX10_send_75 (by decide) (fun _ => ?_) (fun c153 => absurd (by decide) c153)
              refine tw_aload_n 0 dX10_send_80 rfl rfl ?_
              obtain ⟨e154, f155, th_156, td_157, ds_158, fr_159, ca_160, us_161, wo_162, cm_163, lc_164, lh_165, ld_166, rfl, k167, k168, k169, k170, k171, k172, k173, k174, k175, k176, k177, k178, k179, k180⟩ := sp147.1 x 36 kx (by decide)
              refine tw_get (v := .ref lh_165) rfl in_14 10 dX10_send_81 w_1161 rfl (by decide) f155 rfl ?_
              refine tw_iload_n 1 dX10_send_84 rfl rfl ?_
              obtain ⟨e181, f182, ⟨el183, rfl, k184⟩, k185⟩ := sp147.1 lh_165 25 k174 (by decide)
              refine tw_br (tw_callV (M := mX10_send) (pc := 85) okJx4a65c_get_915e3 dX10_send_85 w_1296 rfl f182 [.int (nI j31)] [] rfl rfl ⟨by decide, by decide⟩ (Nat.le_of_ble_eq_true rfl) (c25_get d g τ h140 sp147.1 lh_165 k174 j31 (by omega) (by omega)) 0 0 (Nat.le_of_ble_eq_true rfl) (Nat.le_of_ble_eq_true rfl)) (fun r188 h187 q186 => ?_) (fun E h1 q => q.elim)
              obtain ⟨q186e, q186k⟩ := q186
              rw [q186e]
              have q186ky : r188 = r108 := q186k.2.trans (by rw [k185]; exact el150)
              rw [q186ky]
              refine tw_castS (ci := 13) rfl dX10_send_88 w_1336 f149 ?_
              refine tw_astore_n [(3, .ref r108), (0, .ref x), (1, .int (nI j31)), (2, .int (nI j48))] dX10_send_91 rfl (by decide) rfl ?_
              refine tw_iconst (v := 0) dX10_send_92 (by decide) ?_
              refine tw_istore [(4, .int 0), (3, .ref r108), (0, .ref x), (1, .int (nI j31)), (2, .int (nI j48))] dX10_send_93 (by decide) rfl ?_
              obtain ⟨j193, hj194, ej195⟩ := k118.resolve_left c120
              subst ej195
              have L192 : ∀ (r190 k189 : Nat) (h197 : tw_H) (sp198 : tw_sp d τ h140 g τ h197) (kf196 : h197 r108 = some (.inr (13, [.int (nI j193), .int y_114, .int dy_115, .ref p_116]))), 2 + 1 ≤ k189 + r190 → k189 ≤ 2 → tw_W d mX10_send (tw_qi (fun r h1 => tw_sp d τ h g τ h1) tw_nx) 95 [(0, .ref x), (1, .int (nI j31)), (2, .int (nI j48)), (3, .ref r108), (4, .int (nI k189))] [] h197 0 0 := by
                intro r190
                induction r190 with
                | zero => intro k189 h197 sp198 kf196 hk200 hk201; exact absurd hk200 (by omega)
                | succ r190 ih191 =>
                  intro k189 h197 sp198 kf196 hk200 hk201
                  refine tw_iload 4 dX10_send_95 rfl ?_
                  refine tw_iconst (v := 2) dX10_send_97 (by decide) ?_
                  refine tw_icmp_ge 159 dX10_send_98 (by decide) (fun c202 => ?_) (fun c202 => ?_)
                  · refine tw_aload_n 3 dX10_send_159 rfl rfl ?_
                    refine tw_aload_n 0 dX10_send_160 rfl rfl ?_
                    obtain ⟨e203, f204, th_205, td_206, ds_207, fr_208, ca_209, us_210, wo_211, cm_212, lc_213, lh_214, ld_215, rfl, k216, k217, k218, k219, k220, k221, k222, k223, k224, k225, k226, k227, k228, k229⟩ := sp198.1 x 36 kx (by decide)
                    refine tw_get (v := .int td_206) rfl in_14 1 dX10_send_161 w_1152 rfl (by decide) f204 rfl ?_
                    refine tw_aload_n 0 dX10_send_164 rfl rfl ?_
                    refine tw_get (v := .ref ds_207) rfl in_14 3 dX10_send_165 w_1154 rfl (by decide) f204 rfl ?_
                    refine tw_aload_n 3 dX10_send_168 rfl rfl ?_
                    refine tw_get (v := .int (nI j193)) rfl in_13 0 dX10_send_169 w_1342 rfl (by decide) kf196 rfl ?_
                    obtain ⟨e230, f231, F232, rfl, k233⟩ := sp198.1 ds_207 34 k216 (by decide)
                    obtain ⟨q234, k235, k236⟩ := k233 ((nI j193)).toNatClampNeg (by rw [nI_clamp (by omega)]; omega)
                    refine tw_aald (v := .ref q234) 8 rfl rfl dX10_send_172 f231 (vp_in_nI (by omega) (by decide)) (by rw [k235]; rfl) ?_
                    refine tw_iload_n 2 dX10_send_173 rfl rfl ?_
                    obtain ⟨e237, f238, F239, rfl⟩ := sp198.1 q234 6 k236 (by decide)
                    obtain ⟨v240, ev240⟩ : ∃ y : Int32, F239 ((nI j48)).toNatClampNeg = y := ⟨_, rfl⟩
                    refine tw_iald (v := v240) dX10_send_174 f238 (vp_in_nI (by omega) (by decide)) ev240 ?_
                    refine tw_iadd dX10_send_175 ?_
                    refine tw_nmi (fun v241 ev241 => ?_)
                    refine tw_put rfl in_13 tyX9 tyX9_ok nmX9 2 dX10_send_176 w_1346 rfl (by decide) kf196 rfl rfl rfl rfl (Nat.le_of_ble_eq_true rfl) [.int (nI j193), .int y_114, .int v241, .ref p_116] rfl ?_
                    obtain ⟨h242, eh242⟩ : ∃ z : tw_H, z = tw_up h197 r108 (.inr (13, [.int (nI j193), .int y_114, .int v241, .ref p_116])) := ⟨_, rfl⟩
                    rw [← eh242]
                    have sp243 : tw_sp d τ h140 g τ h242 := by rw [eh242]; exact sp198.set q106k.1 (by decide) ⟨(nI j193), y_114, v241, p_116, rfl, k117, (Or.inr ⟨_, (by omega), rfl⟩), k119⟩
                    have f244 : h242 r108 = some (.inr (13, [.int (nI j193), .int y_114, .int v241, .ref p_116])) := by rw [eh242]; exact tw_up_s
                    refine tw_aload_n 3 dX10_send_179 rfl rfl ?_
                    refine tw_iload_n 2 dX10_send_180 rfl rfl ?_
                    refine tw_put rfl in_13 tyX9 tyX9_ok nmX9 1 dX10_send_181 w_1344 rfl (by decide) f244 rfl rfl rfl rfl (Nat.le_of_ble_eq_true rfl) [.int (nI j193), .int (nI j48), .int v241, .ref p_116] rfl ?_
                    obtain ⟨h245, eh245⟩ : ∃ z : tw_H, z = tw_up h242 r108 (.inr (13, [.int (nI j193), .int (nI j48), .int v241, .ref p_116])) := ⟨_, rfl⟩
                    rw [← eh245]
                    have sp246 : tw_sp d τ h140 g τ h245 := by rw [eh245]; exact sp243.set q106k.1 (by decide) ⟨(nI j193), (nI j48), v241, p_116, rfl, k117, (Or.inr ⟨_, (by omega), rfl⟩), (Or.inr ⟨_, (by omega), rfl⟩)⟩
                    have f247 : h245 r108 = some (.inr (13, [.int (nI j193), .int (nI j48), .int v241, .ref p_116])) := by rw [eh245]; exact tw_up_s
                    refine tw_aload_n 3 dX10_send_184 rfl rfl ?_
                    refine tw_iconst (v := -1) dX10_send_185 (by decide) ?_
                    refine tw_put rfl in_13 tyX9 tyX9_ok nmX9 0 dX10_send_186 w_1342 rfl (by decide) f247 rfl rfl rfl rfl (Nat.le_of_ble_eq_true rfl) [.int (-1), .int (nI j48), .int v241, .ref p_116] rfl ?_
                    obtain ⟨h248, eh248⟩ : ∃ z : tw_H, z = tw_up h245 r108 (.inr (13, [.int (-1), .int (nI j48), .int v241, .ref p_116])) := ⟨_, rfl⟩
                    rw [← eh248]
                    have sp249 : tw_sp d τ h140 g τ h248 := by rw [eh248]; exact sp246.set q106k.1 (by decide) ⟨(-1), (nI j48), v241, p_116, rfl, k117, (Or.inl rfl), (Or.inr ⟨_, (by omega), rfl⟩)⟩
                    have f250 : h248 r108 = some (.inr (13, [.int (-1), .int (nI j48), .int v241, .ref p_116])) := by rw [eh248]; exact tw_up_s
                    refine tw_aload_n 3 dX10_send_189 rfl rfl ?_
                    refine tw_get (v := .int v241) rfl in_13 2 dX10_send_190 w_1346 rfl (by decide) f250 rfl ?_
                    exact tw_iret dX10_send_193 rfl (Or.inl ⟨_, rfl, (sp147.tr sp249)⟩)
                  · have kl251 := tw_klt (N := 2) c202 hk201 (by decide)
                    refine tw_aload_n 3 dX10_send_101 rfl rfl ?_
                    refine tw_get (v := .ref p_116) rfl in_13 3 dX10_send_102 w_1348 rfl (by decide) kf196 rfl ?_
                    refine tw_iload 4 dX10_send_105 rfl ?_
                    obtain ⟨e252, f253, F254, rfl⟩ := sp198.1 p_116 31 k117 (by decide)
                    obtain ⟨v255, ev255⟩ : ∃ y : Int64, F254 ((nI k189)).toNatClampNeg = y := ⟨_, rfl⟩
                    refine tw_lald (v := v255) dX10_send_107 f253 (vp_in_nI (by omega) (by decide)) ev255 ?_
                    refine tw_aload_n 0 dX10_send_108 rfl rfl ?_
                    obtain ⟨e256, f257, th_258, td_259, ds_260, fr_261, ca_262, us_263, wo_264, cm_265, lc_266, lh_267, ld_268, rfl, k269, k270, k271, k272, k273, k274, k275, k276, k277, k278, k279, k280, k281, k282⟩ := sp198.1 x 36 kx (by decide)
                    refine tw_get (v := .ref fr_261) rfl in_14 4 dX10_send_109 w_1155 rfl (by decide) f257 rfl ?_
                    refine tw_aload_n 3 dX10_send_112 rfl rfl ?_
                    refine tw_get (v := .int (nI j193)) rfl in_13 0 dX10_send_113 w_1342 rfl (by decide) kf196 rfl ?_
                    obtain ⟨e283, f284, F285, rfl, k286⟩ := sp198.1 fr_261 34 k270 (by decide)
                    obtain ⟨q287, k288, k289⟩ := k286 ((nI j193)).toNatClampNeg (by rw [nI_clamp (by omega)]; omega)
                    refine tw_aald (v := .ref q287) 8 rfl rfl dX10_send_116 f284 (vp_in_nI (by omega) (by decide)) (by rw [k288]; rfl) ?_
                    refine tw_iload_n 2 dX10_send_117 rfl rfl ?_
                    obtain ⟨e290, f291, F292, rfl⟩ := sp198.1 q287 6 k289 (by decide)
                    obtain ⟨v293, ev293⟩ : ∃ y : Int32, F292 ((nI j48)).toNatClampNeg = y := ⟨_, rfl⟩
                    refine tw_iald (v := v293) dX10_send_118 f291 (vp_in_nI (by omega) (by decide)) ev293 ?_
                    refine tw_i2l dX10_send_119 ?_
                    refine tw_nml (fun v294 ev294 => ?_)
                    refine tw_lmul dX10_send_120 ?_
                    refine tw_nml (fun v295 ev295 => ?_)
                    refine tw_ldc2 (v := 1000) dX10_send_121 w_1374 ?_
                    refine tw_bl (tw_callS (M := mX10_send) (pc := 124) okX10_up dX10_send_124 w_1375 [.long v295, .long 1000] [] rfl rfl ⟨by decide, by decide⟩ (Nat.le_of_ble_eq_true rfl) (c_X10_up d g τ h197 sp198.1 v295 1000 (by decide)) 0 0 (Nat.le_of_ble_eq_true rfl) (Nat.le_of_ble_eq_true rfl)) (fun r298 h297 q296 => ?_) (fun E h1 q => q.elim)
                    rw [q296]
                    refine tw_lstore [(5, .long r298), (0, .ref x), (1, .int (nI j31)), (2, .int (nI j48)), (3, .ref r108), (4, .int (nI k189))] dX10_send_127 (by decide) rfl ?_
                    refine tw_aload_n 4 dX10_send_129 rfl rfl ?_
                    refine tw_get (v := .ref p_116) rfl in_13 3 dX10_send_130 w_1348 rfl (by decide) kf196 rfl ?_
                    refine tw_iload 5 dX10_send_133 rfl ?_
                    refine tw_dup2 dX10_send_135 rfl rfl ?_
                    obtain ⟨v299, ev299⟩ : ∃ y : Int64, F254 ((nI k189)).toNatClampNeg = y := ⟨_, rfl⟩
                    refine tw_lald (v := v299) dX10_send_136 f253 (vp_in_nI (by omega) (by decide)) ev299 ?_
                    refine tw_lload 0 dX10_send_137 rfl ?_
                    refine tw_lsub dX10_send_139 ?_
                    refine tw_nml (fun v300 ev300 => ?_)
                    refine tw_last dX10_send_140 f253 (vp_in_nI (by omega) (by decide)) ?_
                    obtain ⟨h301, eh301⟩ : ∃ z : tw_H, z = tw_up h197 p_116 (.inl (d.2 1, 2, .inr (.inl (vp_updL F254 ((nI k189)).toNatClampNeg v300)))) := ⟨_, rfl⟩
                    rw [← eh301]
                    have sp302 : tw_sp d τ h140 g τ h301 := by rw [eh301]; exact sp198.set k117 (by decide) ⟨_, rfl⟩
                    have f303 : h301 r108 = some (.inr (13, [.int (nI j193), .int y_114, .int dy_115, .ref p_116])) := by rw [eh301, tw_up_n (fun q => absurd (q106k.1) (by rw [q, k117]; decide))]; exact kf196
                    refine tw_aload_n 1 dX10_send_141 rfl rfl ?_
                    obtain ⟨e304, f305, th_306, td_307, ds_308, fr_309, ca_310, us_311, wo_312, cm_313, lc_314, lh_315, ld_316, rfl, k317, k318, k319, k320, k321, k322, k323, k324, k325, k326, k327, k328, k329, k330⟩ := sp302.1 x 36 kx (by decide)
                    refine tw_get (v := .ref ca_310) rfl in_14 5 dX10_send_142 w_1156 rfl (by decide) f305 rfl ?_
                    refine tw_iload 5 dX10_send_145 rfl ?_
                    refine tw_dup2 dX10_send_147 rfl rfl ?_
                    obtain ⟨e331, f332, F333, rfl⟩ := sp302.1 ca_310 31 k319 (by decide)
                    obtain ⟨v334, ev334⟩ : ∃ y : Int64, F333 ((nI k189)).toNatClampNeg = y := ⟨_, rfl⟩
                    refine tw_lald (v := v334) dX10_send_148 f332 (vp_in_nI (by omega) (by decide)) ev334 ?_
                    refine tw_lload 0 dX10_send_149 rfl ?_
                    refine tw_ladd dX10_send_151 ?_
                    refine tw_nml (fun v335 ev335 => ?_)
                    refine tw_last dX10_send_152 f332 (vp_in_nI (by omega) (by decide)) ?_
                    obtain ⟨h336, eh336⟩ : ∃ z : tw_H, z = tw_up h301 ca_310 (.inl (d.2 1, 2, .inr (.inl (vp_updL F333 ((nI k189)).toNatClampNeg v335)))) := ⟨_, rfl⟩
                    rw [← eh336]
                    have sp337 : tw_sp d τ h140 g τ h336 := by rw [eh336]; exact sp302.set k319 (by decide) ⟨_, rfl⟩
                    have f338 : h336 r108 = some (.inr (13, [.int (nI j193), .int y_114, .int dy_115, .ref p_116])) := by rw [eh336, tw_up_n (fun q => absurd (q106k.1) (by rw [q, k319]; decide))]; exact f303
                    obtain ⟨v339, ev339⟩ : ∃ y : Int32, y = (nI k189) + 1 := ⟨_, rfl⟩
                    refine tw_iinc [(4, .int v339), (5, .long r298), (0, .ref x), (1, .int (nI j31)), (2, .int (nI j48)), (3, .ref r108)] 5 dX10_send_153 rfl (by rw [ev339]; rfl) (by decide) rfl ?_
                    refine tw_goto 95 dX10_send_156 (by decide) ?_
                    have qv339 := tw_nI3 ev339
                    rw [qv339]
                    refine tw_lv [2, 3, 4, 5, 0] rfl ?_
                    exact ih191 (k189 + 1)  _ sp337 f338 (by omega) (by omega)
              refine tw_lv [2, 3, 4, 1, 0] rfl ?_
              exact L192 (2 + 1) 0  _ (tw_sp.rf sp147.1) f149 (by omega) (by omega)
          · refine tw_iconst (v := 1) dX10_send_66 (by decide) ?_
            refine tw_goto 71 dX10_send_67 (by decide) ?_
            refine tw_iconst (v := 2) dX10_send_71 (by decide) ?_
            refine tw_bi (tw_callV (M := mX10_send) (pc := 72) okX10_refuse dX10_send_72 w_1204 rfl f75 [.int 1, .int 2] [] rfl rfl ⟨by decide, by decide⟩ (Nat.le_of_ble_eq_true rfl) (c_X10_refuse d g τ h63 sp70.1 x kx 1 2 (by decide)) 0 0 (Nat.le_of_ble_eq_true rfl) (Nat.le_of_ble_eq_true rfl)) (fun r342 h341 q340 => ?_) (fun E h1 q => q.elim)
            obtain ⟨e343, he344, hs345, hr346, h3347⟩ := q340
            have sp348 : tw_sp d τ h g τ h341 := by rw [he344]; exact sp70.set kx (by decide) hs345
            have f349 : h341 lh_85 = some (.inr (3, [.int (g.1 4), .ref el103, .int (nI (g.2 4))])) := by rw [he344, tw_up_n (fun q => absurd (k94) (by rw [q, kx]; decide))]; exact f102
            have f350 : h341 r108 = some (.inr (13, [.int x_113, .int y_114, .int dy_115, .ref p_116])) := by rw [he344, tw_up_n (fun q => absurd (q106k.1) (by rw [q, kx]; decide))]; exact f112
            have el351 : tw_el h341 (g.2 13) j31 = r108 := by rw [he344]; exact (tw_el25_up sp70.1 kl110 (by omega) (by rw [kx]; decide) (by rw [kx]; decide)).trans el109
            rcases hr346 with ei352 | ⟨ei352, ei352b⟩
            · rw [ei352]
              refine tw_if_eq 80 dX10_send_75 (by decide) (fun c353 => absurd c353 (by decide)) (fun _ => ?_)
              refine tw_iconst (v := 0) dX10_send_78 (by decide) ?_
              exact tw_iret dX10_send_79 rfl (Or.inl ⟨_, rfl, sp348⟩)
            · exact absurd ei352b (by decide)

set_option maxHeartbeats 4000000 in
set_option maxRecDepth 100000 in
theorem c_X10_pass (d : tw_D) (g : tw_G) (τ : tw_K) (h : tw_H) (hw : tw_wt d g τ h) (x : Nat) (kx : τ x = 36) (dy : Int32) : tw_Ct d mX10_pass 802 3208 [.ref x, .int dy] h (tw_qi (fun r h1 => tw_sp d τ h g τ h1) tw_nx) := by
  refine tw_of (by decide +kernel) (Nat.le_of_ble_eq_true rfl) ?_
  show tw_W d mX10_pass _ 0 [(0, .ref x), (1, .int dy)] [] h 802 3208
  have sp0 := tw_sp.rf hw
  refine tw_aload_n 0 dX10_pass_0 rfl rfl ?_
  refine tw_iload_n 1 dX10_pass_1 rfl rfl ?_
  refine tw_iconst (v := 1) dX10_pass_2 (by decide) ?_
  refine tw_sipush (v := 400) dX10_pass_3 (by decide) ?_
  refine tw_bi (tw_callS (M := mX10_pass) (pc := 6) okX10_isIn dX10_pass_6 w_1196 [.int dy, .int 1, .int 400] [.ref x] rfl rfl ⟨by decide, by decide⟩ (Nat.le_of_ble_eq_true rfl) (c_X10_isIn d g τ h sp0.1 dy 1 400) 802 3208 (Nat.le_of_ble_eq_true rfl) (Nat.le_of_ble_eq_true rfl)) (fun r3 h2 q1 => ?_) (fun E h1 q => q.elim)
  obtain ⟨q1e, q1d⟩ := q1
  rw [q1e]
  rcases q1d with ⟨q1r, q1n⟩ | ⟨q1r, q1a, q1b⟩
  · rw [q1r]
    refine tw_if_ne 16 dX10_pass_9 (by decide) (fun c4 => absurd (by decide) c4) (fun _ => ?_)
    refine tw_iconst (v := 1) dX10_pass_12 (by decide) ?_
    refine tw_goto 17 dX10_pass_13 (by decide) ?_
    refine tw_iconst (v := 1) dX10_pass_17 (by decide) ?_
    obtain ⟨e5, f6, th_7, td_8, ds_9, fr_10, ca_11, us_12, wo_13, cm_14, lc_15, lh_16, ld_17, rfl, k18, k19, k20, k21, k22, k23, k24, k25, k26, k27, k28, k29, k30, k31⟩ := sp0.1 x 36 kx (by decide)
    refine tw_bi (tw_callV (M := mX10_pass) (pc := 18) okX10_start dX10_pass_18 w_1200 rfl f6 [.int 1, .int 1] [] rfl rfl ⟨by decide, by decide⟩ (Nat.le_of_ble_eq_true rfl) (c_X10_start d g τ h sp0.1 x kx 1 1 (by decide)) 802 3208 (Nat.le_of_ble_eq_true rfl) (Nat.le_of_ble_eq_true rfl)) (fun r34 h33 q32 => ?_) (fun E h1 q => q.elim)
    obtain ⟨e35, he36, hs37, hr38, h339⟩ := q32
    have sp40 : tw_sp d τ h g τ h33 := by rw [he36]; exact sp0.set kx (by decide) hs37
    rcases hr38 with ei41 | ⟨ei41, ei41b⟩
    · rw [ei41]
      refine tw_if_ne 49 dX10_pass_21 (by decide) (fun _ => ?_) (fun c42 => absurd c42 (by decide))
      refine tw_iconst (v := 0) dX10_pass_49 (by decide) ?_
      exact tw_iret dX10_pass_50 rfl (Or.inl ⟨_, rfl, sp40⟩)
    · exact absurd ei41b (by decide)
  · rw [q1r]
    refine tw_if_ne 16 dX10_pass_9 (by decide) (fun _ => ?_) (fun c43 => absurd c43 (by decide))
    refine tw_iconst (v := 0) dX10_pass_16 (by decide) ?_
    refine tw_iconst (v := 1) dX10_pass_17 (by decide) ?_
    obtain ⟨e44, f45, th_46, td_47, ds_48, fr_49, ca_50, us_51, wo_52, cm_53, lc_54, lh_55, ld_56, rfl, k57, k58, k59, k60, k61, k62, k63, k64, k65, k66, k67, k68, k69, k70⟩ := sp0.1 x 36 kx (by decide)
    refine tw_bi (tw_callV (M := mX10_pass) (pc := 18) okX10_start dX10_pass_18 w_1200 rfl f45 [.int 0, .int 1] [] rfl rfl ⟨by decide, by decide⟩ (Nat.le_of_ble_eq_true rfl) (c_X10_start d g τ h sp0.1 x kx 0 1 (by decide)) 802 3208 (Nat.le_of_ble_eq_true rfl) (Nat.le_of_ble_eq_true rfl)) (fun r73 h72 q71 => ?_) (fun E h1 q => q.elim)
    obtain ⟨e74, he75, hs76, hr77, h378⟩ := q71
    have sp79 : tw_sp d τ h g τ h72 := by rw [he75]; exact sp0.set kx (by decide) hs76
    rcases hr77 with ei80 | ⟨ei80, ei80b⟩
    · rw [ei80]
      refine tw_if_ne 49 dX10_pass_21 (by decide) (fun _ => ?_) (fun c81 => absurd c81 (by decide))
      refine tw_iconst (v := 0) dX10_pass_49 (by decide) ?_
      exact tw_iret dX10_pass_50 rfl (Or.inl ⟨_, rfl, sp79⟩)
    · rw [ei80]
      refine tw_if_ne 49 dX10_pass_21 (by decide) (fun c82 => absurd (by decide) c82) (fun _ => ?_)
      refine tw_aload_n 0 dX10_pass_24 rfl rfl ?_
      refine tw_aload_n 0 dX10_pass_25 rfl rfl ?_
      obtain ⟨e83, f84, th_85, td_86, ds_87, fr_88, ca_89, us_90, wo_91, cm_92, lc_93, lh_94, ld_95, rfl, k96, k97, k98, k99, k100, k101, k102, k103, k104, k105, k106, k107, k108, k109⟩ := sp79.1 x 36 kx (by decide)
      refine tw_get (v := .int td_86) rfl in_14 1 dX10_pass_26 w_1152 rfl (by decide) f84 rfl ?_
      refine tw_iload_n 1 dX10_pass_29 rfl rfl ?_
      refine tw_iadd dX10_pass_30 ?_
      refine tw_nmi (fun v110 ev110 => ?_)
      refine tw_sipush (v := 3000) dX10_pass_31 (by decide) ?_
      refine tw_icmp_le 41 dX10_pass_34 (by decide) (fun c111 => ?_) (fun c111 => ?_)
      · refine tw_iconst (v := 0) dX10_pass_41 (by decide) ?_
        refine tw_iconst (v := 2) dX10_pass_42 (by decide) ?_
        refine tw_bi (tw_callV (M := mX10_pass) (pc := 43) okX10_refuse dX10_pass_43 w_1204 rfl f84 [.int 0, .int 2] [] rfl rfl ⟨by decide, by decide⟩ (Nat.le_of_ble_eq_true rfl) (c_X10_refuse d g τ h72 sp79.1 x kx 0 2 (by decide)) 802 3208 (Nat.le_of_ble_eq_true rfl) (Nat.le_of_ble_eq_true rfl)) (fun r114 h113 q112 => ?_) (fun E h1 q => q.elim)
        obtain ⟨e115, he116, hs117, hr118, h3119⟩ := q112
        have sp120 : tw_sp d τ h g τ h113 := by rw [he116]; exact sp79.set kx (by decide) hs117
        rcases hr118 with ei121 | ⟨ei121, ei121b⟩
        · rw [ei121]
          refine tw_if_eq 51 dX10_pass_46 (by decide) (fun c122 => absurd c122 (by decide)) (fun _ => ?_)
          refine tw_iconst (v := 0) dX10_pass_49 (by decide) ?_
          exact tw_iret dX10_pass_50 rfl (Or.inl ⟨_, rfl, sp120⟩)
        · rw [ei121]
          refine tw_if_eq 51 dX10_pass_46 (by decide) (fun _ => ?_) (fun c123 => absurd (by decide) c123)
          refine tw_iconst (v := 0) dX10_pass_51 (by decide) ?_
          refine tw_istore_n [(2, .int 0), (0, .ref x), (1, .int dy)] dX10_pass_52 rfl (by decide) rfl ?_
          have L127 : ∀ (r125 : Nat) (x124 : Int32) (h128 : tw_H) (sp129 : tw_sp d τ h113 g τ h128), (dy.toInt - x124.toInt).toNat < r125 → tw_W d mX10_pass (tw_qi (fun r h1 => tw_sp d τ h g τ h1) tw_nx) 53 [(0, .ref x), (1, .int dy), (2, .int x124)] [] h128 (0 + 2 * r125) (0 + 8 * r125) := by
            intro r125
            induction r125 with
            | zero => intro x124 h128 sp129 hk130; exact absurd hk130 (Nat.not_lt_zero _)
            | succ r125 ih126 =>
              intro x124 h128 sp129 hk130
              refine tw_iload_n 2 dX10_pass_53 rfl rfl ?_
              refine tw_iload_n 1 dX10_pass_54 rfl rfl ?_
              refine tw_icmp_ge 232 dX10_pass_55 (by decide) (fun c132 => ?_) (fun c132 => ?_)
              · refine tw_aload_n 0 dX10_pass_232 rfl rfl ?_
                obtain ⟨e133, f134, th_135, td_136, ds_137, fr_138, ca_139, us_140, wo_141, cm_142, lc_143, lh_144, ld_145, rfl, k146, k147, k148, k149, k150, k151, k152, k153, k154, k155, k156, k157, k158, k159⟩ := sp129.1 x 36 kx (by decide)
                refine tw_get (v := .int td_136) rfl in_14 1 dX10_pass_233 w_1152 rfl (by decide) f134 rfl ?_
                exact tw_iret dX10_pass_236 rfl (Or.inl ⟨_, rfl, (sp120.tr sp129)⟩)
              · refine tw_aload_n 0 dX10_pass_58 rfl rfl ?_
                refine tw_dup dX10_pass_59 rfl ?_
                obtain ⟨e160, f161, th_162, td_163, ds_164, fr_165, ca_166, us_167, wo_168, cm_169, lc_170, lh_171, ld_172, rfl, k173, k174, k175, k176, k177, k178, k179, k180, k181, k182, k183, k184, k185, k186⟩ := sp129.1 x 36 kx (by decide)
                refine tw_get (v := .int td_163) rfl in_14 1 dX10_pass_60 w_1152 rfl (by decide) f161 rfl ?_
                refine tw_iconst (v := 1) dX10_pass_63 (by decide) ?_
                refine tw_iadd dX10_pass_64 ?_
                refine tw_nmi (fun v187 ev187 => ?_)
                refine tw_put rfl in_14 tyX10 tyX10_ok nmX10 1 dX10_pass_65 w_1152 rfl (by decide) f161 rfl rfl rfl rfl (Nat.le_of_ble_eq_true rfl) [.int th_162, .int v187, .int (g.1 1), .ref ds_164, .ref fr_165, .ref ca_166, .ref us_167, .ref wo_168, .ref cm_169, .ref lc_170, .ref lh_171, .ref ld_172] rfl ?_
                obtain ⟨h188, eh188⟩ : ∃ z : tw_H, z = tw_up h128 x (.inr (14, [.int th_162, .int v187, .int (g.1 1), .ref ds_164, .ref fr_165, .ref ca_166, .ref us_167, .ref wo_168, .ref cm_169, .ref lc_170, .ref lh_171, .ref ld_172])) := ⟨_, rfl⟩
                rw [← eh188]
                have sp189 : tw_sp d τ h113 g τ h188 := by rw [eh188]; exact sp129.set kx (by decide) ⟨th_162, v187, ds_164, fr_165, ca_166, us_167, wo_168, cm_169, lc_170, lh_171, ld_172, rfl, k173, k174, k175, k176, k177, k178, k179, k180, k181, k182, k183, k184, k185, k186⟩
                have f190 : h188 x = some (.inr (14, [.int th_162, .int v187, .int (g.1 1), .ref ds_164, .ref fr_165, .ref ca_166, .ref us_167, .ref wo_168, .ref cm_169, .ref lc_170, .ref lh_171, .ref ld_172])) := by rw [eh188]; exact tw_up_s
                refine tw_aload_n 0 dX10_pass_68 rfl rfl ?_
                refine tw_get (v := .ref lh_171) rfl in_14 10 dX10_pass_69 w_1161 rfl (by decide) f190 rfl ?_
                obtain ⟨e191, f192, ⟨el193, rfl, k194⟩, k195⟩ := sp189.1 lh_171 25 k180 (by decide)
                refine tw_br (tw_callV (M := mX10_pass) (pc := 72) okJx4a65c_iterator_32c93 dX10_pass_72 w_1386 rfl f192 [] [] rfl rfl ⟨by decide, by decide⟩ (Nat.le_of_ble_eq_true rfl) (c_iterator d h188 lh_171 el193 (g.1 4) (nI (g.2 4)) f192) ((0 + 2 * (r125 + 1)) - 1) ((0 + 8 * (r125 + 1)) - 4) (by omega) (by omega)) (fun it196 h197 q198 => ?_) (fun E h1 q => q.elim)
                obtain ⟨q198n, q198e⟩ := q198
                rw [q198e]
                have n199 := sp189.nn q198n
                have z200 := sp189.1.none q198n
                obtain ⟨h201, eh201⟩ : ∃ z : tw_H, z = tw_up h188 it196 (.inr (2, [.int 0, .int (-1), .int (g.1 4), .ref lh_171])) := ⟨_, rfl⟩
                rw [← eh201]
                have sp202 : tw_sp d τ h113 g τ h201 := by rw [eh201]; exact sp189.mk q198n
                have f203 : h201 it196 = some (.inr (2, [.int 0, .int (-1), .int (g.1 4), .ref lh_171])) := by rw [eh201]; exact tw_up_s
                refine tw_astore_n [(3, .ref it196), (0, .ref x), (1, .int dy), (2, .int x124)] dX10_pass_75 rfl (by decide) rfl ?_
                have L208 : ∀ (r204 j205 : Nat) (l206 : Int32) (h209 : tw_H) (sp210 : tw_sp d τ (tw_rm h201 it196) g τ h209) (ft211 : h209 it196 = some (.inr (2, [.int (nI j205), .int l206, .int (g.1 4), .ref lh_171]))) (zt212 : τ it196 = 0), g.2 4 + 1 ≤ j205 + r204 → j205 ≤ g.2 4 → tw_W d mX10_pass (tw_qi (fun r h1 => tw_sp d τ h g τ h1) tw_nx) 76 [(0, .ref x), (1, .int dy), (2, .int x124), (3, .ref it196)] [] h209 ((0 + 2 * (r125 + 1)) - 1) ((0 + 8 * (r125 + 1)) - 4) := by
                  intro r204
                  induction r204 with
                  | zero => intro j205 l206 h209 sp210 ft211 zt212 hk213 hk214; exact absurd hk213 (by omega)
                  | succ r204 ih207 =>
                    intro j205 l206 h209 sp210 ft211 zt212 hk213 hk214
                    refine tw_aload_n 3 dX10_pass_76 rfl rfl ?_
                    obtain ⟨e215, f216, ⟨el217, rfl, k218⟩, k219⟩ := sp210.1 lh_171 25 k180 (by decide)
                    refine tw_bi (tw_callF (M := mX10_pass) (pc := 77) (n9 := 0) (ci := 2) tw_hasNext ok_itHas w_1416 w_1414 (fun s H z => z.2.2.2.2.2.2.2.2.1) (by decide +kernel) dX10_pass_77 w_1410 rfl ft211 [] [] rfl rfl ⟨by decide, by decide⟩ (Nat.le_of_ble_eq_true rfl) (c_hasNext d h209 it196 lh_171 el217 j205 (g.2 4) l206 (g.1 4) (g.1 4) ft211 f216 (by omega) (tw_lim25 sp210.1 k180)) ((0 + 2 * (r125 + 1)) - 1) ((0 + 8 * (r125 + 1)) - 4) (by omega) (by omega)) (fun r222 h221 q220 => ?_) (fun E h1 q => q.elim)
                    obtain ⟨q220e, q220q⟩ := q220
                    rw [q220e]
                    rcases q220q with ⟨q220r, q220j⟩ | ⟨q220r, q220j⟩
                    · rw [q220r]
                      refine tw_if_eq 145 dX10_pass_82 (by decide) (fun _ => ?_) (fun c223 => absurd (by decide) c223)
                      refine tw_aload_n 0 dX10_pass_145 rfl rfl ?_
                      obtain ⟨e224, f225, th_226, td_227, ds_228, fr_229, ca_230, us_231, wo_232, cm_233, lc_234, lh_235, ld_236, rfl, k237, k238, k239, k240, k241, k242, k243, k244, k245, k246, k247, k248, k249, k250⟩ := sp210.1 x 36 kx (by decide)
                      refine tw_get (v := .ref lc_234) rfl in_14 9 dX10_pass_146 w_1160 rfl (by decide) f225 rfl ?_
                      obtain ⟨e251, f252, ⟨el253, rfl, k254⟩, k255⟩ := sp210.1 lc_234 24 k243 (by decide)
                      refine tw_br (tw_callV (M := mX10_pass) (pc := 149) okJx4a65c_iterator_32c93 dX10_pass_149 w_1386 rfl f252 [] [] rfl rfl ⟨by decide, by decide⟩ (Nat.le_of_ble_eq_true rfl) (c_iterator d h209 lc_234 el253 (g.1 3) (nI (g.2 3)) f252) (((0 + 2 * (r125 + 1)) - 1) - 1) (((0 + 8 * (r125 + 1)) - 4) - 4) (by omega) (by omega)) (fun it256 h257 q258 => ?_) (fun E h1 q => q.elim)
                      obtain ⟨q258n, q258e⟩ := q258
                      rw [q258e]
                      have n259 := sp210.nn q258n
                      have z260 := sp210.1.none q258n
                      have ne261 := tw_neF ft211 q258n
                      obtain ⟨h262, eh262⟩ : ∃ z : tw_H, z = tw_up h209 it256 (.inr (2, [.int 0, .int (-1), .int (g.1 3), .ref lc_234])) := ⟨_, rfl⟩
                      rw [← eh262]
                      have sp263 : tw_sp d τ (tw_rm h201 it196) g τ h262 := by rw [eh262]; exact sp210.mk q258n
                      have f264 : h262 it196 = some (.inr (2, [.int (nI j205), .int l206, .int (g.1 4), .ref lh_171])) := by rw [eh262, tw_up_n ne261]; exact ft211
                      have f265 : h262 it256 = some (.inr (2, [.int 0, .int (-1), .int (g.1 3), .ref lc_234])) := by rw [eh262]; exact tw_up_s
                      refine tw_astore_n [(3, .ref it256), (0, .ref x), (1, .int dy), (2, .int x124)] dX10_pass_152 rfl (by decide) rfl ?_
                      have L270 : ∀ (r266 j267 : Nat) (l268 : Int32) (h271 : tw_H) (sp272 : tw_sp d τ (tw_rm h262 it256) g τ h271) (ft273 : h271 it256 = some (.inr (2, [.int (nI j267), .int l268, .int (g.1 3), .ref lc_234]))) (zt274 : τ it256 = 0), g.2 3 + 1 ≤ j267 + r266 → j267 ≤ g.2 3 → tw_W d mX10_pass (tw_qi (fun r h1 => tw_sp d τ h g τ h1) tw_nx) 153 [(0, .ref x), (1, .int dy), (2, .int x124), (3, .ref it256)] [] h271 (((0 + 2 * (r125 + 1)) - 1) - 1) (((0 + 8 * (r125 + 1)) - 4) - 4) := by
                        intro r266
                        induction r266 with
                        | zero => intro j267 l268 h271 sp272 ft273 zt274 hk275 hk276; exact absurd hk275 (by omega)
                        | succ r266 ih269 =>
                          intro j267 l268 h271 sp272 ft273 zt274 hk275 hk276
                          have f277 := (sp272.2.2 _ _ (by unfold tw_rm; rw [if_neg ne261]; exact f264) zt212).1
                          have z278 := (sp272.2.2 _ _ (by unfold tw_rm; rw [if_neg ne261]; exact f264) zt212).2
                          refine tw_aload_n 3 dX10_pass_153 rfl rfl ?_
                          obtain ⟨e279, f280, ⟨el281, rfl, k282⟩, k283⟩ := sp272.1 lc_234 24 k243 (by decide)
                          refine tw_bi (tw_callF (M := mX10_pass) (pc := 154) (n9 := 0) (ci := 2) tw_hasNext ok_itHas w_1416 w_1414 (fun s H z => z.2.2.2.2.2.2.2.2.1) (by decide +kernel) dX10_pass_154 w_1410 rfl ft273 [] [] rfl rfl ⟨by decide, by decide⟩ (Nat.le_of_ble_eq_true rfl) (c_hasNext d h271 it256 lc_234 el281 j267 (g.2 3) l268 (g.1 3) (g.1 3) ft273 f280 (by omega) (tw_lim24 sp272.1 k243)) (((0 + 2 * (r125 + 1)) - 1) - 1) (((0 + 8 * (r125 + 1)) - 4) - 4) (by omega) (by omega)) (fun r286 h285 q284 => ?_) (fun E h1 q => q.elim)
                          obtain ⟨q284e, q284q⟩ := q284
                          rw [q284e]
                          rcases q284q with ⟨q284r, q284j⟩ | ⟨q284r, q284j⟩
                          · rw [q284r]
                            refine tw_if_eq 226 dX10_pass_159 (by decide) (fun _ => ?_) (fun c287 => absurd (by decide) c287)
                            obtain ⟨v288, ev288⟩ : ∃ y : Int32, y = x124 + 1 := ⟨_, rfl⟩
                            refine tw_iinc [(2, .int v288), (0, .ref x), (1, .int dy), (3, .ref it256)] 2 dX10_pass_226 rfl (by rw [ev288]; rfl) (by decide) rfl ?_
                            refine tw_goto 53 dX10_pass_229 (by decide) ?_
                            refine tw_lv [1, 2, 0] rfl ?_
                            refine tw_less (c2 := 0 + 2 * r125) (n2 := 0 + 8 * r125) (by omega) (by omega) ?_
                            exact ih126 v288 _ (sp202.trm n199 (sp263.trm n259 sp272)) (tw_mup ev288 c132 hk130)
                          · rw [q284r]
                            refine tw_if_eq 226 dX10_pass_159 (by decide) (fun c289 => absurd c289 (by decide)) (fun _ => ?_)
                            refine tw_aload_n 3 dX10_pass_162 rfl rfl ?_
                            have k290 : τ el281 = 27 := k282.resolve_left (fun q => absurd q284j (by rw [q.2.1]; exact Nat.not_lt_zero _))
                            obtain ⟨e291, f292, ⟨F293, rfl, hc294, hc295⟩, un296⟩ := sp272.1 el281 27 k290 (by decide)
                            obtain ⟨y297, hy298, ky299⟩ := hc295 j267 q284j
                            refine tw_br (tw_callF (M := mX10_pass) (pc := 163) (n9 := 0) (ci := 2) tw_next ok_itNext w_1425 w_1423 (fun s H z => z.2.2.2.2.2.2.2.2.2) (by decide +kernel) dX10_pass_163 w_1420 rfl ft273 [] [] rfl rfl ⟨by decide, by decide⟩ (Nat.le_of_ble_eq_true rfl) (c_next d h271 it256 lc_234 el281 j267 (g.2 3) y297 l268 (g.1 3) F293 ft273 f280 f292 q284j hc294 hy298) (((0 + 2 * (r125 + 1)) - 1) - 1) (((0 + 8 * (r125 + 1)) - 4) - 4) (by omega) (by omega)) (fun r302 h301 q300 => ?_) (fun E h1 q => q.elim)
                            obtain ⟨q300r, q300e⟩ := q300
                            rw [q300r]
                            have sp303 : tw_sp d τ (tw_rm h262 it256) g τ h301 := by rw [q300e]; exact sp272.wl tw_rm_s zt274
                            have f304 : h301 it196 = some (.inr (2, [.int (nI j205), .int l206, .int (g.1 4), .ref lh_171])) := by rw [q300e, tw_up_n ne261]; exact f277
                            have f305 : h301 it256 = some (.inr (2, [.int (nI (j267 + 1)), .int (nI j267), .int (g.1 3), .ref lc_234])) := by rw [q300e]; exact tw_up_s
                            obtain ⟨e306, f307, r_308, c_309, v_310, o_311, t_312, rfl, k313, k314, k315, k316, k317⟩ := sp303.1 y297 21 ky299 (by decide)
                            refine tw_castS (ci := 11) rfl dX10_pass_168 w_1212 f307 ?_
                            refine tw_astore [(4, .ref y297), (0, .ref x), (1, .int dy), (2, .int x124), (3, .ref it256)] dX10_pass_171 (by decide) rfl ?_
                            refine tw_aload_n 1 dX10_pass_173 rfl rfl ?_
                            obtain ⟨e318, f319, th_320, td_321, ds_322, fr_323, ca_324, us_325, wo_326, cm_327, lc_328, lh_329, ld_330, rfl, k331, k332, k333, k334, k335, k336, k337, k338, k339, k340, k341, k342, k343, k344⟩ := sp303.1 x 36 kx (by decide)
                            refine tw_get (v := .int td_321) rfl in_14 1 dX10_pass_174 w_1152 rfl (by decide) f319 rfl ?_
                            refine tw_bipush (v := 30) dX10_pass_177 (by decide) ?_
                            refine tw_irem dX10_pass_179 (by decide) ?_
                            refine tw_nmi (fun v345 ev345 => ?_)
                            refine tw_if_ne 197 dX10_pass_180 (by decide) (fun c346 => ?_) (fun c346 => ?_)
                            · refine tw_lconst (v := 0) dX10_pass_197 (by decide) ?_
                              refine tw_lstore [(5, .long 0), (4, .ref y297), (0, .ref x), (1, .int dy), (2, .int x124), (3, .ref it256)] dX10_pass_198 (by decide) rfl ?_
                              refine tw_aload 1 dX10_pass_200 rfl ?_
                              refine tw_get (v := .ref v_310) rfl in_11 2 dX10_pass_202 w_1221 rfl (by decide) f307 rfl ?_
                              refine tw_iconst (v := 1) dX10_pass_205 (by decide) ?_
                              refine tw_dup2 dX10_pass_206 rfl rfl ?_
                              obtain ⟨e347, f348, F349, rfl⟩ := sp303.1 v_310 31 k313 (by decide)
                              obtain ⟨v350, ev350⟩ : ∃ y : Int64, F349 (1 : Int32).toNatClampNeg = y := ⟨_, rfl⟩
                              refine tw_lald (v := v350) dX10_pass_207 f348 (vp_in_nI (n := 1) (by decide) (by decide)) ev350 ?_
                              refine tw_lload 0 dX10_pass_208 rfl ?_
                              refine tw_lsub dX10_pass_210 ?_
                              refine tw_nml (fun v351 ev351 => ?_)
                              refine tw_last dX10_pass_211 f348 (vp_in_nI (n := 1) (by decide) (by decide)) ?_
                              obtain ⟨h352, eh352⟩ : ∃ z : tw_H, z = tw_up h301 v_310 (.inl (d.2 1, 2, .inr (.inl (vp_updL F349 (1 : Int32).toNatClampNeg v351)))) := ⟨_, rfl⟩
                              rw [← eh352]
                              have sp353 : tw_sp d τ (tw_rm h262 it256) g τ h352 := by rw [eh352]; exact sp303.set k313 (by decide) ⟨_, rfl⟩
                              have f354 : h352 it196 = some (.inr (2, [.int (nI j205), .int l206, .int (g.1 4), .ref lh_171])) := by rw [eh352, tw_up_n (fun q => absurd (z278) (by rw [q, k313]; decide))]; exact f304
                              have f355 : h352 it256 = some (.inr (2, [.int (nI (j267 + 1)), .int (nI j267), .int (g.1 3), .ref lc_234])) := by rw [eh352, tw_up_n (fun q => absurd (zt274) (by rw [q, k313]; decide))]; exact f305
                              refine tw_aload_n 2 dX10_pass_212 rfl rfl ?_
                              obtain ⟨e356, f357, th_358, td_359, ds_360, fr_361, ca_362, us_363, wo_364, cm_365, lc_366, lh_367, ld_368, rfl, k369, k370, k371, k372, k373, k374, k375, k376, k377, k378, k379, k380, k381, k382⟩ := sp353.1 x 36 kx (by decide)
                              refine tw_get (v := .ref wo_364) rfl in_14 7 dX10_pass_213 w_1158 rfl (by decide) f357 rfl ?_
                              refine tw_iconst (v := 1) dX10_pass_216 (by decide) ?_
                              refine tw_dup2 dX10_pass_217 rfl rfl ?_
                              obtain ⟨e383, f384, F385, rfl⟩ := sp353.1 wo_364 31 k373 (by decide)
                              obtain ⟨v386, ev386⟩ : ∃ y : Int64, F385 (1 : Int32).toNatClampNeg = y := ⟨_, rfl⟩
                              refine tw_lald (v := v386) dX10_pass_218 f384 (vp_in_nI (n := 1) (by decide) (by decide)) ev386 ?_
                              refine tw_lload 0 dX10_pass_219 rfl ?_
                              refine tw_ladd dX10_pass_221 ?_
                              refine tw_nml (fun v387 ev387 => ?_)
                              refine tw_last dX10_pass_222 f384 (vp_in_nI (n := 1) (by decide) (by decide)) ?_
                              obtain ⟨h388, eh388⟩ : ∃ z : tw_H, z = tw_up h352 wo_364 (.inl (d.2 1, 2, .inr (.inl (vp_updL F385 (1 : Int32).toNatClampNeg v387)))) := ⟨_, rfl⟩
                              rw [← eh388]
                              have sp389 : tw_sp d τ (tw_rm h262 it256) g τ h388 := by rw [eh388]; exact sp353.set k373 (by decide) ⟨_, rfl⟩
                              have f390 : h388 it196 = some (.inr (2, [.int (nI j205), .int l206, .int (g.1 4), .ref lh_171])) := by rw [eh388, tw_up_n (fun q => absurd (z278) (by rw [q, k373]; decide))]; exact f354
                              have f391 : h388 it256 = some (.inr (2, [.int (nI (j267 + 1)), .int (nI j267), .int (g.1 3), .ref lc_234])) := by rw [eh388, tw_up_n (fun q => absurd (zt274) (by rw [q, k373]; decide))]; exact f355
                              refine tw_goto 153 dX10_pass_223 (by decide) ?_
                              refine tw_lv [2, 3, 4, 5] rfl ?_
                              exact ih269 ((j267 + 1)) (nI j267)  _ sp389 f391 zt274  (by omega) (by omega)
                            · refine tw_aload 0 dX10_pass_183 rfl ?_
                              refine tw_get (v := .ref v_310) rfl in_11 2 dX10_pass_185 w_1221 rfl (by decide) f307 rfl ?_
                              refine tw_iconst (v := 1) dX10_pass_188 (by decide) ?_
                              obtain ⟨e392, f393, F394, rfl⟩ := sp303.1 v_310 31 k313 (by decide)
                              obtain ⟨v395, ev395⟩ : ∃ y : Int64, F394 (1 : Int32).toNatClampNeg = y := ⟨_, rfl⟩
                              refine tw_lald (v := v395) dX10_pass_189 f393 (vp_in_nI (n := 1) (by decide) (by decide)) ev395 ?_
                              refine tw_ldc2 (v := 10000) dX10_pass_190 w_1432 ?_
                              refine tw_ldiv dX10_pass_193 (by decide) ?_
                              refine tw_nml (fun v396 ev396 => ?_)
                              refine tw_goto 198 dX10_pass_194 (by decide) ?_
                              refine tw_lstore [(5, .long v396), (4, .ref y297), (0, .ref x), (1, .int dy), (2, .int x124), (3, .ref it256)] dX10_pass_198 (by decide) rfl ?_
                              refine tw_aload 1 dX10_pass_200 rfl ?_
                              refine tw_get (v := .ref v_310) rfl in_11 2 dX10_pass_202 w_1221 rfl (by decide) f307 rfl ?_
                              refine tw_iconst (v := 1) dX10_pass_205 (by decide) ?_
                              refine tw_dup2 dX10_pass_206 rfl rfl ?_
                              obtain ⟨v397, ev397⟩ : ∃ y : Int64, F394 (1 : Int32).toNatClampNeg = y := ⟨_, rfl⟩
                              refine tw_lald (v := v397) dX10_pass_207 f393 (vp_in_nI (n := 1) (by decide) (by decide)) ev397 ?_
                              refine tw_lload 0 dX10_pass_208 rfl ?_
                              refine tw_lsub dX10_pass_210 ?_
                              refine tw_nml (fun v398 ev398 => ?_)
                              refine tw_last dX10_pass_211 f393 (vp_in_nI (n := 1) (by decide) (by decide)) ?_
                              obtain ⟨h399, eh399⟩ : ∃ z : tw_H, z = tw_up h301 v_310 (.inl (d.2 1, 2, .inr (.inl (vp_updL F394 (1 : Int32).toNatClampNeg v398)))) := ⟨_, rfl⟩
                              rw [← eh399]
                              have sp400 : tw_sp d τ (tw_rm h262 it256) g τ h399 := by rw [eh399]; exact sp303.set k313 (by decide) ⟨_, rfl⟩
                              have f401 : h399 it196 = some (.inr (2, [.int (nI j205), .int l206, .int (g.1 4), .ref lh_171])) := by rw [eh399, tw_up_n (fun q => absurd (z278) (by rw [q, k313]; decide))]; exact f304
                              have f402 : h399 it256 = some (.inr (2, [.int (nI (j267 + 1)), .int (nI j267), .int (g.1 3), .ref lc_234])) := by rw [eh399, tw_up_n (fun q => absurd (zt274) (by rw [q, k313]; decide))]; exact f305
                              refine tw_aload_n 2 dX10_pass_212 rfl rfl ?_
                              obtain ⟨e403, f404, th_405, td_406, ds_407, fr_408, ca_409, us_410, wo_411, cm_412, lc_413, lh_414, ld_415, rfl, k416, k417, k418, k419, k420, k421, k422, k423, k424, k425, k426, k427, k428, k429⟩ := sp400.1 x 36 kx (by decide)
                              refine tw_get (v := .ref wo_411) rfl in_14 7 dX10_pass_213 w_1158 rfl (by decide) f404 rfl ?_
                              refine tw_iconst (v := 1) dX10_pass_216 (by decide) ?_
                              refine tw_dup2 dX10_pass_217 rfl rfl ?_
                              obtain ⟨e430, f431, F432, rfl⟩ := sp400.1 wo_411 31 k420 (by decide)
                              obtain ⟨v433, ev433⟩ : ∃ y : Int64, F432 (1 : Int32).toNatClampNeg = y := ⟨_, rfl⟩
                              refine tw_lald (v := v433) dX10_pass_218 f431 (vp_in_nI (n := 1) (by decide) (by decide)) ev433 ?_
                              refine tw_lload 0 dX10_pass_219 rfl ?_
                              refine tw_ladd dX10_pass_221 ?_
                              refine tw_nml (fun v434 ev434 => ?_)
                              refine tw_last dX10_pass_222 f431 (vp_in_nI (n := 1) (by decide) (by decide)) ?_
                              obtain ⟨h435, eh435⟩ : ∃ z : tw_H, z = tw_up h399 wo_411 (.inl (d.2 1, 2, .inr (.inl (vp_updL F432 (1 : Int32).toNatClampNeg v434)))) := ⟨_, rfl⟩
                              rw [← eh435]
                              have sp436 : tw_sp d τ (tw_rm h262 it256) g τ h435 := by rw [eh435]; exact sp400.set k420 (by decide) ⟨_, rfl⟩
                              have f437 : h435 it196 = some (.inr (2, [.int (nI j205), .int l206, .int (g.1 4), .ref lh_171])) := by rw [eh435, tw_up_n (fun q => absurd (z278) (by rw [q, k420]; decide))]; exact f401
                              have f438 : h435 it256 = some (.inr (2, [.int (nI (j267 + 1)), .int (nI j267), .int (g.1 3), .ref lc_234])) := by rw [eh435, tw_up_n (fun q => absurd (zt274) (by rw [q, k420]; decide))]; exact f402
                              refine tw_goto 153 dX10_pass_223 (by decide) ?_
                              refine tw_lv [2, 3, 4, 5] rfl ?_
                              exact ih269 ((j267 + 1)) (nI j267)  _ sp436 f438 zt274  (by omega) (by omega)
                      refine tw_lv [1, 2, 3, 0] rfl ?_
                      exact L270 (g.2 3 + 1) 0 (-1)  _ (tw_sp.rm sp263.1 it256) f265 z260 (by omega) (Nat.zero_le _)
                    · rw [q220r]
                      refine tw_if_eq 145 dX10_pass_82 (by decide) (fun c439 => absurd c439 (by decide)) (fun _ => ?_)
                      refine tw_aload_n 3 dX10_pass_85 rfl rfl ?_
                      have k440 : τ el217 = 28 := k218.resolve_left (fun q => absurd q220j (by rw [q.2.1]; exact Nat.not_lt_zero _))
                      obtain ⟨e441, f442, ⟨F443, rfl, hc444, hc445⟩, un446⟩ := sp210.1 el217 28 k440 (by decide)
                      obtain ⟨y447, hy448, ky449⟩ := hc445 j205 q220j
                      refine tw_br (tw_callF (M := mX10_pass) (pc := 86) (n9 := 0) (ci := 2) tw_next ok_itNext w_1425 w_1423 (fun s H z => z.2.2.2.2.2.2.2.2.2) (by decide +kernel) dX10_pass_86 w_1420 rfl ft211 [] [] rfl rfl ⟨by decide, by decide⟩ (Nat.le_of_ble_eq_true rfl) (c_next d h209 it196 lh_171 el217 j205 (g.2 4) y447 l206 (g.1 4) F443 ft211 f216 f442 q220j hc444 hy448) ((0 + 2 * (r125 + 1)) - 1) ((0 + 8 * (r125 + 1)) - 4) (by omega) (by omega)) (fun r452 h451 q450 => ?_) (fun E h1 q => q.elim)
                      obtain ⟨q450r, q450e⟩ := q450
                      rw [q450r]
                      have sp453 : tw_sp d τ (tw_rm h201 it196) g τ h451 := by rw [q450e]; exact sp210.wl tw_rm_s zt212
                      have f454 : h451 it196 = some (.inr (2, [.int (nI (j205 + 1)), .int (nI j205), .int (g.1 4), .ref lh_171])) := by rw [q450e]; exact tw_up_s
                      obtain ⟨e455, f456, x_457, y_458, dy_459, p_460, rfl, k461, k462, k463⟩ := sp453.1 y447 23 ky449 (by decide)
                      refine tw_castS (ci := 13) rfl dX10_pass_91 w_1336 f456 ?_
                      refine tw_astore [(4, .ref y447), (0, .ref x), (1, .int dy), (2, .int x124), (3, .ref it196)] dX10_pass_94 (by decide) rfl ?_
                      refine tw_aload 0 dX10_pass_96 rfl ?_
                      refine tw_get (v := .int x_457) rfl in_13 0 dX10_pass_98 w_1342 rfl (by decide) f456 rfl ?_
                      refine tw_iconst (v := -1) dX10_pass_101 (by decide) ?_
                      refine tw_icmp_ne 76 dX10_pass_102 (by decide) (fun c464 => ?_) (fun c464 => ?_)
                      · refine tw_lv [1, 2, 3, 4] rfl ?_
                        exact ih207 ((j205 + 1)) (nI j205)  _ sp453 f454 zt212  (by omega) (by omega)
                      · refine tw_aload 0 dX10_pass_105 rfl ?_
                        refine tw_get (v := .int dy_459) rfl in_13 2 dX10_pass_107 w_1346 rfl (by decide) f456 rfl ?_
                        refine tw_aload_n 1 dX10_pass_110 rfl rfl ?_
                        obtain ⟨e465, f466, th_467, td_468, ds_469, fr_470, ca_471, us_472, wo_473, cm_474, lc_475, lh_476, ld_477, rfl, k478, k479, k480, k481, k482, k483, k484, k485, k486, k487, k488, k489, k490, k491⟩ := sp453.1 x 36 kx (by decide)
                        refine tw_get (v := .int td_468) rfl in_14 1 dX10_pass_111 w_1152 rfl (by decide) f466 rfl ?_
                        refine tw_icmp_eq 120 dX10_pass_114 (by decide) (fun c492 => ?_) (fun c492 => ?_)
                        · refine tw_aload 0 dX10_pass_120 rfl ?_
                          refine tw_aload 0 dX10_pass_122 rfl ?_
                          refine tw_get (v := .int y_458) rfl in_13 1 dX10_pass_124 w_1344 rfl (by decide) f456 rfl ?_
                          refine tw_put rfl in_13 tyX9 tyX9_ok nmX9 0 dX10_pass_127 w_1342 rfl (by decide) f456 rfl rfl rfl rfl (Nat.le_of_ble_eq_true rfl) [.int y_458, .int y_458, .int dy_459, .ref p_460] rfl ?_
                          obtain ⟨h493, eh493⟩ : ∃ z : tw_H, z = tw_up h451 y447 (.inr (13, [.int y_458, .int y_458, .int dy_459, .ref p_460])) := ⟨_, rfl⟩
                          rw [← eh493]
                          have sp494 : tw_sp d τ (tw_rm h201 it196) g τ h493 := by rw [eh493]; exact sp453.set ky449 (by decide) ⟨y_458, y_458, dy_459, p_460, rfl, k461, k463, k463⟩
                          have f495 : h493 it196 = some (.inr (2, [.int (nI (j205 + 1)), .int (nI j205), .int (g.1 4), .ref lh_171])) := by rw [eh493, tw_up_n (fun q => absurd (zt212) (by rw [q, ky449]; decide))]; exact f454
                          have f496 : h493 y447 = some (.inr (13, [.int y_458, .int y_458, .int dy_459, .ref p_460])) := by rw [eh493]; exact tw_up_s
                          refine tw_aload 0 dX10_pass_130 rfl ?_
                          refine tw_iconst (v := -1) dX10_pass_132 (by decide) ?_
                          refine tw_put rfl in_13 tyX9 tyX9_ok nmX9 1 dX10_pass_133 w_1344 rfl (by decide) f496 rfl rfl rfl rfl (Nat.le_of_ble_eq_true rfl) [.int y_458, .int (-1), .int dy_459, .ref p_460] rfl ?_
                          obtain ⟨h497, eh497⟩ : ∃ z : tw_H, z = tw_up h493 y447 (.inr (13, [.int y_458, .int (-1), .int dy_459, .ref p_460])) := ⟨_, rfl⟩
                          rw [← eh497]
                          have sp498 : tw_sp d τ (tw_rm h201 it196) g τ h497 := by rw [eh497]; exact sp494.set ky449 (by decide) ⟨y_458, (-1), dy_459, p_460, rfl, k461, k463, (Or.inl rfl)⟩
                          have f499 : h497 it196 = some (.inr (2, [.int (nI (j205 + 1)), .int (nI j205), .int (g.1 4), .ref lh_171])) := by rw [eh497, tw_up_n (fun q => absurd (zt212) (by rw [q, ky449]; decide))]; exact f495
                          have f500 : h497 y447 = some (.inr (13, [.int y_458, .int (-1), .int dy_459, .ref p_460])) := by rw [eh497]; exact tw_up_s
                          refine tw_aload 0 dX10_pass_136 rfl ?_
                          refine tw_iconst (v := -1) dX10_pass_138 (by decide) ?_
                          refine tw_put rfl in_13 tyX9 tyX9_ok nmX9 2 dX10_pass_139 w_1346 rfl (by decide) f500 rfl rfl rfl rfl (Nat.le_of_ble_eq_true rfl) [.int y_458, .int (-1), .int (-1), .ref p_460] rfl ?_
                          obtain ⟨h501, eh501⟩ : ∃ z : tw_H, z = tw_up h497 y447 (.inr (13, [.int y_458, .int (-1), .int (-1), .ref p_460])) := ⟨_, rfl⟩
                          rw [← eh501]
                          have sp502 : tw_sp d τ (tw_rm h201 it196) g τ h501 := by rw [eh501]; exact sp498.set ky449 (by decide) ⟨y_458, (-1), (-1), p_460, rfl, k461, k463, (Or.inl rfl)⟩
                          have f503 : h501 it196 = some (.inr (2, [.int (nI (j205 + 1)), .int (nI j205), .int (g.1 4), .ref lh_171])) := by rw [eh501, tw_up_n (fun q => absurd (zt212) (by rw [q, ky449]; decide))]; exact f499
                          have f504 : h501 y447 = some (.inr (13, [.int y_458, .int (-1), .int (-1), .ref p_460])) := by rw [eh501]; exact tw_up_s
                          refine tw_goto 76 dX10_pass_142 (by decide) ?_
                          refine tw_lv [1, 2, 3, 4] rfl ?_
                          exact ih207 ((j205 + 1)) (nI j205)  _ sp502 f503 zt212  (by omega) (by omega)
                        · refine tw_goto 76 dX10_pass_117 (by decide) ?_
                          refine tw_lv [1, 2, 3, 4] rfl ?_
                          exact ih207 ((j205 + 1)) (nI j205)  _ sp453 f454 zt212  (by omega) (by omega)
                refine tw_lv [1, 2, 3, 0] rfl ?_
                exact L208 (g.2 4 + 1) 0 (-1)  _ (tw_sp.rm sp202.1 it196) f203 z200 (by omega) (Nat.zero_le _)
          refine tw_lv [1, 2, 0] rfl ?_
          refine tw_less (c2 := 0 + 2 * 401) (n2 := 0 + 8 * 401) (by omega) (by omega) ?_
          exact L127 401 0 _ (tw_sp.rf sp120.1) (tw_lt401 q1a q1b)
      · refine tw_iconst (v := 1) dX10_pass_37 (by decide) ?_
        refine tw_goto 42 dX10_pass_38 (by decide) ?_
        refine tw_iconst (v := 2) dX10_pass_42 (by decide) ?_
        refine tw_bi (tw_callV (M := mX10_pass) (pc := 43) okX10_refuse dX10_pass_43 w_1204 rfl f84 [.int 1, .int 2] [] rfl rfl ⟨by decide, by decide⟩ (Nat.le_of_ble_eq_true rfl) (c_X10_refuse d g τ h72 sp79.1 x kx 1 2 (by decide)) 802 3208 (Nat.le_of_ble_eq_true rfl) (Nat.le_of_ble_eq_true rfl)) (fun r507 h506 q505 => ?_) (fun E h1 q => q.elim)
        obtain ⟨e508, he509, hs510, hr511, h3512⟩ := q505
        have sp513 : tw_sp d τ h g τ h506 := by rw [he509]; exact sp79.set kx (by decide) hs510
        rcases hr511 with ei514 | ⟨ei514, ei514b⟩
        · rw [ei514]
          refine tw_if_eq 51 dX10_pass_46 (by decide) (fun c515 => absurd c515 (by decide)) (fun _ => ?_)
          refine tw_iconst (v := 0) dX10_pass_49 (by decide) ?_
          exact tw_iret dX10_pass_50 rfl (Or.inl ⟨_, rfl, sp513⟩)
        · exact absurd ei514b (by decide)

set_option maxHeartbeats 4000000 in
set_option maxRecDepth 100000 in
theorem c_X10_due (d : tw_D) (g : tw_G) (τ : tw_K) (h : tw_H) (hw : tw_wt d g τ h) (x : Nat) (kx : τ x = 36) (y : Nat) (ky : τ y = 22) : tw_Ct d mX10_due 0 0 [.ref x, .ref y] h (tw_qi (fun r h1 => h1 = h) tw_nx) := by
  refine tw_of (by decide +kernel) (Nat.le_of_ble_eq_true rfl) ?_
  show tw_W d mX10_due _ 0 [(0, .ref x), (1, .ref y)] [] h 0 0
  have sp0 := tw_sp.rf hw
  refine tw_aload_n 1 dX10_due_0 rfl rfl ?_
  obtain ⟨e1, f2, v_3, dy_4, pd_5, i_6, j_7, rfl, k8, k9, k10⟩ := sp0.1 y 22 ky (by decide)
  refine tw_get (v := .int pd_5) rfl in_12 4 dX10_due_1 w_1447 rfl (by decide) f2 rfl ?_
  refine tw_if_eq 11 dX10_due_4 (by decide) (fun c11 => ?_) (fun c11 => ?_)
  · refine tw_aload_n 1 dX10_due_11 rfl rfl ?_
    refine tw_get (v := .int v_3) rfl in_12 2 dX10_due_12 w_1445 rfl (by decide) f2 rfl ?_
    refine tw_aload_n 1 dX10_due_15 rfl rfl ?_
    refine tw_get (v := .int v_3) rfl in_12 2 dX10_due_16 w_1445 rfl (by decide) f2 rfl ?_
    refine tw_bipush (v := 100) dX10_due_19 (by decide) ?_
    refine tw_idiv dX10_due_21 (by decide) ?_
    refine tw_nmi (fun v12 ev12 => ?_)
    refine tw_iconst (v := 0) dX10_due_22 (by decide) ?_
    refine tw_aload_n 0 dX10_due_23 rfl rfl ?_
    obtain ⟨e13, f14, th_15, td_16, ds_17, fr_18, ca_19, us_20, wo_21, cm_22, lc_23, lh_24, ld_25, rfl, k26, k27, k28, k29, k30, k31, k32, k33, k34, k35, k36, k37, k38, k39⟩ := sp0.1 x 36 kx (by decide)
    refine tw_get (v := .int td_16) rfl in_14 1 dX10_due_24 w_1152 rfl (by decide) f14 rfl ?_
    refine tw_aload_n 1 dX10_due_27 rfl rfl ?_
    refine tw_get (v := .int dy_4) rfl in_12 3 dX10_due_28 w_1446 rfl (by decide) f2 rfl ?_
    refine tw_isub dX10_due_31 ?_
    refine tw_nmi (fun v40 ev40 => ?_)
    refine tw_mmax dX10_due_32 w_1475 w_875 w_93 w_876 ⟨by decide, Nat.le_of_ble_eq_true rfl⟩ ?_
    refine tw_nmi (fun v41 ev41 => ?_)
    refine tw_bipush (v := 10) dX10_due_35 (by decide) ?_
    refine tw_idiv dX10_due_37 (by decide) ?_
    refine tw_nmi (fun v42 ev42 => ?_)
    refine tw_imul dX10_due_38 ?_
    refine tw_nmi (fun v43 ev43 => ?_)
    refine tw_iadd dX10_due_39 ?_
    refine tw_nmi (fun v44 ev44 => ?_)
    exact tw_iret dX10_due_40 rfl (Or.inl ⟨_, rfl, rfl⟩)
  · refine tw_iconst (v := 0) dX10_due_7 (by decide) ?_
    refine tw_goto 40 dX10_due_8 (by decide) ?_
    exact tw_iret dX10_due_40 rfl (Or.inl ⟨_, rfl, rfl⟩)

set_option maxHeartbeats 4000000 in
set_option maxRecDepth 100000 in
theorem c_X10_toPay (d : tw_D) (g : tw_G) (τ : tw_K) (h : tw_H) (hw : tw_wt d g τ h) (x : Nat) (kx : τ x = 36) (y : Nat) (ky : τ y = 22) (m : Int32) (a i : Nat) (ha : a < g.2 4) (hd1 : tw_th (h y) = nI a) (hi : i < g.2 3) (hd2 : tw_th (h (tw_el h (g.2 13) a)) = nI i) : tw_Ct d mX10_toPay 0 0 [.ref x, .ref y, .int m] h (tw_ql (fun r h1 => h1 = h) tw_nx) := by
  refine tw_of (by decide +kernel) (Nat.le_of_ble_eq_true rfl) ?_
  show tw_W d mX10_toPay _ 0 [(0, .ref x), (1, .ref y), (2, .int m)] [] h 0 0
  have sp0 := tw_sp.rf hw
  refine tw_iload_n 2 dX10_toPay_0 rfl rfl ?_
  refine tw_iconst (v := 1) dX10_toPay_1 (by decide) ?_
  refine tw_icmp_ne 14 dX10_toPay_2 (by decide) (fun c1 => ?_) (fun c1 => ?_)
  · refine tw_ldc2 (v := 10) dX10_toPay_14 w_1373 ?_
    refine tw_aload_n 0 dX10_toPay_17 rfl rfl ?_
    refine tw_aload_n 1 dX10_toPay_18 rfl rfl ?_
    obtain ⟨e2, f3, th_4, td_5, ds_6, fr_7, ca_8, us_9, wo_10, cm_11, lc_12, lh_13, ld_14, rfl, k15, k16, k17, k18, k19, k20, k21, k22, k23, k24, k25, k26, k27, k28⟩ := sp0.1 x 36 kx (by decide)
    refine tw_bi (tw_callV (M := mX10_toPay) (pc := 19) okX10_due dX10_toPay_19 w_1471 rfl f3 [.ref y] [.long 10] rfl rfl ⟨by decide, by decide⟩ (Nat.le_of_ble_eq_true rfl) (c_X10_due d g τ h sp0.1 x kx y ky) 0 0 (Nat.le_of_ble_eq_true rfl) (Nat.le_of_ble_eq_true rfl)) (fun r31 h30 q29 => ?_) (fun E h1 q => q.elim)
    rw [q29]
    refine tw_i2l dX10_toPay_22 ?_
    refine tw_nml (fun v32 ev32 => ?_)
    refine tw_lmul dX10_toPay_23 ?_
    refine tw_nml (fun v33 ev33 => ?_)
    refine tw_aload_n 0 dX10_toPay_24 rfl rfl ?_
    refine tw_get (v := .ref lc_12) rfl in_14 9 dX10_toPay_25 w_1160 rfl (by decide) f3 rfl ?_
    refine tw_aload_n 0 dX10_toPay_28 rfl rfl ?_
    refine tw_get (v := .ref lh_13) rfl in_14 10 dX10_toPay_29 w_1161 rfl (by decide) f3 rfl ?_
    refine tw_aload_n 1 dX10_toPay_32 rfl rfl ?_
    obtain ⟨e34, f35, v_36, dy_37, pd_38, i_39, j_40, rfl, k41, k42, k43⟩ := sp0.1 y 22 ky (by decide)
    refine tw_get (v := .int (nI i_39)) rfl in_12 0 dX10_toPay_33 w_1443 rfl (by decide) f35 rfl ?_
    obtain ⟨e44, f45, ⟨el46, rfl, k47⟩, k48⟩ := sp0.1 lh_13 25 k22 (by decide)
    refine tw_br (tw_callV (M := mX10_toPay) (pc := 36) okJx4a65c_get_915e3 dX10_toPay_36 w_1296 rfl f45 [.int (nI i_39)] [.ref lc_12, .long v33] rfl rfl ⟨by decide, by decide⟩ (Nat.le_of_ble_eq_true rfl) (c25_get d g τ h sp0.1 lh_13 k22 i_39 (by omega) (by omega)) 0 0 (Nat.le_of_ble_eq_true rfl) (Nat.le_of_ble_eq_true rfl)) (fun r51 h50 q49 => ?_) (fun E h1 q => q.elim)
    obtain ⟨q49e, q49k⟩ := q49
    rw [q49e]
    have el52 : tw_el h (g.2 13) i_39 = r51 := by rw [← k48]; exact q49k.2.symm
    have kl53 : τ (g.2 13) = 25 := by rw [← k48]; exact k22
    obtain ⟨e54, f55, x_56, y_57, dy_58, p_59, rfl, k60, k61, k62⟩ := sp0.1 r51 23 q49k.1 (by decide)
    refine tw_castS (ci := 13) rfl dX10_toPay_39 w_1336 f55 ?_
    refine tw_get (v := .int x_56) rfl in_13 0 dX10_toPay_42 w_1342 rfl (by decide) f55 rfl ?_
    have q63 : i_39 = a := tw_nIj (by have z := hd1; rw [f35] at z; exact z) (by omega) (by omega)
    have q64 : x_56 = nI i := by have z := hd2; rw [← q63, el52, f55] at z; exact z
    subst q64
    obtain ⟨e65, f66, ⟨el67, rfl, k68⟩, k69⟩ := sp0.1 lc_12 24 k21 (by decide)
    refine tw_br (tw_callV (M := mX10_toPay) (pc := 45) okJx4a65c_get_915e3 dX10_toPay_45 w_1296 rfl f66 [.int (nI i)] [.long v33] rfl rfl ⟨by decide, by decide⟩ (Nat.le_of_ble_eq_true rfl) (c24_get d g τ h sp0.1 lc_12 k21 i (by omega) (by omega)) 0 0 (Nat.le_of_ble_eq_true rfl) (Nat.le_of_ble_eq_true rfl)) (fun r72 h71 q70 => ?_) (fun E h1 q => q.elim)
    obtain ⟨q70e, q70k⟩ := q70
    rw [q70e]
    have el73 : tw_el h (g.2 12) i = r72 := by rw [← k69]; exact q70k.2.symm
    have kl74 : τ (g.2 12) = 24 := by rw [← k69]; exact k21
    obtain ⟨e75, f76, r_77, c_78, v_79, o_80, t_81, rfl, k82, k83, k84, k85, k86⟩ := sp0.1 r72 21 q70k.1 (by decide)
    refine tw_castS (ci := 11) rfl dX10_toPay_48 w_1212 f76 ?_
    refine tw_get (v := .int r_77) rfl in_11 0 dX10_toPay_51 w_1218 rfl (by decide) f76 rfl ?_
    refine tw_i2l dX10_toPay_54 ?_
    refine tw_nml (fun v87 ev87 => ?_)
    refine tw_bl (tw_callS (M := mX10_toPay) (pc := 55) okX10_up dX10_toPay_55 w_1375 [.long v33, .long v87] [] rfl rfl ⟨by decide, by decide⟩ (Nat.le_of_ble_eq_true rfl) (c_X10_up d g τ h sp0.1 v33 v87 (tw_nzl ev87 (tw_1le k85))) 0 0 (Nat.le_of_ble_eq_true rfl) (Nat.le_of_ble_eq_true rfl)) (fun r90 h89 q88 => ?_) (fun E h1 q => q.elim)
    rw [q88]
    exact tw_lret dX10_toPay_58 rfl (Or.inl ⟨_, rfl, rfl⟩)
  · refine tw_aload_n 0 dX10_toPay_5 rfl rfl ?_
    refine tw_aload_n 1 dX10_toPay_6 rfl rfl ?_
    obtain ⟨e91, f92, th_93, td_94, ds_95, fr_96, ca_97, us_98, wo_99, cm_100, lc_101, lh_102, ld_103, rfl, k104, k105, k106, k107, k108, k109, k110, k111, k112, k113, k114, k115, k116, k117⟩ := sp0.1 x 36 kx (by decide)
    refine tw_bi (tw_callV (M := mX10_toPay) (pc := 7) okX10_due dX10_toPay_7 w_1471 rfl f92 [.ref y] [] rfl rfl ⟨by decide, by decide⟩ (Nat.le_of_ble_eq_true rfl) (c_X10_due d g τ h sp0.1 x kx y ky) 0 0 (Nat.le_of_ble_eq_true rfl) (Nat.le_of_ble_eq_true rfl)) (fun r120 h119 q118 => ?_) (fun E h1 q => q.elim)
    rw [q118]
    refine tw_i2l dX10_toPay_10 ?_
    refine tw_nml (fun v121 ev121 => ?_)
    refine tw_goto 58 dX10_toPay_11 (by decide) ?_
    exact tw_lret dX10_toPay_58 rfl (Or.inl ⟨_, rfl, rfl⟩)

set_option maxHeartbeats 4000000 in
set_option maxRecDepth 100000 in
theorem c_X10_isNoPay (d : tw_D) (g : tw_G) (τ : tw_K) (h : tw_H) (hw : tw_wt d g τ h) (x : Nat) (kx : τ x = 36) (y : Nat) (ky : τ y = 22) (m : Int32) (hm : m = 0 ∨ m = 1) : tw_Ct d mX10_isNoPay 0 0 [.ref x, .ref y, .int m] h (tw_qi (fun r h1 => h1 = h ∧ (r = 1 ∨ r = 0 ∧ ∃ a i, a < g.2 4 ∧ tw_th (h y) = nI a ∧ i < g.2 3 ∧ tw_th (h (tw_el h (g.2 13) a)) = nI i)) tw_nx) := by
  refine tw_of (by decide +kernel) (Nat.le_of_ble_eq_true rfl) ?_
  show tw_W d mX10_isNoPay _ 0 [(0, .ref x), (1, .ref y), (2, .int m)] [] h 0 0
  have sp0 := tw_sp.rf hw
  refine tw_aload_n 0 dX10_isNoPay_0 rfl rfl ?_
  obtain ⟨e1, f2, th_3, td_4, ds_5, fr_6, ca_7, us_8, wo_9, cm_10, lc_11, lh_12, ld_13, rfl, k14, k15, k16, k17, k18, k19, k20, k21, k22, k23, k24, k25, k26, k27⟩ := sp0.1 x 36 kx (by decide)
  refine tw_get (v := .ref lh_12) rfl in_14 10 dX10_isNoPay_1 w_1161 rfl (by decide) f2 rfl ?_
  refine tw_aload_n 1 dX10_isNoPay_4 rfl rfl ?_
  obtain ⟨e28, f29, v_30, dy_31, pd_32, i_33, j_34, rfl, k35, k36, k37⟩ := sp0.1 y 22 ky (by decide)
  refine tw_get (v := .int (nI i_33)) rfl in_12 0 dX10_isNoPay_5 w_1443 rfl (by decide) f29 rfl ?_
  obtain ⟨e38, f39, ⟨el40, rfl, k41⟩, k42⟩ := sp0.1 lh_12 25 k21 (by decide)
  refine tw_br (tw_callV (M := mX10_isNoPay) (pc := 8) okJx4a65c_get_915e3 dX10_isNoPay_8 w_1296 rfl f39 [.int (nI i_33)] [] rfl rfl ⟨by decide, by decide⟩ (Nat.le_of_ble_eq_true rfl) (c25_get d g τ h sp0.1 lh_12 k21 i_33 (by omega) (by omega)) 0 0 (Nat.le_of_ble_eq_true rfl) (Nat.le_of_ble_eq_true rfl)) (fun r45 h44 q43 => ?_) (fun E h1 q => q.elim)
  obtain ⟨q43e, q43k⟩ := q43
  rw [q43e]
  have el46 : tw_el h (g.2 13) i_33 = r45 := by rw [← k42]; exact q43k.2.symm
  have kl47 : τ (g.2 13) = 25 := by rw [← k42]; exact k21
  obtain ⟨e48, f49, x_50, y_51, dy_52, p_53, rfl, k54, k55, k56⟩ := sp0.1 r45 23 q43k.1 (by decide)
  refine tw_castS (ci := 13) rfl dX10_isNoPay_11 w_1336 f49 ?_
  refine tw_astore_n [(3, .ref r45), (0, .ref x), (1, .ref y), (2, .int m)] dX10_isNoPay_14 rfl (by decide) rfl ?_
  refine tw_aload_n 2 dX10_isNoPay_15 rfl rfl ?_
  refine tw_get (v := .int pd_32) rfl in_12 4 dX10_isNoPay_16 w_1447 rfl (by decide) f29 rfl ?_
  refine tw_if_ne 67 dX10_isNoPay_19 (by decide) (fun c57 => ?_) (fun c57 => ?_)
  · refine tw_iconst (v := 1) dX10_isNoPay_67 (by decide) ?_
    refine tw_goto 72 dX10_isNoPay_68 (by decide) ?_
    exact tw_zret dX10_isNoPay_72 rfl rfl (Or.inl ⟨_, rfl, ⟨rfl, (Or.inl rfl)⟩⟩)
  · refine tw_aload_n 0 dX10_isNoPay_22 rfl rfl ?_
    refine tw_get (v := .int x_50) rfl in_13 0 dX10_isNoPay_23 w_1342 rfl (by decide) f49 rfl ?_
    refine tw_iconst (v := -1) dX10_isNoPay_26 (by decide) ?_
    refine tw_icmp_eq 67 dX10_isNoPay_27 (by decide) (fun c58 => ?_) (fun c58 => ?_)
    · refine tw_iconst (v := 1) dX10_isNoPay_67 (by decide) ?_
      refine tw_goto 72 dX10_isNoPay_68 (by decide) ?_
      exact tw_zret dX10_isNoPay_72 rfl rfl (Or.inl ⟨_, rfl, ⟨rfl, (Or.inl rfl)⟩⟩)
    · refine tw_aload_n 1 dX10_isNoPay_30 rfl rfl ?_
      refine tw_get (v := .ref lh_12) rfl in_14 10 dX10_isNoPay_31 w_1161 rfl (by decide) f2 rfl ?_
      refine tw_aload_n 2 dX10_isNoPay_34 rfl rfl ?_
      refine tw_get (v := .int (nI j_34)) rfl in_12 1 dX10_isNoPay_35 w_1444 rfl (by decide) f29 rfl ?_
      refine tw_br (tw_callV (M := mX10_isNoPay) (pc := 38) okJx4a65c_get_915e3 dX10_isNoPay_38 w_1296 rfl f39 [.int (nI j_34)] [] rfl rfl ⟨by decide, by decide⟩ (Nat.le_of_ble_eq_true rfl) (c25_get d g τ h sp0.1 lh_12 k21 j_34 (by omega) (by omega)) 0 0 (Nat.le_of_ble_eq_true rfl) (Nat.le_of_ble_eq_true rfl)) (fun r61 h60 q59 => ?_) (fun E h1 q => q.elim)
      obtain ⟨q59e, q59k⟩ := q59
      rw [q59e]
      have el62 : tw_el h (g.2 13) j_34 = r61 := by rw [← k42]; exact q59k.2.symm
      have kl63 : τ (g.2 13) = 25 := by rw [← k42]; exact k21
      obtain ⟨e64, f65, x_66, y_67, dy_68, p_69, rfl, k70, k71, k72⟩ := sp0.1 r61 23 q59k.1 (by decide)
      refine tw_castS (ci := 13) rfl dX10_isNoPay_41 w_1336 f65 ?_
      refine tw_get (v := .int x_66) rfl in_13 0 dX10_isNoPay_44 w_1342 rfl (by decide) f65 rfl ?_
      refine tw_iconst (v := -1) dX10_isNoPay_47 (by decide) ?_
      refine tw_icmp_eq 67 dX10_isNoPay_48 (by decide) (fun c73 => ?_) (fun c73 => ?_)
      · refine tw_iconst (v := 1) dX10_isNoPay_67 (by decide) ?_
        refine tw_goto 72 dX10_isNoPay_68 (by decide) ?_
        exact tw_zret dX10_isNoPay_72 rfl rfl (Or.inl ⟨_, rfl, ⟨rfl, (Or.inl rfl)⟩⟩)
      · refine tw_aload_n 0 dX10_isNoPay_51 rfl rfl ?_
        refine tw_get (v := .ref p_53) rfl in_13 3 dX10_isNoPay_52 w_1348 rfl (by decide) f49 rfl ?_
        refine tw_iload_n 3 dX10_isNoPay_55 rfl rfl ?_
        obtain ⟨e74, f75, F76, rfl⟩ := sp0.1 p_53 31 k54 (by decide)
        obtain ⟨v77, ev77⟩ : ∃ y : Int64, F76 (m).toNatClampNeg = y := ⟨_, rfl⟩
        refine tw_lald (v := v77) dX10_isNoPay_56 f75 (tw_in01 hm (by decide)) ev77 ?_
        refine tw_aload_n 1 dX10_isNoPay_57 rfl rfl ?_
        refine tw_aload_n 2 dX10_isNoPay_58 rfl rfl ?_
        refine tw_iload_n 3 dX10_isNoPay_59 rfl rfl ?_
        obtain ⟨j78, hj79, ej80⟩ := k55.resolve_left c58
        subst ej80
        refine tw_bl (tw_callV (M := mX10_isNoPay) (pc := 60) okX10_toPay dX10_isNoPay_60 w_1467 rfl f2 [.ref y, .int m] [.long v77] rfl rfl ⟨by decide, by decide⟩ (Nat.le_of_ble_eq_true rfl) (c_X10_toPay d g τ h sp0.1 x kx y ky m i_33 j78 (by omega) (by rw [f29]; rfl) (by omega) (by rw [el46, f49]; rfl)) 0 0 (Nat.le_of_ble_eq_true rfl) (Nat.le_of_ble_eq_true rfl)) (fun r83 h82 q81 => ?_) (fun E h1 q => q.elim)
        rw [q81]
        refine tw_lcmp dX10_isNoPay_63 ?_
        refine tw_nmi (fun v84 ev84 => ?_)
        refine tw_if_ge 71 dX10_isNoPay_64 (by decide) (fun c85 => ?_) (fun c85 => ?_)
        · refine tw_iconst (v := 0) dX10_isNoPay_71 (by decide) ?_
          exact tw_zret dX10_isNoPay_72 rfl rfl (Or.inl ⟨_, rfl, ⟨rfl, (Or.inr ⟨rfl, i_33, j78, by omega, by rw [f29]; rfl, by omega, by rw [el46, f49]; rfl⟩)⟩⟩)
        · refine tw_iconst (v := 1) dX10_isNoPay_67 (by decide) ?_
          refine tw_goto 72 dX10_isNoPay_68 (by decide) ?_
          exact tw_zret dX10_isNoPay_72 rfl rfl (Or.inl ⟨_, rfl, ⟨rfl, (Or.inl rfl)⟩⟩)

set_option maxHeartbeats 4000000 in
set_option maxRecDepth 100000 in
theorem c_X10_settle (d : tw_D) (g : tw_G) (τ : tw_K) (h : tw_H) (hw : tw_wt d g τ h) (x : Nat) (kx : τ x = 36) (n : Int32) (m : Int32) : tw_Ct d mX10_settle 0 0 [.ref x, .int n, .int m] h (tw_qi (fun r h1 => tw_sp d τ h g τ h1) tw_nx) := by
  refine tw_of (by decide +kernel) (Nat.le_of_ble_eq_true rfl) ?_
  show tw_W d mX10_settle _ 0 [(0, .ref x), (1, .int n), (2, .int m)] [] h 0 0
  have sp0 := tw_sp.rf hw
  refine tw_aload_n 0 dX10_settle_0 rfl rfl ?_
  refine tw_iload_n 1 dX10_settle_1 rfl rfl ?_
  refine tw_iconst (v := 0) dX10_settle_2 (by decide) ?_
  refine tw_aload_n 0 dX10_settle_3 rfl rfl ?_
  obtain ⟨e1, f2, th_3, td_4, ds_5, fr_6, ca_7, us_8, wo_9, cm_10, lc_11, lh_12, ld_13, rfl, k14, k15, k16, k17, k18, k19, k20, k21, k22, k23, k24, k25, k26, k27⟩ := sp0.1 x 36 kx (by decide)
  refine tw_get (v := .ref ld_13) rfl in_14 11 dX10_settle_4 w_1162 rfl (by decide) f2 rfl ?_
  obtain ⟨e28, f29, ⟨el30, rfl, k31⟩, k32⟩ := sp0.1 ld_13 26 k22 (by decide)
  refine tw_bi (tw_callV (M := mX10_settle) (pc := 7) okJx4a65c_size_8abf5 dX10_settle_7 w_1208 rfl f29 [] [.int 0, .int n, .ref x] rfl rfl ⟨by decide, by decide⟩ (Nat.le_of_ble_eq_true rfl) (c26_size d g τ h sp0.1 ld_13 k22) 0 0 (Nat.le_of_ble_eq_true rfl) (Nat.le_of_ble_eq_true rfl)) (fun r35 h34 q33 => ?_) (fun E h1 q => q.elim)
  obtain ⟨q33e, q33r⟩ := q33
  rw [q33e, q33r]
  refine tw_iconst (v := 1) dX10_settle_10 (by decide) ?_
  refine tw_isub dX10_settle_11 ?_
  refine tw_nmi (fun v36 ev36 => ?_)
  refine tw_bi (tw_callS (M := mX10_settle) (pc := 12) okX10_isIn dX10_settle_12 w_1196 [.int n, .int 0, .int v36] [.ref x] rfl rfl ⟨by decide, by decide⟩ (Nat.le_of_ble_eq_true rfl) (c_X10_isIn d g τ h sp0.1 n 0 v36) 0 0 (Nat.le_of_ble_eq_true rfl) (Nat.le_of_ble_eq_true rfl)) (fun r39 h38 q37 => ?_) (fun E h1 q => q.elim)
  obtain ⟨q37e, q37d⟩ := q37
  rw [q37e]
  rcases q37d with ⟨q37r, q37n⟩ | ⟨q37r, q37a, q37b⟩
  · rw [q37r]
    refine tw_if_ne 22 dX10_settle_15 (by decide) (fun c40 => absurd (by decide) c40) (fun _ => ?_)
    refine tw_iconst (v := 1) dX10_settle_18 (by decide) ?_
    refine tw_goto 23 dX10_settle_19 (by decide) ?_
    refine tw_iconst (v := 1) dX10_settle_23 (by decide) ?_
    refine tw_bi (tw_callV (M := mX10_settle) (pc := 24) okX10_start dX10_settle_24 w_1200 rfl f2 [.int 1, .int 1] [] rfl rfl ⟨by decide, by decide⟩ (Nat.le_of_ble_eq_true rfl) (c_X10_start d g τ h sp0.1 x kx 1 1 (by decide)) 0 0 (Nat.le_of_ble_eq_true rfl) (Nat.le_of_ble_eq_true rfl)) (fun r43 h42 q41 => ?_) (fun E h1 q => q.elim)
    obtain ⟨e44, he45, hs46, hr47, h348⟩ := q41
    have sp49 : tw_sp d τ h g τ h42 := by rw [he45]; exact sp0.set kx (by decide) hs46
    have f50 : h42 ld_13 = some (.inr (3, [.int (g.1 5), .ref el30, .int (nI (g.2 5))])) := by rw [he45, tw_up_n (fun q => absurd (k22) (by rw [q, kx]; decide))]; exact f29
    rcases hr47 with ei51 | ⟨ei51, ei51b⟩
    · rw [ei51]
      refine tw_if_ne 66 dX10_settle_27 (by decide) (fun _ => ?_) (fun c52 => absurd c52 (by decide))
      refine tw_iconst (v := 0) dX10_settle_66 (by decide) ?_
      exact tw_iret dX10_settle_67 rfl (Or.inl ⟨_, rfl, sp49⟩)
    · exact absurd ei51b (by decide)
  · rw [q37r]
    refine tw_if_ne 22 dX10_settle_15 (by decide) (fun _ => ?_) (fun c53 => absurd c53 (by decide))
    refine tw_iconst (v := 0) dX10_settle_22 (by decide) ?_
    refine tw_iconst (v := 1) dX10_settle_23 (by decide) ?_
    refine tw_bi (tw_callV (M := mX10_settle) (pc := 24) okX10_start dX10_settle_24 w_1200 rfl f2 [.int 0, .int 1] [] rfl rfl ⟨by decide, by decide⟩ (Nat.le_of_ble_eq_true rfl) (c_X10_start d g τ h sp0.1 x kx 0 1 (by decide)) 0 0 (Nat.le_of_ble_eq_true rfl) (Nat.le_of_ble_eq_true rfl)) (fun r56 h55 q54 => ?_) (fun E h1 q => q.elim)
    obtain ⟨e57, he58, hs59, hr60, h361⟩ := q54
    have sp62 : tw_sp d τ h g τ h55 := by rw [he58]; exact sp0.set kx (by decide) hs59
    have f63 : h55 ld_13 = some (.inr (3, [.int (g.1 5), .ref el30, .int (nI (g.2 5))])) := by rw [he58, tw_up_n (fun q => absurd (k22) (by rw [q, kx]; decide))]; exact f29
    rcases hr60 with ei64 | ⟨ei64, ei64b⟩
    · rw [ei64]
      refine tw_if_ne 66 dX10_settle_27 (by decide) (fun _ => ?_) (fun c65 => absurd c65 (by decide))
      refine tw_iconst (v := 0) dX10_settle_66 (by decide) ?_
      exact tw_iret dX10_settle_67 rfl (Or.inl ⟨_, rfl, sp62⟩)
    · rw [ei64]
      refine tw_if_ne 66 dX10_settle_27 (by decide) (fun c66 => absurd (by decide) c66) (fun _ => ?_)
      refine tw_aload_n 0 dX10_settle_30 rfl rfl ?_
      refine tw_iload_n 2 dX10_settle_31 rfl rfl ?_
      refine tw_bi (tw_callS (M := mX10_settle) (pc := 32) okX10_isNoMetal dX10_settle_32 w_1312 [.int m] [.ref x] rfl rfl ⟨by decide, by decide⟩ (Nat.le_of_ble_eq_true rfl) (c_X10_isNoMetal d g τ h55 sp62.1 m) 0 0 (Nat.le_of_ble_eq_true rfl) (Nat.le_of_ble_eq_true rfl)) (fun r69 h68 q67 => ?_) (fun E h1 q => q.elim)
      obtain ⟨q67e, q67d⟩ := q67
      rw [q67e]
      rcases q67d with q67r | ⟨q67r, q67m⟩
      · rw [q67r]
        refine tw_iconst (v := 2) dX10_settle_35 (by decide) ?_
        obtain ⟨e70, f71, th_72, td_73, ds_74, fr_75, ca_76, us_77, wo_78, cm_79, lc_80, lh_81, ld_82, rfl, k83, k84, k85, k86, k87, k88, k89, k90, k91, k92, k93, k94, k95, k96⟩ := sp62.1 x 36 kx (by decide)
        refine tw_bi (tw_callV (M := mX10_settle) (pc := 36) okX10_refuse dX10_settle_36 w_1204 rfl f71 [.int 1, .int 2] [] rfl rfl ⟨by decide, by decide⟩ (Nat.le_of_ble_eq_true rfl) (c_X10_refuse d g τ h55 sp62.1 x kx 1 2 (by decide)) 0 0 (Nat.le_of_ble_eq_true rfl) (Nat.le_of_ble_eq_true rfl)) (fun r99 h98 q97 => ?_) (fun E h1 q => q.elim)
        obtain ⟨e100, he101, hs102, hr103, h3104⟩ := q97
        have sp105 : tw_sp d τ h g τ h98 := by rw [he101]; exact sp62.set kx (by decide) hs102
        have f106 : h98 ld_13 = some (.inr (3, [.int (g.1 5), .ref el30, .int (nI (g.2 5))])) := by rw [he101, tw_up_n (fun q => absurd (k22) (by rw [q, kx]; decide))]; exact f63
        rcases hr103 with ei107 | ⟨ei107, ei107b⟩
        · rw [ei107]
          refine tw_if_ne 66 dX10_settle_39 (by decide) (fun _ => ?_) (fun c108 => absurd c108 (by decide))
          refine tw_iconst (v := 0) dX10_settle_66 (by decide) ?_
          exact tw_iret dX10_settle_67 rfl (Or.inl ⟨_, rfl, sp105⟩)
        · exact absurd ei107b (by decide)
      · rw [q67r]
        refine tw_iconst (v := 2) dX10_settle_35 (by decide) ?_
        obtain ⟨e109, f110, th_111, td_112, ds_113, fr_114, ca_115, us_116, wo_117, cm_118, lc_119, lh_120, ld_121, rfl, k122, k123, k124, k125, k126, k127, k128, k129, k130, k131, k132, k133, k134, k135⟩ := sp62.1 x 36 kx (by decide)
        refine tw_bi (tw_callV (M := mX10_settle) (pc := 36) okX10_refuse dX10_settle_36 w_1204 rfl f110 [.int 0, .int 2] [] rfl rfl ⟨by decide, by decide⟩ (Nat.le_of_ble_eq_true rfl) (c_X10_refuse d g τ h55 sp62.1 x kx 0 2 (by decide)) 0 0 (Nat.le_of_ble_eq_true rfl) (Nat.le_of_ble_eq_true rfl)) (fun r138 h137 q136 => ?_) (fun E h1 q => q.elim)
        obtain ⟨e139, he140, hs141, hr142, h3143⟩ := q136
        have sp144 : tw_sp d τ h g τ h137 := by rw [he140]; exact sp62.set kx (by decide) hs141
        have f145 : h137 ld_13 = some (.inr (3, [.int (g.1 5), .ref el30, .int (nI (g.2 5))])) := by rw [he140, tw_up_n (fun q => absurd (k22) (by rw [q, kx]; decide))]; exact f63
        rcases hr142 with ei146 | ⟨ei146, ei146b⟩
        · rw [ei146]
          refine tw_if_ne 66 dX10_settle_39 (by decide) (fun _ => ?_) (fun c147 => absurd c147 (by decide))
          refine tw_iconst (v := 0) dX10_settle_66 (by decide) ?_
          exact tw_iret dX10_settle_67 rfl (Or.inl ⟨_, rfl, sp144⟩)
        · rw [ei146]
          refine tw_if_ne 66 dX10_settle_39 (by decide) (fun c148 => absurd (by decide) c148) (fun _ => ?_)
          refine tw_aload_n 0 dX10_settle_42 rfl rfl ?_
          refine tw_aload_n 0 dX10_settle_43 rfl rfl ?_
          refine tw_aload_n 0 dX10_settle_44 rfl rfl ?_
          obtain ⟨e149, f150, th_151, td_152, ds_153, fr_154, ca_155, us_156, wo_157, cm_158, lc_159, lh_160, ld_161, rfl, k162, k163, k164, k165, k166, k167, k168, k169, k170, k171, k172, k173, k174, k175⟩ := sp144.1 x 36 kx (by decide)
          refine tw_get (v := .ref ld_161) rfl in_14 11 dX10_settle_45 w_1162 rfl (by decide) f150 rfl ?_
          refine tw_iload_n 1 dX10_settle_48 rfl rfl ?_
          obtain ⟨j176, hj177, ej178⟩ := tw_isc q37a q37b ev36 (by omega)
          subst ej178
          obtain ⟨e179, f180, ⟨el181, rfl, k182⟩, k183⟩ := sp144.1 ld_161 26 k170 (by decide)
          refine tw_br (tw_callV (M := mX10_settle) (pc := 49) okJx4a65c_get_915e3 dX10_settle_49 w_1296 rfl f180 [.int (nI j176)] [.ref x, .ref x] rfl rfl ⟨by decide, by decide⟩ (Nat.le_of_ble_eq_true rfl) (c26_get d g τ h137 sp144.1 ld_161 k170 j176 (by omega) (by omega)) 0 0 (Nat.le_of_ble_eq_true rfl) (Nat.le_of_ble_eq_true rfl)) (fun r186 h185 q184 => ?_) (fun E h1 q => q.elim)
          obtain ⟨q184e, q184k⟩ := q184
          rw [q184e]
          have el187 : tw_el h137 (g.2 14) j176 = r186 := by rw [← k183]; exact q184k.2.symm
          have kl188 : τ (g.2 14) = 26 := by rw [← k183]; exact k170
          obtain ⟨e189, f190, v_191, dy_192, pd_193, i_194, j_195, rfl, k196, k197, k198⟩ := sp144.1 r186 22 q184k.1 (by decide)
          refine tw_castS (ci := 12) rfl dX10_settle_52 w_1437 f190 ?_
          refine tw_iload_n 2 dX10_settle_55 rfl rfl ?_
          refine tw_bi (tw_callV (M := mX10_settle) (pc := 56) okX10_isNoPay dX10_settle_56 w_1463 rfl f150 [.ref r186, .int m] [.ref x] rfl rfl ⟨by decide, by decide⟩ (Nat.le_of_ble_eq_true rfl) (c_X10_isNoPay d g τ h137 sp144.1 x kx r186 q184k.1 m q67m) 0 0 (Nat.le_of_ble_eq_true rfl) (Nat.le_of_ble_eq_true rfl)) (fun r201 h200 q199 => ?_) (fun E h1 q => q.elim)
          obtain ⟨q199e, q199d⟩ := q199
          rw [q199e]
          rcases q199d with q199r | ⟨q199r, a202, i203, ha204, p205, hi206, p207⟩
          · rw [q199r]
            refine tw_iconst (v := 3) dX10_settle_59 (by decide) ?_
            refine tw_bi (tw_callV (M := mX10_settle) (pc := 60) okX10_refuse dX10_settle_60 w_1204 rfl f150 [.int 1, .int 3] [] rfl rfl ⟨by decide, by decide⟩ (Nat.le_of_ble_eq_true rfl) (c_X10_refuse d g τ h137 sp144.1 x kx 1 3 (by decide)) 0 0 (Nat.le_of_ble_eq_true rfl) (Nat.le_of_ble_eq_true rfl)) (fun r210 h209 q208 => ?_) (fun E h1 q => q.elim)
            obtain ⟨e211, he212, hs213, hr214, h3215⟩ := q208
            have sp216 : tw_sp d τ h g τ h209 := by rw [he212]; exact sp144.set kx (by decide) hs213
            have f217 : h209 ld_13 = some (.inr (3, [.int (g.1 5), .ref el30, .int (nI (g.2 5))])) := by rw [he212, tw_up_n (fun q => absurd (k22) (by rw [q, kx]; decide))]; exact f145
            have f218 : h209 ld_161 = some (.inr (3, [.int (g.1 5), .ref el181, .int (nI (g.2 5))])) := by rw [he212, tw_up_n (fun q => absurd (k170) (by rw [q, kx]; decide))]; exact f180
            have f219 : h209 r186 = some (.inr (12, [.int (nI i_194), .int (nI j_195), .int v_191, .int dy_192, .int pd_193])) := by rw [he212, tw_up_n (fun q => absurd (q184k.1) (by rw [q, kx]; decide))]; exact f190
            have el220 : tw_el h209 (g.2 14) j176 = r186 := by rw [he212]; exact (tw_el26_up sp144.1 kl188 (by omega) (by rw [kx]; decide) (by rw [kx]; decide)).trans el187
            rcases hr214 with ei221 | ⟨ei221, ei221b⟩
            · rw [ei221]
              refine tw_if_eq 68 dX10_settle_63 (by decide) (fun c222 => absurd c222 (by decide)) (fun _ => ?_)
              refine tw_iconst (v := 0) dX10_settle_66 (by decide) ?_
              exact tw_iret dX10_settle_67 rfl (Or.inl ⟨_, rfl, sp216⟩)
            · exact absurd ei221b (by decide)
          · rw [q199r]
            obtain ⟨e223, f224, ⟨el225, rfl, k226⟩, k227⟩ := sp144.1 lh_160 25 k169 (by decide)
            have kl229 : τ (g.2 13) = 25 := by rw [← k227]; exact k169
            have kz228 := tw_elk25 sp144.1 kl229 ha204
            refine tw_iconst (v := 3) dX10_settle_59 (by decide) ?_
            refine tw_bi (tw_callV (M := mX10_settle) (pc := 60) okX10_refuse dX10_settle_60 w_1204 rfl f150 [.int 0, .int 3] [] rfl rfl ⟨by decide, by decide⟩ (Nat.le_of_ble_eq_true rfl) (c_X10_refuse d g τ h137 sp144.1 x kx 0 3 (by decide)) 0 0 (Nat.le_of_ble_eq_true rfl) (Nat.le_of_ble_eq_true rfl)) (fun r232 h231 q230 => ?_) (fun E h1 q => q.elim)
            obtain ⟨e233, he234, hs235, hr236, h3237⟩ := q230
            have sp238 : tw_sp d τ h g τ h231 := by rw [he234]; exact sp144.set kx (by decide) hs235
            have f239 : h231 ld_13 = some (.inr (3, [.int (g.1 5), .ref el30, .int (nI (g.2 5))])) := by rw [he234, tw_up_n (fun q => absurd (k22) (by rw [q, kx]; decide))]; exact f145
            have f240 : h231 ld_161 = some (.inr (3, [.int (g.1 5), .ref el181, .int (nI (g.2 5))])) := by rw [he234, tw_up_n (fun q => absurd (k170) (by rw [q, kx]; decide))]; exact f180
            have f241 : h231 r186 = some (.inr (12, [.int (nI i_194), .int (nI j_195), .int v_191, .int dy_192, .int pd_193])) := by rw [he234, tw_up_n (fun q => absurd (q184k.1) (by rw [q, kx]; decide))]; exact f190
            have f242 : h231 lh_160 = some (.inr (3, [.int (g.1 4), .ref el225, .int (nI (g.2 4))])) := by rw [he234, tw_up_n (fun q => absurd (k169) (by rw [q, kx]; decide))]; exact f224
            have el243 : tw_el h231 (g.2 14) j176 = r186 := by rw [he234]; exact (tw_el26_up sp144.1 kl188 (by omega) (by rw [kx]; decide) (by rw [kx]; decide)).trans el187
            have p244 : tw_th (h231 r186) = nI a202 := by rw [he234, tw_up_n (fun q => absurd (q184k.1) (by rw [q, kx]; decide))]; exact p205
            have p245 : tw_th (h231 (tw_el h231 (g.2 13) a202)) = nI i203 := by rw [he234, tw_el25_up sp144.1 kl229 ha204 (by rw [kx]; decide) (by rw [kx]; decide), tw_up_n (fun q => absurd (kz228) (by rw [q, kx]; decide))]; exact p207
            rcases hr236 with ei246 | ⟨ei246, ei246b⟩
            · rw [ei246]
              refine tw_if_eq 68 dX10_settle_63 (by decide) (fun c247 => absurd c247 (by decide)) (fun _ => ?_)
              refine tw_iconst (v := 0) dX10_settle_66 (by decide) ?_
              exact tw_iret dX10_settle_67 rfl (Or.inl ⟨_, rfl, sp238⟩)
            · rw [ei246]
              refine tw_if_eq 68 dX10_settle_63 (by decide) (fun _ => ?_) (fun c248 => absurd (by decide) c248)
              refine tw_aload_n 0 dX10_settle_68 rfl rfl ?_
              obtain ⟨e249, f250, th_251, td_252, ds_253, fr_254, ca_255, us_256, wo_257, cm_258, lc_259, lh_260, ld_261, rfl, k262, k263, k264, k265, k266, k267, k268, k269, k270, k271, k272, k273, k274, k275⟩ := sp238.1 x 36 kx (by decide)
              refine tw_get (v := .ref ld_261) rfl in_14 11 dX10_settle_69 w_1162 rfl (by decide) f250 rfl ?_
              refine tw_iload_n 1 dX10_settle_72 rfl rfl ?_
              obtain ⟨e276, f277, ⟨el278, rfl, k279⟩, k280⟩ := sp238.1 ld_261 26 k270 (by decide)
              refine tw_br (tw_callV (M := mX10_settle) (pc := 73) okJx4a65c_get_915e3 dX10_settle_73 w_1296 rfl f277 [.int (nI j176)] [] rfl rfl ⟨by decide, by decide⟩ (Nat.le_of_ble_eq_true rfl) (c26_get d g τ h231 sp238.1 ld_261 k270 j176 (by omega) (by omega)) 0 0 (Nat.le_of_ble_eq_true rfl) (Nat.le_of_ble_eq_true rfl)) (fun r283 h282 q281 => ?_) (fun E h1 q => q.elim)
              obtain ⟨q281e, q281k⟩ := q281
              rw [q281e]
              have q281ky : r283 = r186 := q281k.2.trans (by rw [k280]; exact el243)
              rw [q281ky]
              refine tw_castS (ci := 12) rfl dX10_settle_76 w_1437 f241 ?_
              refine tw_astore_n [(3, .ref r186), (0, .ref x), (1, .int (nI j176)), (2, .int m)] dX10_settle_79 rfl (by decide) rfl ?_
              refine tw_aload_n 1 dX10_settle_80 rfl rfl ?_
              refine tw_aload_n 0 dX10_settle_81 rfl rfl ?_
              refine tw_iload_n 3 dX10_settle_82 rfl rfl ?_
              refine tw_bl (tw_callV (M := mX10_settle) (pc := 83) okX10_toPay dX10_settle_83 w_1467 rfl f250 [.ref r186, .int m] [] rfl rfl ⟨by decide, by decide⟩ (Nat.le_of_ble_eq_true rfl) (c_X10_toPay d g τ h231 sp238.1 x kx r186 q184k.1 m a202 i203 ha204 p244 hi206 p245) 0 0 (Nat.le_of_ble_eq_true rfl) (Nat.le_of_ble_eq_true rfl)) (fun r286 h285 q284 => ?_) (fun E h1 q => q.elim)
              rw [q284]
              refine tw_lstore [(4, .long r286), (3, .ref r186), (0, .ref x), (1, .int (nI j176)), (2, .int m)] dX10_settle_86 (by decide) rfl ?_
              refine tw_aload_n 2 dX10_settle_88 rfl rfl ?_
              refine tw_get (v := .ref lh_260) rfl in_14 10 dX10_settle_89 w_1161 rfl (by decide) f250 rfl ?_
              refine tw_aload_n 1 dX10_settle_92 rfl rfl ?_
              refine tw_get (v := .int (nI i_194)) rfl in_12 0 dX10_settle_93 w_1443 rfl (by decide) f241 rfl ?_
              obtain ⟨e287, f288, ⟨el289, rfl, k290⟩, k291⟩ := sp238.1 lh_260 25 k269 (by decide)
              refine tw_br (tw_callV (M := mX10_settle) (pc := 96) okJx4a65c_get_915e3 dX10_settle_96 w_1296 rfl f288 [.int (nI i_194)] [] rfl rfl ⟨by decide, by decide⟩ (Nat.le_of_ble_eq_true rfl) (c25_get d g τ h231 sp238.1 lh_260 k269 i_194 (by omega) (by omega)) 0 0 (Nat.le_of_ble_eq_true rfl) (Nat.le_of_ble_eq_true rfl)) (fun r294 h293 q292 => ?_) (fun E h1 q => q.elim)
              obtain ⟨q292e, q292k⟩ := q292
              rw [q292e]
              have el295 : tw_el h231 (g.2 13) i_194 = r294 := by rw [← k291]; exact q292k.2.symm
              have kl296 : τ (g.2 13) = 25 := by rw [← k291]; exact k269
              obtain ⟨e297, f298, x_299, y_300, dy_301, p_302, rfl, k303, k304, k305⟩ := sp238.1 r294 23 q292k.1 (by decide)
              refine tw_castS (ci := 13) rfl dX10_settle_99 w_1336 f298 ?_
              refine tw_get (v := .ref p_302) rfl in_13 3 dX10_settle_102 w_1348 rfl (by decide) f298 rfl ?_
              refine tw_iload_n 4 dX10_settle_105 rfl rfl ?_
              refine tw_dup2 dX10_settle_106 rfl rfl ?_
              obtain ⟨e306, f307, F308, rfl⟩ := sp238.1 p_302 31 k303 (by decide)
              obtain ⟨v309, ev309⟩ : ∃ y : Int64, F308 (m).toNatClampNeg = y := ⟨_, rfl⟩
              refine tw_lald (v := v309) dX10_settle_107 f307 (tw_in01 q67m (by decide)) ev309 ?_
              refine tw_lload 0 dX10_settle_108 rfl ?_
              refine tw_lsub dX10_settle_110 ?_
              refine tw_nml (fun v310 ev310 => ?_)
              refine tw_last dX10_settle_111 f307 (tw_in01 q67m (by decide)) ?_
              obtain ⟨h311, eh311⟩ : ∃ z : tw_H, z = tw_up h231 p_302 (.inl (d.2 1, 2, .inr (.inl (vp_updL F308 (m).toNatClampNeg v310)))) := ⟨_, rfl⟩
              rw [← eh311]
              have sp312 : tw_sp d τ h g τ h311 := by rw [eh311]; exact sp238.set k303 (by decide) ⟨_, rfl⟩
              refine tw_aload_n 2 dX10_settle_112 rfl rfl ?_
              obtain ⟨e313, f314, th_315, td_316, ds_317, fr_318, ca_319, us_320, wo_321, cm_322, lc_323, lh_324, ld_325, rfl, k326, k327, k328, k329, k330, k331, k332, k333, k334, k335, k336, k337, k338, k339⟩ := sp312.1 x 36 kx (by decide)
              refine tw_get (v := .ref lh_324) rfl in_14 10 dX10_settle_113 w_1161 rfl (by decide) f314 rfl ?_
              refine tw_aload_n 1 dX10_settle_116 rfl rfl ?_
              obtain ⟨e340, f341, v_342, dy_343, pd_344, i_345, j_346, rfl, k347, k348, k349⟩ := sp312.1 r186 22 q184k.1 (by decide)
              refine tw_get (v := .int (nI j_346)) rfl in_12 1 dX10_settle_117 w_1444 rfl (by decide) f341 rfl ?_
              obtain ⟨e350, f351, ⟨el352, rfl, k353⟩, k354⟩ := sp312.1 lh_324 25 k333 (by decide)
              refine tw_br (tw_callV (M := mX10_settle) (pc := 120) okJx4a65c_get_915e3 dX10_settle_120 w_1296 rfl f351 [.int (nI j_346)] [] rfl rfl ⟨by decide, by decide⟩ (Nat.le_of_ble_eq_true rfl) (c25_get d g τ h311 sp312.1 lh_324 k333 j_346 (by omega) (by omega)) 0 0 (Nat.le_of_ble_eq_true rfl) (Nat.le_of_ble_eq_true rfl)) (fun r357 h356 q355 => ?_) (fun E h1 q => q.elim)
              obtain ⟨q355e, q355k⟩ := q355
              rw [q355e]
              have el358 : tw_el h311 (g.2 13) j_346 = r357 := by rw [← k354]; exact q355k.2.symm
              have kl359 : τ (g.2 13) = 25 := by rw [← k354]; exact k333
              obtain ⟨e360, f361, x_362, y_363, dy_364, p_365, rfl, k366, k367, k368⟩ := sp312.1 r357 23 q355k.1 (by decide)
              refine tw_castS (ci := 13) rfl dX10_settle_123 w_1336 f361 ?_
              refine tw_get (v := .ref p_365) rfl in_13 3 dX10_settle_126 w_1348 rfl (by decide) f361 rfl ?_
              refine tw_iload_n 4 dX10_settle_129 rfl rfl ?_
              refine tw_dup2 dX10_settle_130 rfl rfl ?_
              obtain ⟨e369, f370, F371, rfl⟩ := sp312.1 p_365 31 k366 (by decide)
              obtain ⟨v372, ev372⟩ : ∃ y : Int64, F371 (m).toNatClampNeg = y := ⟨_, rfl⟩
              refine tw_lald (v := v372) dX10_settle_131 f370 (tw_in01 q67m (by decide)) ev372 ?_
              refine tw_lload 0 dX10_settle_132 rfl ?_
              refine tw_ladd dX10_settle_134 ?_
              refine tw_nml (fun v373 ev373 => ?_)
              refine tw_last dX10_settle_135 f370 (tw_in01 q67m (by decide)) ?_
              obtain ⟨h374, eh374⟩ : ∃ z : tw_H, z = tw_up h311 p_365 (.inl (d.2 1, 2, .inr (.inl (vp_updL F371 (m).toNatClampNeg v373)))) := ⟨_, rfl⟩
              rw [← eh374]
              have sp375 : tw_sp d τ h g τ h374 := by rw [eh374]; exact sp312.set k366 (by decide) ⟨_, rfl⟩
              refine tw_aload_n 1 dX10_settle_136 rfl rfl ?_
              refine tw_iconst (v := 1) dX10_settle_137 (by decide) ?_
              obtain ⟨e376, f377, v_378, dy_379, pd_380, i_381, j_382, rfl, k383, k384, k385⟩ := sp375.1 r186 22 q184k.1 (by decide)
              refine tw_put rfl in_12 tyX8 tyX8_ok nmX8 4 dX10_settle_138 w_1447 rfl (by decide) f377 rfl rfl rfl rfl (Nat.le_of_ble_eq_true rfl) [.int (nI i_381), .int (nI j_382), .int v_378, .int dy_379, .int 1] rfl ?_
              obtain ⟨h386, eh386⟩ : ∃ z : tw_H, z = tw_up h374 r186 (.inr (12, [.int (nI i_381), .int (nI j_382), .int v_378, .int dy_379, .int 1])) := ⟨_, rfl⟩
              rw [← eh386]
              have sp387 : tw_sp d τ h g τ h386 := by rw [eh386]; exact sp375.set q184k.1 (by decide) ⟨v_378, dy_379, 1, i_381, j_382, rfl, (by omega), (by omega), (by unfold tw_01; decide)⟩
              have f388 : h386 r186 = some (.inr (12, [.int (nI i_381), .int (nI j_382), .int v_378, .int dy_379, .int 1])) := by rw [eh386]; exact tw_up_s
              refine tw_lload 0 dX10_settle_141 rfl ?_
              refine tw_l2i dX10_settle_143 ?_
              refine tw_nmi (fun v389 ev389 => ?_)
              exact tw_iret dX10_settle_144 rfl (Or.inl ⟨_, rfl, sp387⟩)

set_option maxHeartbeats 4000000 in
set_option maxRecDepth 100000 in
theorem c_X10_till (d : tw_D) (g : tw_G) (τ : tw_K) (h : tw_H) (hw : tw_wt d g τ h) (x : Nat) (kx : τ x = 36) (n : Int32) (k : Int32) (many : Int32) : tw_Ct d mX10_till 0 0 [.ref x, .int n, .int k, .int many] h (tw_qi (fun r h1 => tw_sp d τ h g τ h1) tw_nx) := by
  refine tw_of (by decide +kernel) (Nat.le_of_ble_eq_true rfl) ?_
  show tw_W d mX10_till _ 0 [(0, .ref x), (1, .int n), (2, .int k), (3, .int many)] [] h 0 0
  have sp0 := tw_sp.rf hw
  refine tw_aload_n 0 dX10_till_0 rfl rfl ?_
  refine tw_aload_n 0 dX10_till_1 rfl rfl ?_
  refine tw_iload_n 1 dX10_till_2 rfl rfl ?_
  obtain ⟨e1, f2, th_3, td_4, ds_5, fr_6, ca_7, us_8, wo_9, cm_10, lc_11, lh_12, ld_13, rfl, k14, k15, k16, k17, k18, k19, k20, k21, k22, k23, k24, k25, k26, k27⟩ := sp0.1 x 36 kx (by decide)
  refine tw_bi (tw_callV (M := mX10_till) (pc := 3) okX10_isNoCountry dX10_till_3 w_1292 rfl f2 [.int n] [.ref x] rfl rfl ⟨by decide, by decide⟩ (Nat.le_of_ble_eq_true rfl) (c_X10_isNoCountry d g τ h sp0.1 x kx n) 0 0 (Nat.le_of_ble_eq_true rfl) (Nat.le_of_ble_eq_true rfl)) (fun r30 h29 q28 => ?_) (fun E h1 q => q.elim)
  obtain ⟨q28e, q28d⟩ := q28
  rw [q28e]
  rcases q28d with q28r | ⟨q28r, j31, q28j, q28k⟩
  · rw [q28r]
    refine tw_if_ne 18 dX10_till_6 (by decide) (fun _ => ?_) (fun c32 => absurd c32 (by decide))
    refine tw_iconst (v := 1) dX10_till_18 (by decide) ?_
    refine tw_goto 23 dX10_till_19 (by decide) ?_
    refine tw_iconst (v := 1) dX10_till_23 (by decide) ?_
    refine tw_bi (tw_callV (M := mX10_till) (pc := 24) okX10_start dX10_till_24 w_1200 rfl f2 [.int 1, .int 1] [] rfl rfl ⟨by decide, by decide⟩ (Nat.le_of_ble_eq_true rfl) (c_X10_start d g τ h sp0.1 x kx 1 1 (by decide)) 0 0 (Nat.le_of_ble_eq_true rfl) (Nat.le_of_ble_eq_true rfl)) (fun r35 h34 q33 => ?_) (fun E h1 q => q.elim)
    obtain ⟨e36, he37, hs38, hr39, h340⟩ := q33
    have sp41 : tw_sp d τ h g τ h34 := by rw [he37]; exact sp0.set kx (by decide) hs38
    rcases hr39 with ei42 | ⟨ei42, ei42b⟩
    · rw [ei42]
      refine tw_if_ne 53 dX10_till_27 (by decide) (fun _ => ?_) (fun c43 => absurd c43 (by decide))
      refine tw_iconst (v := 0) dX10_till_53 (by decide) ?_
      exact tw_iret dX10_till_54 rfl (Or.inl ⟨_, rfl, sp41⟩)
    · exact absurd ei42b (by decide)
  · rw [q28r]
    subst q28k
    refine tw_if_ne 18 dX10_till_6 (by decide) (fun c44 => absurd (by decide) c44) (fun _ => ?_)
    refine tw_iload_n 2 dX10_till_9 rfl rfl ?_
    refine tw_iconst (v := 0) dX10_till_10 (by decide) ?_
    refine tw_iconst (v := 4) dX10_till_11 (by decide) ?_
    refine tw_bi (tw_callS (M := mX10_till) (pc := 12) okX10_isIn dX10_till_12 w_1196 [.int k, .int 0, .int 4] [.ref x] rfl rfl ⟨by decide, by decide⟩ (Nat.le_of_ble_eq_true rfl) (c_X10_isIn d g τ h sp0.1 k 0 4) 0 0 (Nat.le_of_ble_eq_true rfl) (Nat.le_of_ble_eq_true rfl)) (fun r47 h46 q45 => ?_) (fun E h1 q => q.elim)
    obtain ⟨q45e, q45d⟩ := q45
    rw [q45e]
    rcases q45d with ⟨q45r, q45n⟩ | ⟨q45r, q45a, q45b⟩
    · rw [q45r]
      refine tw_if_ne 22 dX10_till_15 (by decide) (fun c48 => absurd (by decide) c48) (fun _ => ?_)
      refine tw_iconst (v := 1) dX10_till_18 (by decide) ?_
      refine tw_goto 23 dX10_till_19 (by decide) ?_
      refine tw_iconst (v := 1) dX10_till_23 (by decide) ?_
      refine tw_bi (tw_callV (M := mX10_till) (pc := 24) okX10_start dX10_till_24 w_1200 rfl f2 [.int 1, .int 1] [] rfl rfl ⟨by decide, by decide⟩ (Nat.le_of_ble_eq_true rfl) (c_X10_start d g τ h sp0.1 x kx 1 1 (by decide)) 0 0 (Nat.le_of_ble_eq_true rfl) (Nat.le_of_ble_eq_true rfl)) (fun r51 h50 q49 => ?_) (fun E h1 q => q.elim)
      obtain ⟨e52, he53, hs54, hr55, h356⟩ := q49
      have sp57 : tw_sp d τ h g τ h50 := by rw [he53]; exact sp0.set kx (by decide) hs54
      rcases hr55 with ei58 | ⟨ei58, ei58b⟩
      · rw [ei58]
        refine tw_if_ne 53 dX10_till_27 (by decide) (fun _ => ?_) (fun c59 => absurd c59 (by decide))
        refine tw_iconst (v := 0) dX10_till_53 (by decide) ?_
        exact tw_iret dX10_till_54 rfl (Or.inl ⟨_, rfl, sp57⟩)
      · exact absurd ei58b (by decide)
    · rw [q45r]
      refine tw_if_ne 22 dX10_till_15 (by decide) (fun _ => ?_) (fun c60 => absurd c60 (by decide))
      refine tw_iconst (v := 0) dX10_till_22 (by decide) ?_
      refine tw_iconst (v := 1) dX10_till_23 (by decide) ?_
      refine tw_bi (tw_callV (M := mX10_till) (pc := 24) okX10_start dX10_till_24 w_1200 rfl f2 [.int 0, .int 1] [] rfl rfl ⟨by decide, by decide⟩ (Nat.le_of_ble_eq_true rfl) (c_X10_start d g τ h sp0.1 x kx 0 1 (by decide)) 0 0 (Nat.le_of_ble_eq_true rfl) (Nat.le_of_ble_eq_true rfl)) (fun r63 h62 q61 => ?_) (fun E h1 q => q.elim)
      obtain ⟨e64, he65, hs66, hr67, h368⟩ := q61
      have sp69 : tw_sp d τ h g τ h62 := by rw [he65]; exact sp0.set kx (by decide) hs66
      rcases hr67 with ei70 | ⟨ei70, ei70b⟩
      · rw [ei70]
        refine tw_if_ne 53 dX10_till_27 (by decide) (fun _ => ?_) (fun c71 => absurd c71 (by decide))
        refine tw_iconst (v := 0) dX10_till_53 (by decide) ?_
        exact tw_iret dX10_till_54 rfl (Or.inl ⟨_, rfl, sp69⟩)
      · rw [ei70]
        refine tw_if_ne 53 dX10_till_27 (by decide) (fun c72 => absurd (by decide) c72) (fun _ => ?_)
        refine tw_aload_n 0 dX10_till_30 rfl rfl ?_
        refine tw_iload_n 3 dX10_till_31 rfl rfl ?_
        refine tw_iconst (v := 0) dX10_till_32 (by decide) ?_
        refine tw_bipush (v := 9) dX10_till_33 (by decide) ?_
        refine tw_bi (tw_callS (M := mX10_till) (pc := 35) okX10_isIn dX10_till_35 w_1196 [.int many, .int 0, .int 9] [.ref x] rfl rfl ⟨by decide, by decide⟩ (Nat.le_of_ble_eq_true rfl) (c_X10_isIn d g τ h62 sp69.1 many 0 9) 0 0 (Nat.le_of_ble_eq_true rfl) (Nat.le_of_ble_eq_true rfl)) (fun r75 h74 q73 => ?_) (fun E h1 q => q.elim)
        obtain ⟨q73e, q73d⟩ := q73
        rw [q73e]
        rcases q73d with ⟨q73r, q73n⟩ | ⟨q73r, q73a, q73b⟩
        · rw [q73r]
          refine tw_if_ne 45 dX10_till_38 (by decide) (fun c76 => absurd (by decide) c76) (fun _ => ?_)
          refine tw_iconst (v := 1) dX10_till_41 (by decide) ?_
          refine tw_goto 46 dX10_till_42 (by decide) ?_
          refine tw_iconst (v := 2) dX10_till_46 (by decide) ?_
          obtain ⟨e77, f78, th_79, td_80, ds_81, fr_82, ca_83, us_84, wo_85, cm_86, lc_87, lh_88, ld_89, rfl, k90, k91, k92, k93, k94, k95, k96, k97, k98, k99, k100, k101, k102, k103⟩ := sp69.1 x 36 kx (by decide)
          refine tw_bi (tw_callV (M := mX10_till) (pc := 47) okX10_refuse dX10_till_47 w_1204 rfl f78 [.int 1, .int 2] [] rfl rfl ⟨by decide, by decide⟩ (Nat.le_of_ble_eq_true rfl) (c_X10_refuse d g τ h62 sp69.1 x kx 1 2 (by decide)) 0 0 (Nat.le_of_ble_eq_true rfl) (Nat.le_of_ble_eq_true rfl)) (fun r106 h105 q104 => ?_) (fun E h1 q => q.elim)
          obtain ⟨e107, he108, hs109, hr110, h3111⟩ := q104
          have sp112 : tw_sp d τ h g τ h105 := by rw [he108]; exact sp69.set kx (by decide) hs109
          rcases hr110 with ei113 | ⟨ei113, ei113b⟩
          · rw [ei113]
            refine tw_if_eq 55 dX10_till_50 (by decide) (fun c114 => absurd c114 (by decide)) (fun _ => ?_)
            refine tw_iconst (v := 0) dX10_till_53 (by decide) ?_
            exact tw_iret dX10_till_54 rfl (Or.inl ⟨_, rfl, sp112⟩)
          · exact absurd ei113b (by decide)
        · rw [q73r]
          refine tw_if_ne 45 dX10_till_38 (by decide) (fun _ => ?_) (fun c115 => absurd c115 (by decide))
          refine tw_iconst (v := 0) dX10_till_45 (by decide) ?_
          refine tw_iconst (v := 2) dX10_till_46 (by decide) ?_
          obtain ⟨e116, f117, th_118, td_119, ds_120, fr_121, ca_122, us_123, wo_124, cm_125, lc_126, lh_127, ld_128, rfl, k129, k130, k131, k132, k133, k134, k135, k136, k137, k138, k139, k140, k141, k142⟩ := sp69.1 x 36 kx (by decide)
          refine tw_bi (tw_callV (M := mX10_till) (pc := 47) okX10_refuse dX10_till_47 w_1204 rfl f117 [.int 0, .int 2] [] rfl rfl ⟨by decide, by decide⟩ (Nat.le_of_ble_eq_true rfl) (c_X10_refuse d g τ h62 sp69.1 x kx 0 2 (by decide)) 0 0 (Nat.le_of_ble_eq_true rfl) (Nat.le_of_ble_eq_true rfl)) (fun r145 h144 q143 => ?_) (fun E h1 q => q.elim)
          obtain ⟨e146, he147, hs148, hr149, h3150⟩ := q143
          have sp151 : tw_sp d τ h g τ h144 := by rw [he147]; exact sp69.set kx (by decide) hs148
          rcases hr149 with ei152 | ⟨ei152, ei152b⟩
          · rw [ei152]
            refine tw_if_eq 55 dX10_till_50 (by decide) (fun c153 => absurd c153 (by decide)) (fun _ => ?_)
            refine tw_iconst (v := 0) dX10_till_53 (by decide) ?_
            exact tw_iret dX10_till_54 rfl (Or.inl ⟨_, rfl, sp151⟩)
          · rw [ei152]
            refine tw_if_eq 55 dX10_till_50 (by decide) (fun _ => ?_) (fun c154 => absurd (by decide) c154)
            refine tw_aload_n 0 dX10_till_55 rfl rfl ?_
            obtain ⟨e155, f156, th_157, td_158, ds_159, fr_160, ca_161, us_162, wo_163, cm_164, lc_165, lh_166, ld_167, rfl, k168, k169, k170, k171, k172, k173, k174, k175, k176, k177, k178, k179, k180, k181⟩ := sp151.1 x 36 kx (by decide)
            refine tw_get (v := .ref lc_165) rfl in_14 9 dX10_till_56 w_1160 rfl (by decide) f156 rfl ?_
            refine tw_iload_n 1 dX10_till_59 rfl rfl ?_
            obtain ⟨e182, f183, ⟨el184, rfl, k185⟩, k186⟩ := sp151.1 lc_165 24 k174 (by decide)
            refine tw_br (tw_callV (M := mX10_till) (pc := 60) okJx4a65c_get_915e3 dX10_till_60 w_1296 rfl f183 [.int (nI j31)] [] rfl rfl ⟨by decide, by decide⟩ (Nat.le_of_ble_eq_true rfl) (c24_get d g τ h144 sp151.1 lc_165 k174 j31 (by omega) (by omega)) 0 0 (Nat.le_of_ble_eq_true rfl) (Nat.le_of_ble_eq_true rfl)) (fun r189 h188 q187 => ?_) (fun E h1 q => q.elim)
            obtain ⟨q187e, q187k⟩ := q187
            rw [q187e]
            have el190 : tw_el h144 (g.2 12) j31 = r189 := by rw [← k186]; exact q187k.2.symm
            have kl191 : τ (g.2 12) = 24 := by rw [← k186]; exact k174
            obtain ⟨e192, f193, r_194, c_195, v_196, o_197, t_198, rfl, k199, k200, k201, k202, k203⟩ := sp151.1 r189 21 q187k.1 (by decide)
            refine tw_castS (ci := 11) rfl dX10_till_63 w_1212 f193 ?_
            refine tw_get (v := .ref t_198) rfl in_11 4 dX10_till_66 w_1225 rfl (by decide) f193 rfl ?_
            refine tw_iload_n 2 dX10_till_69 rfl rfl ?_
            obtain ⟨e204, f205, F206, rfl, k207⟩ := sp151.1 t_198 33 k201 (by decide)
            obtain ⟨v208, ev208⟩ : ∃ y : Int32, F206 (k).toNatClampNeg = y := ⟨_, rfl⟩
            refine tw_iald (v := v208) dX10_till_70 f205 (tw_irng (N := 5) q45a q45b (by decide) (by decide)) ev208 ?_
            refine tw_istore [(4, .int v208), (0, .ref x), (1, .int (nI j31)), (2, .int k), (3, .int many)] dX10_till_71 (by decide) rfl ?_
            refine tw_aload_n 1 dX10_till_73 rfl rfl ?_
            refine tw_get (v := .ref lc_165) rfl in_14 9 dX10_till_74 w_1160 rfl (by decide) f156 rfl ?_
            refine tw_iload_n 2 dX10_till_77 rfl rfl ?_
            refine tw_br (tw_callV (M := mX10_till) (pc := 78) okJx4a65c_get_915e3 dX10_till_78 w_1296 rfl f183 [.int (nI j31)] [] rfl rfl ⟨by decide, by decide⟩ (Nat.le_of_ble_eq_true rfl) (c24_get d g τ h144 sp151.1 lc_165 k174 j31 (by omega) (by omega)) 0 0 (Nat.le_of_ble_eq_true rfl) (Nat.le_of_ble_eq_true rfl)) (fun r211 h210 q209 => ?_) (fun E h1 q => q.elim)
            obtain ⟨q209e, q209k⟩ := q209
            rw [q209e]
            have q209ky : r211 = r189 := q209k.2.trans (by rw [k186]; exact el190)
            rw [q209ky]
            refine tw_castS (ci := 11) rfl dX10_till_81 w_1212 f193 ?_
            refine tw_get (v := .ref t_198) rfl in_11 4 dX10_till_84 w_1225 rfl (by decide) f193 rfl ?_
            refine tw_iload_n 3 dX10_till_87 rfl rfl ?_
            refine tw_iload_n 4 dX10_till_88 rfl rfl ?_
            refine tw_iast dX10_till_89 f205 (tw_irng (N := 5) q45a q45b (by decide) (by decide)) ?_
            obtain ⟨h212, eh212⟩ : ∃ z : tw_H, z = tw_up h144 t_198 (.inl (d.2 0, 5, .inl (upd F206 (k).toNatClampNeg many))) := ⟨_, rfl⟩
            rw [← eh212]
            have sp213 : tw_sp d τ h g τ h212 := by rw [eh212]; exact sp151.set k201 (by decide) ⟨_, rfl, (tw_tk k207 q73a q73b)⟩
            refine tw_iload 0 dX10_till_90 rfl ?_
            exact tw_iret dX10_till_92 rfl (Or.inl ⟨_, rfl, sp213⟩)

set_option maxHeartbeats 4000000 in
set_option maxRecDepth 100000 in
theorem c_X10_cheaper (d : tw_D) (g : tw_G) (τ : tw_K) (h : tw_H) (hw : tw_wt d g τ h) (x : Nat) (kx : τ x = 36) (y : Nat) (ky : τ y = 22) : tw_Ct d mX10_cheaper 0 0 [.ref x, .ref y] h (tw_qi (fun r h1 => h1 = h) tw_nx) := by
  refine tw_of (by decide +kernel) (Nat.le_of_ble_eq_true rfl) ?_
  show tw_W d mX10_cheaper _ 0 [(0, .ref x), (1, .ref y)] [] h 0 0
  have sp0 := tw_sp.rf hw
  refine tw_aload_n 1 dX10_cheaper_0 rfl rfl ?_
  obtain ⟨e1, f2, v_3, dy_4, pd_5, i_6, j_7, rfl, k8, k9, k10⟩ := sp0.1 y 22 ky (by decide)
  refine tw_get (v := .int pd_5) rfl in_12 4 dX10_cheaper_1 w_1447 rfl (by decide) f2 rfl ?_
  refine tw_if_ne 28 dX10_cheaper_4 (by decide) (fun c11 => ?_) (fun c11 => ?_)
  · refine tw_iconst (v := -1) dX10_cheaper_28 (by decide) ?_
    exact tw_iret dX10_cheaper_29 rfl (Or.inl ⟨_, rfl, rfl⟩)
  · refine tw_aload_n 0 dX10_cheaper_7 rfl rfl ?_
    obtain ⟨e12, f13, th_14, td_15, ds_16, fr_17, ca_18, us_19, wo_20, cm_21, lc_22, lh_23, ld_24, rfl, k25, k26, k27, k28, k29, k30, k31, k32, k33, k34, k35, k36, k37, k38⟩ := sp0.1 x 36 kx (by decide)
    refine tw_get (v := .ref lh_23) rfl in_14 10 dX10_cheaper_8 w_1161 rfl (by decide) f13 rfl ?_
    refine tw_aload_n 1 dX10_cheaper_11 rfl rfl ?_
    refine tw_get (v := .int (nI i_6)) rfl in_12 0 dX10_cheaper_12 w_1443 rfl (by decide) f2 rfl ?_
    obtain ⟨e39, f40, ⟨el41, rfl, k42⟩, k43⟩ := sp0.1 lh_23 25 k32 (by decide)
    refine tw_br (tw_callV (M := mX10_cheaper) (pc := 15) okJx4a65c_get_915e3 dX10_cheaper_15 w_1296 rfl f40 [.int (nI i_6)] [] rfl rfl ⟨by decide, by decide⟩ (Nat.le_of_ble_eq_true rfl) (c25_get d g τ h sp0.1 lh_23 k32 i_6 (by omega) (by omega)) 0 0 (Nat.le_of_ble_eq_true rfl) (Nat.le_of_ble_eq_true rfl)) (fun r46 h45 q44 => ?_) (fun E h1 q => q.elim)
    obtain ⟨q44e, q44k⟩ := q44
    rw [q44e]
    have el47 : tw_el h (g.2 13) i_6 = r46 := by rw [← k43]; exact q44k.2.symm
    have kl48 : τ (g.2 13) = 25 := by rw [← k43]; exact k32
    obtain ⟨e49, f50, x_51, y_52, dy_53, p_54, rfl, k55, k56, k57⟩ := sp0.1 r46 23 q44k.1 (by decide)
    refine tw_castS (ci := 13) rfl dX10_cheaper_18 w_1336 f50 ?_
    refine tw_get (v := .int x_51) rfl in_13 0 dX10_cheaper_21 w_1342 rfl (by decide) f50 rfl ?_
    refine tw_iconst (v := -1) dX10_cheaper_24 (by decide) ?_
    refine tw_icmp_ne 30 dX10_cheaper_25 (by decide) (fun c58 => ?_) (fun c58 => ?_)
    · refine tw_aload_n 0 dX10_cheaper_30 rfl rfl ?_
      refine tw_aload_n 1 dX10_cheaper_31 rfl rfl ?_
      refine tw_iconst (v := 0) dX10_cheaper_32 (by decide) ?_
      obtain ⟨j59, hj60, ej61⟩ := k56.resolve_left c58
      subst ej61
      refine tw_bl (tw_callV (M := mX10_cheaper) (pc := 33) okX10_toPay dX10_cheaper_33 w_1467 rfl f13 [.ref y, .int 0] [] rfl rfl ⟨by decide, by decide⟩ (Nat.le_of_ble_eq_true rfl) (c_X10_toPay d g τ h sp0.1 x kx y ky 0 i_6 j59 (by omega) (by rw [f2]; rfl) (by omega) (by rw [el47, f50]; rfl)) 0 0 (Nat.le_of_ble_eq_true rfl) (Nat.le_of_ble_eq_true rfl)) (fun r64 h63 q62 => ?_) (fun E h1 q => q.elim)
      rw [q62]
      refine tw_aload_n 0 dX10_cheaper_36 rfl rfl ?_
      refine tw_get (v := .int (g.1 1)) rfl in_14 2 dX10_cheaper_37 w_1153 rfl (by decide) f13 rfl ?_
      refine tw_i2l dX10_cheaper_40 ?_
      refine tw_nml (fun v65 ev65 => ?_)
      refine tw_lmul dX10_cheaper_41 ?_
      refine tw_nml (fun v66 ev66 => ?_)
      refine tw_ldc2 (v := 10) dX10_cheaper_42 w_1373 ?_
      refine tw_ldiv dX10_cheaper_45 (by decide) ?_
      refine tw_nml (fun v67 ev67 => ?_)
      refine tw_aload_n 0 dX10_cheaper_46 rfl rfl ?_
      refine tw_aload_n 1 dX10_cheaper_47 rfl rfl ?_
      refine tw_iconst (v := 1) dX10_cheaper_48 (by decide) ?_
      refine tw_bl (tw_callV (M := mX10_cheaper) (pc := 49) okX10_toPay dX10_cheaper_49 w_1467 rfl f13 [.ref y, .int 1] [.long v67] rfl rfl ⟨by decide, by decide⟩ (Nat.le_of_ble_eq_true rfl) (c_X10_toPay d g τ h sp0.1 x kx y ky 1 i_6 j59 (by omega) (by rw [f2]; rfl) (by omega) (by rw [el47, f50]; rfl)) 0 0 (Nat.le_of_ble_eq_true rfl) (Nat.le_of_ble_eq_true rfl)) (fun r70 h69 q68 => ?_) (fun E h1 q => q.elim)
      rw [q68]
      refine tw_lcmp dX10_cheaper_52 ?_
      refine tw_nmi (fun v71 ev71 => ?_)
      refine tw_if_ge 60 dX10_cheaper_53 (by decide) (fun c72 => ?_) (fun c72 => ?_)
      · refine tw_iconst (v := 1) dX10_cheaper_60 (by decide) ?_
        exact tw_iret dX10_cheaper_61 rfl (Or.inl ⟨_, rfl, rfl⟩)
      · refine tw_iconst (v := 0) dX10_cheaper_56 (by decide) ?_
        refine tw_goto 61 dX10_cheaper_57 (by decide) ?_
        exact tw_iret dX10_cheaper_61 rfl (Or.inl ⟨_, rfl, rfl⟩)
    · refine tw_iconst (v := -1) dX10_cheaper_28 (by decide) ?_
      exact tw_iret dX10_cheaper_29 rfl (Or.inl ⟨_, rfl, rfl⟩)

set_option maxHeartbeats 4000000 in
set_option maxRecDepth 100000 in
theorem c_X10_tripNow (d : tw_D) (g : tw_G) (τ : tw_K) (h : tw_H) (hw : tw_wt d g τ h) (x : Nat) (kx : τ x = 36) (m : Int32) (gr : Int64) (a b : Nat) (ha : a < g.2 3) (hb : b < g.2 3) : tw_Ct d mX10_tripNow 0 0 [.ref x, .int (nI a), .int (nI b), .int m, .long gr] h (tw_ql (fun r h1 => h1 = h) tw_nx) := by
  refine tw_of (by decide +kernel) (Nat.le_of_ble_eq_true rfl) ?_
  show tw_W d mX10_tripNow _ 0 [(0, .ref x), (1, .int (nI a)), (2, .int (nI b)), (3, .int m), (4, .long gr)] [] h 0 0
  have sp0 := tw_sp.rf hw
  refine tw_aload_n 0 dX10_tripNow_0 rfl rfl ?_
  obtain ⟨e1, f2, th_3, td_4, ds_5, fr_6, ca_7, us_8, wo_9, cm_10, lc_11, lh_12, ld_13, rfl, k14, k15, k16, k17, k18, k19, k20, k21, k22, k23, k24, k25, k26, k27⟩ := sp0.1 x 36 kx (by decide)
  refine tw_get (v := .ref lc_11) rfl in_14 9 dX10_tripNow_1 w_1160 rfl (by decide) f2 rfl ?_
  refine tw_iload_n 1 dX10_tripNow_4 rfl rfl ?_
  obtain ⟨e28, f29, ⟨el30, rfl, k31⟩, k32⟩ := sp0.1 lc_11 24 k20 (by decide)
  refine tw_br (tw_callV (M := mX10_tripNow) (pc := 5) okJx4a65c_get_915e3 dX10_tripNow_5 w_1296 rfl f29 [.int (nI a)] [] rfl rfl ⟨by decide, by decide⟩ (Nat.le_of_ble_eq_true rfl) (c24_get d g τ h sp0.1 lc_11 k20 a (by omega) (by omega)) 0 0 (Nat.le_of_ble_eq_true rfl) (Nat.le_of_ble_eq_true rfl)) (fun r35 h34 q33 => ?_) (fun E h1 q => q.elim)
  obtain ⟨q33e, q33k⟩ := q33
  rw [q33e]
  have el36 : tw_el h (g.2 12) a = r35 := by rw [← k32]; exact q33k.2.symm
  have kl37 : τ (g.2 12) = 24 := by rw [← k32]; exact k20
  obtain ⟨e38, f39, r_40, c_41, v_42, o_43, t_44, rfl, k45, k46, k47, k48, k49⟩ := sp0.1 r35 21 q33k.1 (by decide)
  refine tw_castS (ci := 11) rfl dX10_tripNow_8 w_1212 f39 ?_
  refine tw_iload_n 3 dX10_tripNow_11 rfl rfl ?_
  refine tw_lload 4 dX10_tripNow_12 rfl ?_
  refine tw_bl (tw_callS (M := mX10_tripNow) (pc := 14) okX10_given dX10_tripNow_14 w_1370 [.ref r35, .int m, .long gr] [] rfl rfl ⟨by decide, by decide⟩ (Nat.le_of_ble_eq_true rfl) (c_X10_given d g τ h sp0.1 r35 q33k.1 m gr) 0 0 (Nat.le_of_ble_eq_true rfl) (Nat.le_of_ble_eq_true rfl)) (fun r52 h51 q50 => ?_) (fun E h1 q => q.elim)
  rw [q50]
  refine tw_lstore [(6, .long r52), (0, .ref x), (1, .int (nI a)), (2, .int (nI b)), (3, .int m), (4, .long gr)] dX10_tripNow_17 (by decide) rfl ?_
  refine tw_lload 0 dX10_tripNow_19 rfl ?_
  refine tw_lload 0 dX10_tripNow_21 rfl ?_
  refine tw_aload_n 1 dX10_tripNow_23 rfl rfl ?_
  refine tw_get (v := .ref fr_6) rfl in_14 4 dX10_tripNow_24 w_1155 rfl (by decide) f2 rfl ?_
  refine tw_iload_n 2 dX10_tripNow_27 rfl rfl ?_
  obtain ⟨e53, f54, F55, rfl, k56⟩ := sp0.1 fr_6 34 k15 (by decide)
  obtain ⟨q57, k58, k59⟩ := k56 ((nI a)).toNatClampNeg (by rw [nI_clamp (by omega)]; omega)
  refine tw_aald (v := .ref q57) 8 rfl rfl dX10_tripNow_28 f54 (vp_in_nI (by omega) (by decide)) (by rw [k58]; rfl) ?_
  refine tw_iload_n 3 dX10_tripNow_29 rfl rfl ?_
  obtain ⟨e60, f61, F62, rfl⟩ := sp0.1 q57 6 k59 (by decide)
  obtain ⟨v63, ev63⟩ : ∃ y : Int32, F62 ((nI b)).toNatClampNeg = y := ⟨_, rfl⟩
  refine tw_iald (v := v63) dX10_tripNow_30 f61 (vp_in_nI (by omega) (by decide)) ev63 ?_
  refine tw_i2l dX10_tripNow_31 ?_
  refine tw_nml (fun v64 ev64 => ?_)
  refine tw_lmul dX10_tripNow_32 ?_
  refine tw_nml (fun v65 ev65 => ?_)
  refine tw_ldc2 (v := 1000) dX10_tripNow_33 w_1374 ?_
  refine tw_bl (tw_callS (M := mX10_tripNow) (pc := 36) okX10_up dX10_tripNow_36 w_1375 [.long v65, .long 1000] [.long r52] rfl rfl ⟨by decide, by decide⟩ (Nat.le_of_ble_eq_true rfl) (c_X10_up d g τ h sp0.1 v65 1000 (by decide)) 0 0 (Nat.le_of_ble_eq_true rfl) (Nat.le_of_ble_eq_true rfl)) (fun r68 h67 q66 => ?_) (fun E h1 q => q.elim)
  rw [q66]
  refine tw_lsub dX10_tripNow_39 ?_
  refine tw_nml (fun v69 ev69 => ?_)
  refine tw_lstore [(6, .long v69), (0, .ref x), (1, .int (nI a)), (2, .int (nI b)), (3, .int m), (4, .long gr)] dX10_tripNow_40 (by decide) rfl ?_
  refine tw_aload_n 1 dX10_tripNow_42 rfl rfl ?_
  refine tw_get (v := .ref lc_11) rfl in_14 9 dX10_tripNow_43 w_1160 rfl (by decide) f2 rfl ?_
  refine tw_iload_n 3 dX10_tripNow_46 rfl rfl ?_
  refine tw_br (tw_callV (M := mX10_tripNow) (pc := 47) okJx4a65c_get_915e3 dX10_tripNow_47 w_1296 rfl f29 [.int (nI b)] [] rfl rfl ⟨by decide, by decide⟩ (Nat.le_of_ble_eq_true rfl) (c24_get d g τ h sp0.1 lc_11 k20 b (by omega) (by omega)) 0 0 (Nat.le_of_ble_eq_true rfl) (Nat.le_of_ble_eq_true rfl)) (fun r72 h71 q70 => ?_) (fun E h1 q => q.elim)
  obtain ⟨q70e, q70k⟩ := q70
  rw [q70e]
  have el73 : tw_el h (g.2 12) b = r72 := by rw [← k32]; exact q70k.2.symm
  have kl74 : τ (g.2 12) = 24 := by rw [← k32]; exact k20
  obtain ⟨e75, f76, r_77, c_78, v_79, o_80, t_81, rfl, k82, k83, k84, k85, k86⟩ := sp0.1 r72 21 q70k.1 (by decide)
  refine tw_castS (ci := 11) rfl dX10_tripNow_50 w_1212 f76 ?_
  refine tw_iconst (v := 1) dX10_tripNow_53 (by decide) ?_
  refine tw_iload_n 4 dX10_tripNow_54 rfl rfl ?_
  refine tw_isub dX10_tripNow_55 ?_
  refine tw_nmi (fun v87 ev87 => ?_)
  refine tw_lload 0 dX10_tripNow_56 rfl ?_
  refine tw_bl (tw_callS (M := mX10_tripNow) (pc := 58) okX10_given dX10_tripNow_58 w_1370 [.ref r72, .int v87, .long v69] [] rfl rfl ⟨by decide, by decide⟩ (Nat.le_of_ble_eq_true rfl) (c_X10_given d g τ h sp0.1 r72 q70k.1 v87 v69) 0 0 (Nat.le_of_ble_eq_true rfl) (Nat.le_of_ble_eq_true rfl)) (fun r90 h89 q88 => ?_) (fun E h1 q => q.elim)
  rw [q88]
  refine tw_lstore [(8, .long r90), (6, .long v69), (0, .ref x), (1, .int (nI a)), (2, .int (nI b)), (3, .int m), (4, .long gr)] dX10_tripNow_61 (by decide) rfl ?_
  refine tw_lload 0 dX10_tripNow_63 rfl ?_
  refine tw_lload 0 dX10_tripNow_65 rfl ?_
  refine tw_aload_n 2 dX10_tripNow_67 rfl rfl ?_
  refine tw_get (v := .ref fr_6) rfl in_14 4 dX10_tripNow_68 w_1155 rfl (by decide) f2 rfl ?_
  refine tw_iload_n 4 dX10_tripNow_71 rfl rfl ?_
  obtain ⟨q91, k92, k93⟩ := k56 ((nI b)).toNatClampNeg (by rw [nI_clamp (by omega)]; omega)
  refine tw_aald (v := .ref q91) 8 rfl rfl dX10_tripNow_72 f54 (vp_in_nI (by omega) (by decide)) (by rw [k92]; rfl) ?_
  refine tw_iload_n 3 dX10_tripNow_73 rfl rfl ?_
  obtain ⟨e94, f95, F96, rfl⟩ := sp0.1 q91 6 k93 (by decide)
  obtain ⟨v97, ev97⟩ : ∃ y : Int32, F96 ((nI a)).toNatClampNeg = y := ⟨_, rfl⟩
  refine tw_iald (v := v97) dX10_tripNow_74 f95 (vp_in_nI (by omega) (by decide)) ev97 ?_
  refine tw_i2l dX10_tripNow_75 ?_
  refine tw_nml (fun v98 ev98 => ?_)
  refine tw_lmul dX10_tripNow_76 ?_
  refine tw_nml (fun v99 ev99 => ?_)
  refine tw_ldc2 (v := 1000) dX10_tripNow_77 w_1374 ?_
  refine tw_bl (tw_callS (M := mX10_tripNow) (pc := 80) okX10_up dX10_tripNow_80 w_1375 [.long v99, .long 1000] [.long r90] rfl rfl ⟨by decide, by decide⟩ (Nat.le_of_ble_eq_true rfl) (c_X10_up d g τ h sp0.1 v99 1000 (by decide)) 0 0 (Nat.le_of_ble_eq_true rfl) (Nat.le_of_ble_eq_true rfl)) (fun r102 h101 q100 => ?_) (fun E h1 q => q.elim)
  rw [q100]
  refine tw_lsub dX10_tripNow_83 ?_
  refine tw_nml (fun v103 ev103 => ?_)
  exact tw_lret dX10_tripNow_84 rfl (Or.inl ⟨_, rfl, rfl⟩)

/-! the class's methods over the typed heap. Laid by wip/p5/mkclass.py. -/
set_option maxHeartbeats 4000000 in
set_option maxRecDepth 100000 in
theorem c_X10_trip (d : tw_D) (g : tw_G) (τ : tw_K) (h : tw_H) (hw : tw_wt d g τ h) (x : Nat) (kx : τ x = 36) (a : Int32) (b : Int32) (m : Int32) (gr : Int32) : tw_Ct d mX10_trip 0 0 [.ref x, .int a, .int b, .int m, .int gr] h (tw_qi (fun r h1 => tw_sp d τ h g τ h1) tw_nx) := by
  refine tw_of (by decide +kernel) (Nat.le_of_ble_eq_true rfl) ?_
  show tw_W d mX10_trip _ 0 [(0, .ref x), (1, .int a), (2, .int b), (3, .int m), (4, .int gr)] [] h 0 0
  have sp0 := tw_sp.rf hw
  refine tw_aload_n 0 dX10_trip_0 rfl rfl ?_
  refine tw_aload_n 0 dX10_trip_1 rfl rfl ?_
  refine tw_iload_n 1 dX10_trip_2 rfl rfl ?_
  obtain ⟨e1, f2, th_3, td_4, ds_5, fr_6, ca_7, us_8, wo_9, cm_10, lc_11, lh_12, ld_13, rfl, k14, k15, k16, k17, k18, k19, k20, k21, k22, k23, k24, k25, k26, k27, k28, k29⟩ := sp0.1 x 36 kx (by decide)
  refine tw_bi (tw_callV (M := mX10_trip) (pc := 3) okX10_isNoCountry dX10_trip_3 w_1292 rfl f2 [.int a] [.ref x] rfl rfl ⟨by decide, by decide⟩ (Nat.le_of_ble_eq_true rfl) (c_X10_isNoCountry d g τ h sp0.1 x kx a) 0 0 (Nat.le_of_ble_eq_true rfl) (Nat.le_of_ble_eq_true rfl)) (fun r32 h31 q30 => ?_) (fun E h1 q => q.elim)
  obtain ⟨q30e, q30d⟩ := q30
  rw [q30e]
  rcases q30d with q30r | ⟨q30r, j33, q30j, q30k⟩
  · rw [q30r]
    refine tw_if_ne 17 dX10_trip_6 (by decide) (fun _ => ?_) (fun c34 => absurd c34 (by decide))
    refine tw_iconst (v := 1) dX10_trip_17 (by decide) ?_
    refine tw_goto 22 dX10_trip_18 (by decide) ?_
    refine tw_iconst (v := 1) dX10_trip_22 (by decide) ?_
    refine tw_bi (tw_callV (M := mX10_trip) (pc := 23) okX10_start dX10_trip_23 w_1200 rfl f2 [.int 1, .int 1] [] rfl rfl ⟨by decide, by decide⟩ (Nat.le_of_ble_eq_true rfl) (c_X10_start d g τ h sp0.1 x kx 1 1 (by decide)) 0 0 (Nat.le_of_ble_eq_true rfl) (Nat.le_of_ble_eq_true rfl)) (fun r37 h36 q35 => ?_) (fun E h1 q => q.elim)
    obtain ⟨e38, he39, hs40, hr41, h342⟩ := q35
    have sp43 : tw_sp d τ h g τ h36 := by rw [he39]; exact sp0.set kx (by decide) hs40
    rcases hr41 with ei44 | ⟨ei44, ei44b⟩
    · rw [ei44]
      refine tw_if_ne 65 dX10_trip_26 (by decide) (fun _ => ?_) (fun c45 => absurd c45 (by decide))
      refine tw_iconst (v := 0) dX10_trip_65 (by decide) ?_
      refine tw_goto 80 dX10_trip_66 (by decide) ?_
      exact tw_iret dX10_trip_80 rfl (Or.inl ⟨_, rfl, sp43⟩)
    · exact absurd ei44b (by decide)
  · rw [q30r]
    subst q30k
    refine tw_if_ne 17 dX10_trip_6 (by decide) (fun c46 => absurd (by decide) c46) (fun _ => ?_)
    refine tw_aload_n 0 dX10_trip_9 rfl rfl ?_
    refine tw_iload_n 2 dX10_trip_10 rfl rfl ?_
    refine tw_bi (tw_callV (M := mX10_trip) (pc := 11) okX10_isNoCountry dX10_trip_11 w_1292 rfl f2 [.int b] [.ref x] rfl rfl ⟨by decide, by decide⟩ (Nat.le_of_ble_eq_true rfl) (c_X10_isNoCountry d g τ h sp0.1 x kx b) 0 0 (Nat.le_of_ble_eq_true rfl) (Nat.le_of_ble_eq_true rfl)) (fun r49 h48 q47 => ?_) (fun E h1 q => q.elim)
    obtain ⟨q47e, q47d⟩ := q47
    rw [q47e]
    rcases q47d with q47r | ⟨q47r, j50, q47j, q47k⟩
    · rw [q47r]
      refine tw_if_eq 21 dX10_trip_14 (by decide) (fun c51 => absurd c51 (by decide)) (fun _ => ?_)
      refine tw_iconst (v := 1) dX10_trip_17 (by decide) ?_
      refine tw_goto 22 dX10_trip_18 (by decide) ?_
      refine tw_iconst (v := 1) dX10_trip_22 (by decide) ?_
      refine tw_bi (tw_callV (M := mX10_trip) (pc := 23) okX10_start dX10_trip_23 w_1200 rfl f2 [.int 1, .int 1] [] rfl rfl ⟨by decide, by decide⟩ (Nat.le_of_ble_eq_true rfl) (c_X10_start d g τ h sp0.1 x kx 1 1 (by decide)) 0 0 (Nat.le_of_ble_eq_true rfl) (Nat.le_of_ble_eq_true rfl)) (fun r54 h53 q52 => ?_) (fun E h1 q => q.elim)
      obtain ⟨e55, he56, hs57, hr58, h359⟩ := q52
      have sp60 : tw_sp d τ h g τ h53 := by rw [he56]; exact sp0.set kx (by decide) hs57
      rcases hr58 with ei61 | ⟨ei61, ei61b⟩
      · rw [ei61]
        refine tw_if_ne 65 dX10_trip_26 (by decide) (fun _ => ?_) (fun c62 => absurd c62 (by decide))
        refine tw_iconst (v := 0) dX10_trip_65 (by decide) ?_
        refine tw_goto 80 dX10_trip_66 (by decide) ?_
        exact tw_iret dX10_trip_80 rfl (Or.inl ⟨_, rfl, sp60⟩)
      · exact absurd ei61b (by decide)
    · rw [q47r]
      subst q47k
      refine tw_if_eq 21 dX10_trip_14 (by decide) (fun _ => ?_) (fun c63 => absurd (by decide) c63)
      refine tw_iconst (v := 0) dX10_trip_21 (by decide) ?_
      refine tw_iconst (v := 1) dX10_trip_22 (by decide) ?_
      refine tw_bi (tw_callV (M := mX10_trip) (pc := 23) okX10_start dX10_trip_23 w_1200 rfl f2 [.int 0, .int 1] [] rfl rfl ⟨by decide, by decide⟩ (Nat.le_of_ble_eq_true rfl) (c_X10_start d g τ h sp0.1 x kx 0 1 (by decide)) 0 0 (Nat.le_of_ble_eq_true rfl) (Nat.le_of_ble_eq_true rfl)) (fun r66 h65 q64 => ?_) (fun E h1 q => q.elim)
      obtain ⟨e67, he68, hs69, hr70, h371⟩ := q64
      have sp72 : tw_sp d τ h g τ h65 := by rw [he68]; exact sp0.set kx (by decide) hs69
      rcases hr70 with ei73 | ⟨ei73, ei73b⟩
      · rw [ei73]
        refine tw_if_ne 65 dX10_trip_26 (by decide) (fun _ => ?_) (fun c74 => absurd c74 (by decide))
        refine tw_iconst (v := 0) dX10_trip_65 (by decide) ?_
        refine tw_goto 80 dX10_trip_66 (by decide) ?_
        exact tw_iret dX10_trip_80 rfl (Or.inl ⟨_, rfl, sp72⟩)
      · rw [ei73]
        refine tw_if_ne 65 dX10_trip_26 (by decide) (fun c75 => absurd (by decide) c75) (fun _ => ?_)
        refine tw_aload_n 0 dX10_trip_29 rfl rfl ?_
        refine tw_iload_n 1 dX10_trip_30 rfl rfl ?_
        refine tw_iload_n 2 dX10_trip_31 rfl rfl ?_
        refine tw_icmp_eq 53 dX10_trip_32 (by decide) (fun c76 => ?_) (fun c76 => ?_)
        · refine tw_iconst (v := 1) dX10_trip_53 (by decide) ?_
          refine tw_goto 58 dX10_trip_54 (by decide) ?_
          refine tw_iconst (v := 2) dX10_trip_58 (by decide) ?_
          obtain ⟨e77, f78, th_79, td_80, ds_81, fr_82, ca_83, us_84, wo_85, cm_86, lc_87, lh_88, ld_89, rfl, k90, k91, k92, k93, k94, k95, k96, k97, k98, k99, k100, k101, k102, k103, k104, k105⟩ := sp72.1 x 36 kx (by decide)
          refine tw_bi (tw_callV (M := mX10_trip) (pc := 59) okX10_refuse dX10_trip_59 w_1204 rfl f78 [.int 1, .int 2] [] rfl rfl ⟨by decide, by decide⟩ (Nat.le_of_ble_eq_true rfl) (c_X10_refuse d g τ h65 sp72.1 x kx 1 2 (by decide)) 0 0 (Nat.le_of_ble_eq_true rfl) (Nat.le_of_ble_eq_true rfl)) (fun r108 h107 q106 => ?_) (fun E h1 q => q.elim)
          obtain ⟨e109, he110, hs111, hr112, h3113⟩ := q106
          have sp114 : tw_sp d τ h g τ h107 := by rw [he110]; exact sp72.set kx (by decide) hs111
          rcases hr112 with ei115 | ⟨ei115, ei115b⟩
          · rw [ei115]
            refine tw_if_eq 69 dX10_trip_62 (by decide) (fun c116 => absurd c116 (by decide)) (fun _ => ?_)
            refine tw_iconst (v := 0) dX10_trip_65 (by decide) ?_
            refine tw_goto 80 dX10_trip_66 (by decide) ?_
            exact tw_iret dX10_trip_80 rfl (Or.inl ⟨_, rfl, sp114⟩)
          · exact absurd ei115b (by decide)
        · refine tw_iload_n 3 dX10_trip_35 rfl rfl ?_
          refine tw_bi (tw_callS (M := mX10_trip) (pc := 36) okX10_isNoMetal dX10_trip_36 w_1312 [.int m] [.ref x] rfl rfl ⟨by decide, by decide⟩ (Nat.le_of_ble_eq_true rfl) (c_X10_isNoMetal d g τ h65 sp72.1 m) 0 0 (Nat.le_of_ble_eq_true rfl) (Nat.le_of_ble_eq_true rfl)) (fun r119 h118 q117 => ?_) (fun E h1 q => q.elim)
          obtain ⟨q117e, q117d⟩ := q117
          rw [q117e]
          rcases q117d with q117r | ⟨q117r, q117m⟩
          · rw [q117r]
            refine tw_if_ne 53 dX10_trip_39 (by decide) (fun _ => ?_) (fun c120 => absurd c120 (by decide))
            refine tw_iconst (v := 1) dX10_trip_53 (by decide) ?_
            refine tw_goto 58 dX10_trip_54 (by decide) ?_
            refine tw_iconst (v := 2) dX10_trip_58 (by decide) ?_
            obtain ⟨e121, f122, th_123, td_124, ds_125, fr_126, ca_127, us_128, wo_129, cm_130, lc_131, lh_132, ld_133, rfl, k134, k135, k136, k137, k138, k139, k140, k141, k142, k143, k144, k145, k146, k147, k148, k149⟩ := sp72.1 x 36 kx (by decide)
            refine tw_bi (tw_callV (M := mX10_trip) (pc := 59) okX10_refuse dX10_trip_59 w_1204 rfl f122 [.int 1, .int 2] [] rfl rfl ⟨by decide, by decide⟩ (Nat.le_of_ble_eq_true rfl) (c_X10_refuse d g τ h65 sp72.1 x kx 1 2 (by decide)) 0 0 (Nat.le_of_ble_eq_true rfl) (Nat.le_of_ble_eq_true rfl)) (fun r152 h151 q150 => ?_) (fun E h1 q => q.elim)
            obtain ⟨e153, he154, hs155, hr156, h3157⟩ := q150
            have sp158 : tw_sp d τ h g τ h151 := by rw [he154]; exact sp72.set kx (by decide) hs155
            rcases hr156 with ei159 | ⟨ei159, ei159b⟩
            · rw [ei159]
              refine tw_if_eq 69 dX10_trip_62 (by decide) (fun c160 => absurd c160 (by decide)) (fun _ => ?_)
              refine tw_iconst (v := 0) dX10_trip_65 (by decide) ?_
              refine tw_goto 80 dX10_trip_66 (by decide) ?_
              exact tw_iret dX10_trip_80 rfl (Or.inl ⟨_, rfl, sp158⟩)
            · exact absurd ei159b (by decide)
          · rw [q117r]
            refine tw_if_ne 53 dX10_trip_39 (by decide) (fun c161 => absurd (by decide) c161) (fun _ => ?_)
            refine tw_iload 4 dX10_trip_42 rfl ?_
            refine tw_iconst (v := 0) dX10_trip_44 (by decide) ?_
            refine tw_ldc (v := 99999) dX10_trip_45 w_1199 ?_
            refine tw_bi (tw_callS (M := mX10_trip) (pc := 47) okX10_isIn dX10_trip_47 w_1196 [.int gr, .int 0, .int 99999] [.ref x] rfl rfl ⟨by decide, by decide⟩ (Nat.le_of_ble_eq_true rfl) (c_X10_isIn d g τ h65 sp72.1 gr 0 99999) 0 0 (Nat.le_of_ble_eq_true rfl) (Nat.le_of_ble_eq_true rfl)) (fun r164 h163 q162 => ?_) (fun E h1 q => q.elim)
            obtain ⟨q162e, q162d⟩ := q162
            rw [q162e]
            rcases q162d with ⟨q162r, q162n⟩ | ⟨q162r, q162a, q162b⟩
            · rw [q162r]
              refine tw_if_ne 57 dX10_trip_50 (by decide) (fun c165 => absurd (by decide) c165) (fun _ => ?_)
              refine tw_iconst (v := 1) dX10_trip_53 (by decide) ?_
              refine tw_goto 58 dX10_trip_54 (by decide) ?_
              refine tw_iconst (v := 2) dX10_trip_58 (by decide) ?_
              obtain ⟨e166, f167, th_168, td_169, ds_170, fr_171, ca_172, us_173, wo_174, cm_175, lc_176, lh_177, ld_178, rfl, k179, k180, k181, k182, k183, k184, k185, k186, k187, k188, k189, k190, k191, k192, k193, k194⟩ := sp72.1 x 36 kx (by decide)
              refine tw_bi (tw_callV (M := mX10_trip) (pc := 59) okX10_refuse dX10_trip_59 w_1204 rfl f167 [.int 1, .int 2] [] rfl rfl ⟨by decide, by decide⟩ (Nat.le_of_ble_eq_true rfl) (c_X10_refuse d g τ h65 sp72.1 x kx 1 2 (by decide)) 0 0 (Nat.le_of_ble_eq_true rfl) (Nat.le_of_ble_eq_true rfl)) (fun r197 h196 q195 => ?_) (fun E h1 q => q.elim)
              obtain ⟨e198, he199, hs200, hr201, h3202⟩ := q195
              have sp203 : tw_sp d τ h g τ h196 := by rw [he199]; exact sp72.set kx (by decide) hs200
              rcases hr201 with ei204 | ⟨ei204, ei204b⟩
              · rw [ei204]
                refine tw_if_eq 69 dX10_trip_62 (by decide) (fun c205 => absurd c205 (by decide)) (fun _ => ?_)
                refine tw_iconst (v := 0) dX10_trip_65 (by decide) ?_
                refine tw_goto 80 dX10_trip_66 (by decide) ?_
                exact tw_iret dX10_trip_80 rfl (Or.inl ⟨_, rfl, sp203⟩)
              · exact absurd ei204b (by decide)
            · rw [q162r]
              refine tw_if_ne 57 dX10_trip_50 (by decide) (fun _ => ?_) (fun c206 => absurd c206 (by decide))
              refine tw_iconst (v := 0) dX10_trip_57 (by decide) ?_
              refine tw_iconst (v := 2) dX10_trip_58 (by decide) ?_
              obtain ⟨e207, f208, th_209, td_210, ds_211, fr_212, ca_213, us_214, wo_215, cm_216, lc_217, lh_218, ld_219, rfl, k220, k221, k222, k223, k224, k225, k226, k227, k228, k229, k230, k231, k232, k233, k234, k235⟩ := sp72.1 x 36 kx (by decide)
              refine tw_bi (tw_callV (M := mX10_trip) (pc := 59) okX10_refuse dX10_trip_59 w_1204 rfl f208 [.int 0, .int 2] [] rfl rfl ⟨by decide, by decide⟩ (Nat.le_of_ble_eq_true rfl) (c_X10_refuse d g τ h65 sp72.1 x kx 0 2 (by decide)) 0 0 (Nat.le_of_ble_eq_true rfl) (Nat.le_of_ble_eq_true rfl)) (fun r238 h237 q236 => ?_) (fun E h1 q => q.elim)
              obtain ⟨e239, he240, hs241, hr242, h3243⟩ := q236
              have sp244 : tw_sp d τ h g τ h237 := by rw [he240]; exact sp72.set kx (by decide) hs241
              rcases hr242 with ei245 | ⟨ei245, ei245b⟩
              · rw [ei245]
                refine tw_if_eq 69 dX10_trip_62 (by decide) (fun c246 => absurd c246 (by decide)) (fun _ => ?_)
                refine tw_iconst (v := 0) dX10_trip_65 (by decide) ?_
                refine tw_goto 80 dX10_trip_66 (by decide) ?_
                exact tw_iret dX10_trip_80 rfl (Or.inl ⟨_, rfl, sp244⟩)
              · rw [ei245]
                refine tw_if_eq 69 dX10_trip_62 (by decide) (fun _ => ?_) (fun c247 => absurd (by decide) c247)
                refine tw_aload_n 0 dX10_trip_69 rfl rfl ?_
                refine tw_iload_n 1 dX10_trip_70 rfl rfl ?_
                refine tw_iload_n 2 dX10_trip_71 rfl rfl ?_
                refine tw_iload_n 3 dX10_trip_72 rfl rfl ?_
                refine tw_iload 4 dX10_trip_73 rfl ?_
                refine tw_i2l dX10_trip_75 ?_
                refine tw_nml (fun v248 ev248 => ?_)
                obtain ⟨e249, f250, th_251, td_252, ds_253, fr_254, ca_255, us_256, wo_257, cm_258, lc_259, lh_260, ld_261, rfl, k262, k263, k264, k265, k266, k267, k268, k269, k270, k271, k272, k273, k274, k275, k276, k277⟩ := sp244.1 x 36 kx (by decide)
                refine tw_bl (tw_callV (M := mX10_trip) (pc := 76) okX10_tripNow dX10_trip_76 w_1557 rfl f250 [.int (nI j33), .int (nI j50), .int m, .long v248] [] rfl rfl ⟨by decide, by decide⟩ (Nat.le_of_ble_eq_true rfl) (c_X10_tripNow d g τ h237 sp244.1 x kx m v248 j33 j50 (by omega) (by omega)) 0 0 (Nat.le_of_ble_eq_true rfl) (Nat.le_of_ble_eq_true rfl)) (fun r280 h279 q278 => ?_) (fun E h1 q => q.elim)
                rw [q278]
                refine tw_l2i dX10_trip_79 ?_
                refine tw_nmi (fun v281 ev281 => ?_)
                exact tw_iret dX10_trip_80 rfl (Or.inl ⟨_, rfl, sp244⟩)

set_option maxHeartbeats 4000000 in
set_option maxRecDepth 100000 in
theorem c_X10_bestTripNow (d : tw_D) (g : tw_G) (τ : tw_K) (h : tw_H) (hw : tw_wt d g τ h) (x : Nat) (kx : τ x = 36) (m : Int32) (gr : Int32) (a : Nat) (ha : a < g.2 3) : tw_Ct d mX10_bestTripNow 0 0 [.ref x, .int (nI a), .int m, .int gr] h (tw_qi (fun r h1 => h1 = h) tw_nx) := by
  refine tw_of (by decide +kernel) (Nat.le_of_ble_eq_true rfl) ?_
  show tw_W d mX10_bestTripNow _ 0 [(0, .ref x), (1, .int (nI a)), (2, .int m), (3, .int gr)] [] h 0 0
  have sp0 := tw_sp.rf hw
  refine tw_iconst (v := -1) dX10_bestTripNow_0 (by decide) ?_
  refine tw_istore [(4, .int (-1)), (0, .ref x), (1, .int (nI a)), (2, .int m), (3, .int gr)] dX10_bestTripNow_1 (by decide) rfl ?_
  refine tw_iconst (v := 0) dX10_bestTripNow_3 (by decide) ?_
  refine tw_istore [(5, .int 0), (4, .int (-1)), (0, .ref x), (1, .int (nI a)), (2, .int m), (3, .int gr)] dX10_bestTripNow_4 (by decide) rfl ?_
  have L5 : ∀ (r3 k2 : Nat) (x1 : Int32) (li8 : (x1 = -1 ∨ ∃ i, i < g.2 3 ∧ x1 = nI i)), (g.2 3) + 1 ≤ k2 + r3 → k2 ≤ (g.2 3) → tw_W d mX10_bestTripNow (tw_qi (fun r h1 => h1 = h) tw_nx) 6 [(0, .ref x), (1, .int (nI a)), (2, .int m), (3, .int gr), (4, .int x1), (5, .int (nI k2))] [] h 0 0 := by
    intro r3
    induction r3 with
    | zero => intro k2 x1 li8 hk9 hk10; exact absurd hk9 (by omega)
    | succ r3 ih4 =>
      intro k2 x1 li8 hk9 hk10
      refine tw_iload 5 dX10_bestTripNow_6 rfl ?_
      refine tw_aload_n 0 dX10_bestTripNow_8 rfl rfl ?_
      obtain ⟨e11, f12, th_13, td_14, ds_15, fr_16, ca_17, us_18, wo_19, cm_20, lc_21, lh_22, ld_23, rfl, k24, k25, k26, k27, k28, k29, k30, k31, k32, k33, k34, k35, k36, k37, k38, k39⟩ := sp0.1 x 36 kx (by decide)
      refine tw_get (v := .ref lc_21) rfl in_14 9 dX10_bestTripNow_9 w_1160 rfl (by decide) f12 rfl ?_
      obtain ⟨e40, f41, ⟨el42, rfl, k43⟩, k44⟩ := sp0.1 lc_21 24 k30 (by decide)
      refine tw_bi (tw_callV (M := mX10_bestTripNow) (pc := 12) okJx4a65c_size_8abf5 dX10_bestTripNow_12 w_1208 rfl f41 [] [.int (nI k2)] rfl rfl ⟨by decide, by decide⟩ (Nat.le_of_ble_eq_true rfl) (c24_size d g τ h sp0.1 lc_21 k30) 0 0 (Nat.le_of_ble_eq_true rfl) (Nat.le_of_ble_eq_true rfl)) (fun r47 h46 q45 => ?_) (fun E h1 q => q.elim)
      obtain ⟨q45e, q45r⟩ := q45
      rw [q45e, q45r]
      refine tw_icmp_ge 83 dX10_bestTripNow_15 (by decide) (fun c48 => ?_) (fun c48 => ?_)
      · refine tw_iload 4 dX10_bestTripNow_83 rfl ?_
        exact tw_iret dX10_bestTripNow_85 rfl (Or.inl ⟨_, rfl, rfl⟩)
      · have kl49 : k2 < (g.2 3) := tw_klt (N := (g.2 3)) c48 hk10 (by omega)
        refine tw_iload 5 dX10_bestTripNow_18 rfl ?_
        refine tw_iload_n 1 dX10_bestTripNow_20 rfl rfl ?_
        refine tw_icmp_eq 77 dX10_bestTripNow_21 (by decide) (fun c50 => ?_) (fun c50 => ?_)
        · obtain ⟨v51, ev51⟩ : ∃ y : Int32, y = (nI k2) + 1 := ⟨_, rfl⟩
          refine tw_iinc [(5, .int v51), (0, .ref x), (1, .int (nI a)), (2, .int m), (3, .int gr), (4, .int x1)] 5 dX10_bestTripNow_77 rfl (by rw [ev51]; rfl) (by decide) rfl ?_
          refine tw_goto 6 dX10_bestTripNow_80 (by decide) ?_
          have qv51 := tw_nI3 ev51
          rw [qv51]
          refine tw_lv [1, 2, 3, 4, 5, 0] rfl ?_
          exact ih4 (k2 + 1) x1 (li8) (by omega) (by omega)
        · refine tw_aload_n 0 dX10_bestTripNow_24 rfl rfl ?_
          refine tw_iload_n 1 dX10_bestTripNow_25 rfl rfl ?_
          refine tw_iload 5 dX10_bestTripNow_26 rfl ?_
          refine tw_iload_n 2 dX10_bestTripNow_28 rfl rfl ?_
          refine tw_iload_n 3 dX10_bestTripNow_29 rfl rfl ?_
          refine tw_i2l dX10_bestTripNow_30 ?_
          refine tw_nml (fun v52 ev52 => ?_)
          refine tw_bl (tw_callV (M := mX10_bestTripNow) (pc := 31) okX10_tripNow dX10_bestTripNow_31 w_1557 rfl f12 [.int (nI a), .int (nI k2), .int m, .long v52] [] rfl rfl ⟨by decide, by decide⟩ (Nat.le_of_ble_eq_true rfl) (c_X10_tripNow d g τ h sp0.1 x kx m v52 a k2 (by omega) (by omega)) 0 0 (Nat.le_of_ble_eq_true rfl) (Nat.le_of_ble_eq_true rfl)) (fun r55 h54 q53 => ?_) (fun E h1 q => q.elim)
          rw [q53]
          refine tw_iload_n 3 dX10_bestTripNow_34 rfl rfl ?_
          refine tw_i2l dX10_bestTripNow_35 ?_
          refine tw_nml (fun v56 ev56 => ?_)
          refine tw_lcmp dX10_bestTripNow_36 ?_
          refine tw_nmi (fun v57 ev57 => ?_)
          refine tw_if_gt 43 dX10_bestTripNow_37 (by decide) (fun c58 => ?_) (fun c58 => ?_)
          · refine tw_iload 4 dX10_bestTripNow_43 rfl ?_
            refine tw_iconst (v := -1) dX10_bestTripNow_45 (by decide) ?_
            refine tw_icmp_eq 73 dX10_bestTripNow_46 (by decide) (fun c59 => ?_) (fun c59 => ?_)
            · refine tw_iload 5 dX10_bestTripNow_73 rfl ?_
              refine tw_istore [(4, .int (nI k2)), (0, .ref x), (1, .int (nI a)), (2, .int m), (3, .int gr), (5, .int (nI k2))] dX10_bestTripNow_75 (by decide) rfl ?_
              obtain ⟨v60, ev60⟩ : ∃ y : Int32, y = (nI k2) + 1 := ⟨_, rfl⟩
              refine tw_iinc [(5, .int v60), (4, .int (nI k2)), (0, .ref x), (1, .int (nI a)), (2, .int m), (3, .int gr)] 5 dX10_bestTripNow_77 rfl (by rw [ev60]; rfl) (by decide) rfl ?_
              refine tw_goto 6 dX10_bestTripNow_80 (by decide) ?_
              have qv60 := tw_nI3 ev60
              rw [qv60]
              refine tw_lv [2, 3, 4, 5, 1, 0] rfl ?_
              exact ih4 (k2 + 1) (nI k2) (Or.inr ⟨_, by omega, rfl⟩) (by omega) (by omega)
            · refine tw_aload_n 0 dX10_bestTripNow_49 rfl rfl ?_
              refine tw_iload_n 1 dX10_bestTripNow_50 rfl rfl ?_
              refine tw_iload 5 dX10_bestTripNow_51 rfl ?_
              refine tw_iload_n 2 dX10_bestTripNow_53 rfl rfl ?_
              refine tw_iload_n 3 dX10_bestTripNow_54 rfl rfl ?_
              refine tw_i2l dX10_bestTripNow_55 ?_
              refine tw_nml (fun v61 ev61 => ?_)
              refine tw_bl (tw_callV (M := mX10_bestTripNow) (pc := 56) okX10_tripNow dX10_bestTripNow_56 w_1557 rfl f12 [.int (nI a), .int (nI k2), .int m, .long v61] [] rfl rfl ⟨by decide, by decide⟩ (Nat.le_of_ble_eq_true rfl) (c_X10_tripNow d g τ h sp0.1 x kx m v61 a k2 (by omega) (by omega)) 0 0 (Nat.le_of_ble_eq_true rfl) (Nat.le_of_ble_eq_true rfl)) (fun r64 h63 q62 => ?_) (fun E h1 q => q.elim)
              rw [q62]
              refine tw_aload_n 0 dX10_bestTripNow_59 rfl rfl ?_
              refine tw_iload_n 1 dX10_bestTripNow_60 rfl rfl ?_
              refine tw_iload 4 dX10_bestTripNow_61 rfl ?_
              refine tw_iload_n 2 dX10_bestTripNow_63 rfl rfl ?_
              refine tw_iload_n 3 dX10_bestTripNow_64 rfl rfl ?_
              refine tw_i2l dX10_bestTripNow_65 ?_
              refine tw_nml (fun v65 ev65 => ?_)
              obtain ⟨j66, hj67, ej68⟩ := li8.resolve_left c59
              subst ej68
              refine tw_bl (tw_callV (M := mX10_bestTripNow) (pc := 66) okX10_tripNow dX10_bestTripNow_66 w_1557 rfl f12 [.int (nI a), .int (nI j66), .int m, .long v65] [.long r64] rfl rfl ⟨by decide, by decide⟩ (Nat.le_of_ble_eq_true rfl) (c_X10_tripNow d g τ h sp0.1 x kx m v65 a j66 (by omega) (by omega)) 0 0 (Nat.le_of_ble_eq_true rfl) (Nat.le_of_ble_eq_true rfl)) (fun r71 h70 q69 => ?_) (fun E h1 q => q.elim)
              rw [q69]
              refine tw_lcmp dX10_bestTripNow_69 ?_
              refine tw_nmi (fun v72 ev72 => ?_)
              refine tw_if_le 77 dX10_bestTripNow_70 (by decide) (fun c73 => ?_) (fun c73 => ?_)
              · obtain ⟨v74, ev74⟩ : ∃ y : Int32, y = (nI k2) + 1 := ⟨_, rfl⟩
                refine tw_iinc [(5, .int v74), (0, .ref x), (1, .int (nI a)), (2, .int m), (3, .int gr), (4, .int (nI j66))] 5 dX10_bestTripNow_77 rfl (by rw [ev74]; rfl) (by decide) rfl ?_
                refine tw_goto 6 dX10_bestTripNow_80 (by decide) ?_
                have qv74 := tw_nI3 ev74
                rw [qv74]
                refine tw_lv [1, 2, 3, 4, 5, 0] rfl ?_
                exact ih4 (k2 + 1) (nI j66) (Or.inr ⟨_, by omega, rfl⟩) (by omega) (by omega)
              · refine tw_iload 5 dX10_bestTripNow_73 rfl ?_
                refine tw_istore [(4, .int (nI k2)), (0, .ref x), (1, .int (nI a)), (2, .int m), (3, .int gr), (5, .int (nI k2))] dX10_bestTripNow_75 (by decide) rfl ?_
                obtain ⟨v75, ev75⟩ : ∃ y : Int32, y = (nI k2) + 1 := ⟨_, rfl⟩
                refine tw_iinc [(5, .int v75), (4, .int (nI k2)), (0, .ref x), (1, .int (nI a)), (2, .int m), (3, .int gr)] 5 dX10_bestTripNow_77 rfl (by rw [ev75]; rfl) (by decide) rfl ?_
                refine tw_goto 6 dX10_bestTripNow_80 (by decide) ?_
                have qv75 := tw_nI3 ev75
                rw [qv75]
                refine tw_lv [2, 3, 4, 5, 1, 0] rfl ?_
                exact ih4 (k2 + 1) (nI k2) (Or.inr ⟨_, by omega, rfl⟩) (by omega) (by omega)
          · refine tw_goto 77 dX10_bestTripNow_40 (by decide) ?_
            obtain ⟨v76, ev76⟩ : ∃ y : Int32, y = (nI k2) + 1 := ⟨_, rfl⟩
            refine tw_iinc [(5, .int v76), (0, .ref x), (1, .int (nI a)), (2, .int m), (3, .int gr), (4, .int x1)] 5 dX10_bestTripNow_77 rfl (by rw [ev76]; rfl) (by decide) rfl ?_
            refine tw_goto 6 dX10_bestTripNow_80 (by decide) ?_
            have qv76 := tw_nI3 ev76
            rw [qv76]
            refine tw_lv [1, 2, 3, 4, 5, 0] rfl ?_
            exact ih4 (k2 + 1) x1 (li8) (by omega) (by omega)
  refine tw_lv [2, 3, 4, 5, 1, 0] rfl ?_
  exact L5 ((g.2 3) + 1) 0 (-1) (Or.inl rfl) (by omega) (by omega)

set_option maxHeartbeats 4000000 in
set_option maxRecDepth 100000 in
theorem c_X10_bestTrip (d : tw_D) (g : tw_G) (τ : tw_K) (h : tw_H) (hw : tw_wt d g τ h) (x : Nat) (kx : τ x = 36) (a : Int32) (m : Int32) (gr : Int32) : tw_Ct d mX10_bestTrip 0 0 [.ref x, .int a, .int m, .int gr] h (tw_qi (fun r h1 => tw_sp d τ h g τ h1) tw_nx) := by
  refine tw_of (by decide +kernel) (Nat.le_of_ble_eq_true rfl) ?_
  show tw_W d mX10_bestTrip _ 0 [(0, .ref x), (1, .int a), (2, .int m), (3, .int gr)] [] h 0 0
  have sp0 := tw_sp.rf hw
  refine tw_aload_n 0 dX10_bestTrip_0 rfl rfl ?_
  refine tw_aload_n 0 dX10_bestTrip_1 rfl rfl ?_
  refine tw_iload_n 1 dX10_bestTrip_2 rfl rfl ?_
  obtain ⟨e1, f2, th_3, td_4, ds_5, fr_6, ca_7, us_8, wo_9, cm_10, lc_11, lh_12, ld_13, rfl, k14, k15, k16, k17, k18, k19, k20, k21, k22, k23, k24, k25, k26, k27, k28, k29⟩ := sp0.1 x 36 kx (by decide)
  refine tw_bi (tw_callV (M := mX10_bestTrip) (pc := 3) okX10_isNoCountry dX10_bestTrip_3 w_1292 rfl f2 [.int a] [.ref x] rfl rfl ⟨by decide, by decide⟩ (Nat.le_of_ble_eq_true rfl) (c_X10_isNoCountry d g τ h sp0.1 x kx a) 0 0 (Nat.le_of_ble_eq_true rfl) (Nat.le_of_ble_eq_true rfl)) (fun r32 h31 q30 => ?_) (fun E h1 q => q.elim)
  obtain ⟨q30e, q30d⟩ := q30
  rw [q30e]
  rcases q30d with q30r | ⟨q30r, j33, q30j, q30k⟩
  · rw [q30r]
    refine tw_iconst (v := 1) dX10_bestTrip_6 (by decide) ?_
    refine tw_bi (tw_callV (M := mX10_bestTrip) (pc := 7) okX10_start dX10_bestTrip_7 w_1200 rfl f2 [.int 1, .int 1] [] rfl rfl ⟨by decide, by decide⟩ (Nat.le_of_ble_eq_true rfl) (c_X10_start d g τ h sp0.1 x kx 1 1 (by decide)) 0 0 (Nat.le_of_ble_eq_true rfl) (Nat.le_of_ble_eq_true rfl)) (fun r36 h35 q34 => ?_) (fun E h1 q => q.elim)
    obtain ⟨e37, he38, hs39, hr40, h341⟩ := q34
    have sp42 : tw_sp d τ h g τ h35 := by rw [he38]; exact sp0.set kx (by decide) hs39
    rcases hr40 with ei43 | ⟨ei43, ei43b⟩
    · rw [ei43]
      refine tw_if_ne 43 dX10_bestTrip_10 (by decide) (fun _ => ?_) (fun c44 => absurd c44 (by decide))
      refine tw_iconst (v := 0) dX10_bestTrip_43 (by decide) ?_
      refine tw_goto 54 dX10_bestTrip_44 (by decide) ?_
      exact tw_iret dX10_bestTrip_54 rfl (Or.inl ⟨_, rfl, sp42⟩)
    · exact absurd ei43b (by decide)
  · rw [q30r]
    subst q30k
    refine tw_iconst (v := 1) dX10_bestTrip_6 (by decide) ?_
    refine tw_bi (tw_callV (M := mX10_bestTrip) (pc := 7) okX10_start dX10_bestTrip_7 w_1200 rfl f2 [.int 0, .int 1] [] rfl rfl ⟨by decide, by decide⟩ (Nat.le_of_ble_eq_true rfl) (c_X10_start d g τ h sp0.1 x kx 0 1 (by decide)) 0 0 (Nat.le_of_ble_eq_true rfl) (Nat.le_of_ble_eq_true rfl)) (fun r47 h46 q45 => ?_) (fun E h1 q => q.elim)
    obtain ⟨e48, he49, hs50, hr51, h352⟩ := q45
    have sp53 : tw_sp d τ h g τ h46 := by rw [he49]; exact sp0.set kx (by decide) hs50
    rcases hr51 with ei54 | ⟨ei54, ei54b⟩
    · rw [ei54]
      refine tw_if_ne 43 dX10_bestTrip_10 (by decide) (fun _ => ?_) (fun c55 => absurd c55 (by decide))
      refine tw_iconst (v := 0) dX10_bestTrip_43 (by decide) ?_
      refine tw_goto 54 dX10_bestTrip_44 (by decide) ?_
      exact tw_iret dX10_bestTrip_54 rfl (Or.inl ⟨_, rfl, sp53⟩)
    · rw [ei54]
      refine tw_if_ne 43 dX10_bestTrip_10 (by decide) (fun c56 => absurd (by decide) c56) (fun _ => ?_)
      refine tw_aload_n 0 dX10_bestTrip_13 rfl rfl ?_
      refine tw_iload_n 2 dX10_bestTrip_14 rfl rfl ?_
      refine tw_bi (tw_callS (M := mX10_bestTrip) (pc := 15) okX10_isNoMetal dX10_bestTrip_15 w_1312 [.int m] [.ref x] rfl rfl ⟨by decide, by decide⟩ (Nat.le_of_ble_eq_true rfl) (c_X10_isNoMetal d g τ h46 sp53.1 m) 0 0 (Nat.le_of_ble_eq_true rfl) (Nat.le_of_ble_eq_true rfl)) (fun r59 h58 q57 => ?_) (fun E h1 q => q.elim)
      obtain ⟨q57e, q57d⟩ := q57
      rw [q57e]
      rcases q57d with q57r | ⟨q57r, q57m⟩
      · rw [q57r]
        refine tw_if_ne 31 dX10_bestTrip_18 (by decide) (fun _ => ?_) (fun c60 => absurd c60 (by decide))
        refine tw_iconst (v := 1) dX10_bestTrip_31 (by decide) ?_
        refine tw_goto 36 dX10_bestTrip_32 (by decide) ?_
        refine tw_iconst (v := 2) dX10_bestTrip_36 (by decide) ?_
        obtain ⟨e61, f62, th_63, td_64, ds_65, fr_66, ca_67, us_68, wo_69, cm_70, lc_71, lh_72, ld_73, rfl, k74, k75, k76, k77, k78, k79, k80, k81, k82, k83, k84, k85, k86, k87, k88, k89⟩ := sp53.1 x 36 kx (by decide)
        refine tw_bi (tw_callV (M := mX10_bestTrip) (pc := 37) okX10_refuse dX10_bestTrip_37 w_1204 rfl f62 [.int 1, .int 2] [] rfl rfl ⟨by decide, by decide⟩ (Nat.le_of_ble_eq_true rfl) (c_X10_refuse d g τ h46 sp53.1 x kx 1 2 (by decide)) 0 0 (Nat.le_of_ble_eq_true rfl) (Nat.le_of_ble_eq_true rfl)) (fun r92 h91 q90 => ?_) (fun E h1 q => q.elim)
        obtain ⟨e93, he94, hs95, hr96, h397⟩ := q90
        have sp98 : tw_sp d τ h g τ h91 := by rw [he94]; exact sp53.set kx (by decide) hs95
        rcases hr96 with ei99 | ⟨ei99, ei99b⟩
        · rw [ei99]
          refine tw_if_eq 47 dX10_bestTrip_40 (by decide) (fun c100 => absurd c100 (by decide)) (fun _ => ?_)
          refine tw_iconst (v := 0) dX10_bestTrip_43 (by decide) ?_
          refine tw_goto 54 dX10_bestTrip_44 (by decide) ?_
          exact tw_iret dX10_bestTrip_54 rfl (Or.inl ⟨_, rfl, sp98⟩)
        · exact absurd ei99b (by decide)
      · rw [q57r]
        refine tw_if_ne 31 dX10_bestTrip_18 (by decide) (fun c101 => absurd (by decide) c101) (fun _ => ?_)
        refine tw_iload_n 3 dX10_bestTrip_21 rfl rfl ?_
        refine tw_iconst (v := 0) dX10_bestTrip_22 (by decide) ?_
        refine tw_ldc (v := 99999) dX10_bestTrip_23 w_1199 ?_
        refine tw_bi (tw_callS (M := mX10_bestTrip) (pc := 25) okX10_isIn dX10_bestTrip_25 w_1196 [.int gr, .int 0, .int 99999] [.ref x] rfl rfl ⟨by decide, by decide⟩ (Nat.le_of_ble_eq_true rfl) (c_X10_isIn d g τ h46 sp53.1 gr 0 99999) 0 0 (Nat.le_of_ble_eq_true rfl) (Nat.le_of_ble_eq_true rfl)) (fun r104 h103 q102 => ?_) (fun E h1 q => q.elim)
        obtain ⟨q102e, q102d⟩ := q102
        rw [q102e]
        rcases q102d with ⟨q102r, q102n⟩ | ⟨q102r, q102a, q102b⟩
        · rw [q102r]
          refine tw_if_ne 35 dX10_bestTrip_28 (by decide) (fun c105 => absurd (by decide) c105) (fun _ => ?_)
          refine tw_iconst (v := 1) dX10_bestTrip_31 (by decide) ?_
          refine tw_goto 36 dX10_bestTrip_32 (by decide) ?_
          refine tw_iconst (v := 2) dX10_bestTrip_36 (by decide) ?_
          obtain ⟨e106, f107, th_108, td_109, ds_110, fr_111, ca_112, us_113, wo_114, cm_115, lc_116, lh_117, ld_118, rfl, k119, k120, k121, k122, k123, k124, k125, k126, k127, k128, k129, k130, k131, k132, k133, k134⟩ := sp53.1 x 36 kx (by decide)
          refine tw_bi (tw_callV (M := mX10_bestTrip) (pc := 37) okX10_refuse dX10_bestTrip_37 w_1204 rfl f107 [.int 1, .int 2] [] rfl rfl ⟨by decide, by decide⟩ (Nat.le_of_ble_eq_true rfl) (c_X10_refuse d g τ h46 sp53.1 x kx 1 2 (by decide)) 0 0 (Nat.le_of_ble_eq_true rfl) (Nat.le_of_ble_eq_true rfl)) (fun r137 h136 q135 => ?_) (fun E h1 q => q.elim)
          obtain ⟨e138, he139, hs140, hr141, h3142⟩ := q135
          have sp143 : tw_sp d τ h g τ h136 := by rw [he139]; exact sp53.set kx (by decide) hs140
          rcases hr141 with ei144 | ⟨ei144, ei144b⟩
          · rw [ei144]
            refine tw_if_eq 47 dX10_bestTrip_40 (by decide) (fun c145 => absurd c145 (by decide)) (fun _ => ?_)
            refine tw_iconst (v := 0) dX10_bestTrip_43 (by decide) ?_
            refine tw_goto 54 dX10_bestTrip_44 (by decide) ?_
            exact tw_iret dX10_bestTrip_54 rfl (Or.inl ⟨_, rfl, sp143⟩)
          · exact absurd ei144b (by decide)
        · rw [q102r]
          refine tw_if_ne 35 dX10_bestTrip_28 (by decide) (fun _ => ?_) (fun c146 => absurd c146 (by decide))
          refine tw_iconst (v := 0) dX10_bestTrip_35 (by decide) ?_
          refine tw_iconst (v := 2) dX10_bestTrip_36 (by decide) ?_
          obtain ⟨e147, f148, th_149, td_150, ds_151, fr_152, ca_153, us_154, wo_155, cm_156, lc_157, lh_158, ld_159, rfl, k160, k161, k162, k163, k164, k165, k166, k167, k168, k169, k170, k171, k172, k173, k174, k175⟩ := sp53.1 x 36 kx (by decide)
          refine tw_bi (tw_callV (M := mX10_bestTrip) (pc := 37) okX10_refuse dX10_bestTrip_37 w_1204 rfl f148 [.int 0, .int 2] [] rfl rfl ⟨by decide, by decide⟩ (Nat.le_of_ble_eq_true rfl) (c_X10_refuse d g τ h46 sp53.1 x kx 0 2 (by decide)) 0 0 (Nat.le_of_ble_eq_true rfl) (Nat.le_of_ble_eq_true rfl)) (fun r178 h177 q176 => ?_) (fun E h1 q => q.elim)
          obtain ⟨e179, he180, hs181, hr182, h3183⟩ := q176
          have sp184 : tw_sp d τ h g τ h177 := by rw [he180]; exact sp53.set kx (by decide) hs181
          rcases hr182 with ei185 | ⟨ei185, ei185b⟩
          · rw [ei185]
            refine tw_if_eq 47 dX10_bestTrip_40 (by decide) (fun c186 => absurd c186 (by decide)) (fun _ => ?_)
            refine tw_iconst (v := 0) dX10_bestTrip_43 (by decide) ?_
            refine tw_goto 54 dX10_bestTrip_44 (by decide) ?_
            exact tw_iret dX10_bestTrip_54 rfl (Or.inl ⟨_, rfl, sp184⟩)
          · rw [ei185]
            refine tw_if_eq 47 dX10_bestTrip_40 (by decide) (fun _ => ?_) (fun c187 => absurd (by decide) c187)
            refine tw_aload_n 0 dX10_bestTrip_47 rfl rfl ?_
            refine tw_iload_n 1 dX10_bestTrip_48 rfl rfl ?_
            refine tw_iload_n 2 dX10_bestTrip_49 rfl rfl ?_
            refine tw_iload_n 3 dX10_bestTrip_50 rfl rfl ?_
            obtain ⟨e188, f189, th_190, td_191, ds_192, fr_193, ca_194, us_195, wo_196, cm_197, lc_198, lh_199, ld_200, rfl, k201, k202, k203, k204, k205, k206, k207, k208, k209, k210, k211, k212, k213, k214, k215, k216⟩ := sp184.1 x 36 kx (by decide)
            refine tw_bi (tw_callV (M := mX10_bestTrip) (pc := 51) okX10_bestTripNow dX10_bestTrip_51 w_1565 rfl f189 [.int (nI j33), .int m, .int gr] [] rfl rfl ⟨by decide, by decide⟩ (Nat.le_of_ble_eq_true rfl) (c_X10_bestTripNow d g τ h177 sp184.1 x kx m gr j33 (by omega) ) 0 0 (Nat.le_of_ble_eq_true rfl) (Nat.le_of_ble_eq_true rfl)) (fun r219 h218 q217 => ?_) (fun E h1 q => q.elim)
            rw [q217]
            exact tw_iret dX10_bestTrip_54 rfl (Or.inl ⟨_, rfl, sp184⟩)

set_option maxHeartbeats 4000000 in
set_option maxRecDepth 100000 in
theorem c_X10_restNow (d : tw_D) (g : tw_G) (τ : tw_K) (h : tw_H) (hw : tw_wt d g τ h) (x : Nat) (kx : τ x = 36) (gr : Int32) : tw_Ct d mX10_restNow 0 0 [.ref x, .int gr] h (tw_qi (fun r h1 => h1 = h ∧ tw_01 r) tw_nx) := by
  refine tw_of (by decide +kernel) (Nat.le_of_ble_eq_true rfl) ?_
  show tw_W d mX10_restNow _ 0 [(0, .ref x), (1, .int gr)] [] h 0 0
  have sp0 := tw_sp.rf hw
  refine tw_iconst (v := 0) dX10_restNow_0 (by decide) ?_
  refine tw_istore_n [(2, .int 0), (0, .ref x), (1, .int gr)] dX10_restNow_1 rfl (by decide) rfl ?_
  have L4 : ∀ (r2 k1 : Nat), (g.2 3) + 1 ≤ k1 + r2 → k1 ≤ (g.2 3) → tw_W d mX10_restNow (tw_qi (fun r h1 => h1 = h ∧ tw_01 r) tw_nx) 2 [(0, .ref x), (1, .int gr), (2, .int (nI k1))] [] h 0 0 := by
    intro r2
    induction r2 with
    | zero => intro k1  hk8 hk9; exact absurd hk8 (by omega)
    | succ r2 ih3 =>
      intro k1  hk8 hk9
      refine tw_iload_n 2 dX10_restNow_2 rfl rfl ?_
      refine tw_aload_n 0 dX10_restNow_3 rfl rfl ?_
      obtain ⟨e10, f11, th_12, td_13, ds_14, fr_15, ca_16, us_17, wo_18, cm_19, lc_20, lh_21, ld_22, rfl, k23, k24, k25, k26, k27, k28, k29, k30, k31, k32, k33, k34, k35, k36, k37, k38⟩ := sp0.1 x 36 kx (by decide)
      refine tw_get (v := .ref lc_20) rfl in_14 9 dX10_restNow_4 w_1160 rfl (by decide) f11 rfl ?_
      obtain ⟨e39, f40, ⟨el41, rfl, k42⟩, k43⟩ := sp0.1 lc_20 24 k29 (by decide)
      refine tw_bi (tw_callV (M := mX10_restNow) (pc := 7) okJx4a65c_size_8abf5 dX10_restNow_7 w_1208 rfl f40 [] [.int (nI k1)] rfl rfl ⟨by decide, by decide⟩ (Nat.le_of_ble_eq_true rfl) (c24_size d g τ h sp0.1 lc_20 k29) 0 0 (Nat.le_of_ble_eq_true rfl) (Nat.le_of_ble_eq_true rfl)) (fun r46 h45 q44 => ?_) (fun E h1 q => q.elim)
      obtain ⟨q44e, q44r⟩ := q44
      rw [q44e, q44r]
      refine tw_icmp_ge 45 dX10_restNow_10 (by decide) (fun c47 => ?_) (fun c47 => ?_)
      · refine tw_iconst (v := 1) dX10_restNow_45 (by decide) ?_
        exact tw_zret dX10_restNow_46 rfl rfl (Or.inl ⟨_, rfl, ⟨rfl, (by unfold tw_01; decide)⟩⟩)
      · have kl48 : k1 < (g.2 3) := tw_klt (N := (g.2 3)) c47 hk9 (by omega)
        refine tw_iconst (v := 0) dX10_restNow_13 (by decide) ?_
        refine tw_istore_n [(3, .int 0), (0, .ref x), (1, .int gr), (2, .int (nI k1))] dX10_restNow_14 rfl (by decide) rfl ?_
        have L52 : ∀ (r50 k49 : Nat), 2 + 1 ≤ k49 + r50 → k49 ≤ 2 → tw_W d mX10_restNow (tw_qi (fun r h1 => h1 = h ∧ tw_01 r) tw_nx) 15 [(0, .ref x), (1, .int gr), (2, .int (nI k1)), (3, .int (nI k49))] [] h 0 0 := by
          intro r50
          induction r50 with
          | zero => intro k49  hk56 hk57; exact absurd hk56 (by omega)
          | succ r50 ih51 =>
            intro k49  hk56 hk57
            refine tw_iload_n 3 dX10_restNow_15 rfl rfl ?_
            refine tw_iconst (v := 2) dX10_restNow_16 (by decide) ?_
            refine tw_icmp_ge 39 dX10_restNow_17 (by decide) (fun c58 => ?_) (fun c58 => ?_)
            · obtain ⟨v59, ev59⟩ : ∃ y : Int32, y = (nI k1) + 1 := ⟨_, rfl⟩
              refine tw_iinc [(2, .int v59), (0, .ref x), (1, .int gr), (3, .int (nI k49))] 2 dX10_restNow_39 rfl (by rw [ev59]; rfl) (by decide) rfl ?_
              refine tw_goto 2 dX10_restNow_42 (by decide) ?_
              have qv59 := tw_nI3 ev59
              rw [qv59]
              refine tw_lv [1, 2, 0] rfl ?_
              exact ih3 (k1 + 1)  (by omega) (by omega)
            · have kl60 := tw_klt (N := 2) c58 hk57 (by decide)
              refine tw_aload_n 0 dX10_restNow_20 rfl rfl ?_
              refine tw_iload_n 2 dX10_restNow_21 rfl rfl ?_
              refine tw_iload_n 3 dX10_restNow_22 rfl rfl ?_
              refine tw_iload_n 1 dX10_restNow_23 rfl rfl ?_
              refine tw_bi (tw_callV (M := mX10_restNow) (pc := 24) okX10_bestTripNow dX10_restNow_24 w_1565 rfl f11 [.int (nI k1), .int (nI k49), .int gr] [] rfl rfl ⟨by decide, by decide⟩ (Nat.le_of_ble_eq_true rfl) (c_X10_bestTripNow d g τ h sp0.1 x kx (nI k49) gr k1 (by omega) ) 0 0 (Nat.le_of_ble_eq_true rfl) (Nat.le_of_ble_eq_true rfl)) (fun r63 h62 q61 => ?_) (fun E h1 q => q.elim)
              rw [q61]
              refine tw_iconst (v := -1) dX10_restNow_27 (by decide) ?_
              refine tw_icmp_eq 33 dX10_restNow_28 (by decide) (fun c64 => ?_) (fun c64 => ?_)
              · obtain ⟨v65, ev65⟩ : ∃ y : Int32, y = (nI k49) + 1 := ⟨_, rfl⟩
                refine tw_iinc [(3, .int v65), (0, .ref x), (1, .int gr), (2, .int (nI k1))] 3 dX10_restNow_33 rfl (by rw [ev65]; rfl) (by decide) rfl ?_
                refine tw_goto 15 dX10_restNow_36 (by decide) ?_
                have qv65 := tw_nI3 ev65
                rw [qv65]
                refine tw_lv [1, 2, 3, 0] rfl ?_
                exact ih51 (k49 + 1)  (by omega) (by omega)
              · refine tw_iconst (v := 0) dX10_restNow_31 (by decide) ?_
                exact tw_zret dX10_restNow_32 rfl rfl (Or.inl ⟨_, rfl, ⟨rfl, (by unfold tw_01; decide)⟩⟩)
        refine tw_lv [1, 2, 3, 0] rfl ?_
        exact L52 (2 + 1) 0  (by omega) (by omega)
  refine tw_lv [1, 2, 0] rfl ?_
  exact L4 ((g.2 3) + 1) 0  (by omega) (by omega)

set_option maxHeartbeats 4000000 in
set_option maxRecDepth 100000 in
theorem c_X10_rest (d : tw_D) (g : tw_G) (τ : tw_K) (h : tw_H) (hw : tw_wt d g τ h) (x : Nat) (kx : τ x = 36) (gr : Int32) : tw_Ct d mX10_rest 0 0 [.ref x, .int gr] h (tw_qi (fun r h1 => tw_sp d τ h g τ h1 ∧ tw_01 r) tw_nx) := by
  refine tw_of (by decide +kernel) (Nat.le_of_ble_eq_true rfl) ?_
  show tw_W d mX10_rest _ 0 [(0, .ref x), (1, .int gr)] [] h 0 0
  have sp0 := tw_sp.rf hw
  refine tw_aload_n 0 dX10_rest_0 rfl rfl ?_
  refine tw_iload_n 1 dX10_rest_1 rfl rfl ?_
  refine tw_iconst (v := 0) dX10_rest_2 (by decide) ?_
  refine tw_ldc (v := 99999) dX10_rest_3 w_1199 ?_
  refine tw_bi (tw_callS (M := mX10_rest) (pc := 5) okX10_isIn dX10_rest_5 w_1196 [.int gr, .int 0, .int 99999] [.ref x] rfl rfl ⟨by decide, by decide⟩ (Nat.le_of_ble_eq_true rfl) (c_X10_isIn d g τ h sp0.1 gr 0 99999) 0 0 (Nat.le_of_ble_eq_true rfl) (Nat.le_of_ble_eq_true rfl)) (fun r3 h2 q1 => ?_) (fun E h1 q => q.elim)
  obtain ⟨q1e, q1d⟩ := q1
  rw [q1e]
  rcases q1d with ⟨q1r, q1n⟩ | ⟨q1r, q1a, q1b⟩
  · rw [q1r]
    refine tw_if_ne 15 dX10_rest_8 (by decide) (fun c4 => absurd (by decide) c4) (fun _ => ?_)
    refine tw_iconst (v := 1) dX10_rest_11 (by decide) ?_
    refine tw_goto 16 dX10_rest_12 (by decide) ?_
    refine tw_iconst (v := 1) dX10_rest_16 (by decide) ?_
    obtain ⟨e5, f6, th_7, td_8, ds_9, fr_10, ca_11, us_12, wo_13, cm_14, lc_15, lh_16, ld_17, rfl, k18, k19, k20, k21, k22, k23, k24, k25, k26, k27, k28, k29, k30, k31, k32, k33⟩ := sp0.1 x 36 kx (by decide)
    refine tw_bi (tw_callV (M := mX10_rest) (pc := 17) okX10_start dX10_rest_17 w_1200 rfl f6 [.int 1, .int 1] [] rfl rfl ⟨by decide, by decide⟩ (Nat.le_of_ble_eq_true rfl) (c_X10_start d g τ h sp0.1 x kx 1 1 (by decide)) 0 0 (Nat.le_of_ble_eq_true rfl) (Nat.le_of_ble_eq_true rfl)) (fun r36 h35 q34 => ?_) (fun E h1 q => q.elim)
    obtain ⟨e37, he38, hs39, hr40, h341⟩ := q34
    have sp42 : tw_sp d τ h g τ h35 := by rw [he38]; exact sp0.set kx (by decide) hs39
    rcases hr40 with ei43 | ⟨ei43, ei43b⟩
    · rw [ei43]
      refine tw_if_ne 35 dX10_rest_20 (by decide) (fun _ => ?_) (fun c44 => absurd c44 (by decide))
      refine tw_iconst (v := 0) dX10_rest_35 (by decide) ?_
      exact tw_zret dX10_rest_36 rfl rfl (Or.inl ⟨_, rfl, ⟨sp42, (by unfold tw_01; decide)⟩⟩)
    · exact absurd ei43b (by decide)
  · rw [q1r]
    refine tw_if_ne 15 dX10_rest_8 (by decide) (fun _ => ?_) (fun c45 => absurd c45 (by decide))
    refine tw_iconst (v := 0) dX10_rest_15 (by decide) ?_
    refine tw_iconst (v := 1) dX10_rest_16 (by decide) ?_
    obtain ⟨e46, f47, th_48, td_49, ds_50, fr_51, ca_52, us_53, wo_54, cm_55, lc_56, lh_57, ld_58, rfl, k59, k60, k61, k62, k63, k64, k65, k66, k67, k68, k69, k70, k71, k72, k73, k74⟩ := sp0.1 x 36 kx (by decide)
    refine tw_bi (tw_callV (M := mX10_rest) (pc := 17) okX10_start dX10_rest_17 w_1200 rfl f47 [.int 0, .int 1] [] rfl rfl ⟨by decide, by decide⟩ (Nat.le_of_ble_eq_true rfl) (c_X10_start d g τ h sp0.1 x kx 0 1 (by decide)) 0 0 (Nat.le_of_ble_eq_true rfl) (Nat.le_of_ble_eq_true rfl)) (fun r77 h76 q75 => ?_) (fun E h1 q => q.elim)
    obtain ⟨e78, he79, hs80, hr81, h382⟩ := q75
    have sp83 : tw_sp d τ h g τ h76 := by rw [he79]; exact sp0.set kx (by decide) hs80
    rcases hr81 with ei84 | ⟨ei84, ei84b⟩
    · rw [ei84]
      refine tw_if_ne 35 dX10_rest_20 (by decide) (fun _ => ?_) (fun c85 => absurd c85 (by decide))
      refine tw_iconst (v := 0) dX10_rest_35 (by decide) ?_
      exact tw_zret dX10_rest_36 rfl rfl (Or.inl ⟨_, rfl, ⟨sp83, (by unfold tw_01; decide)⟩⟩)
    · rw [ei84]
      refine tw_if_ne 35 dX10_rest_20 (by decide) (fun c86 => absurd (by decide) c86) (fun _ => ?_)
      refine tw_aload_n 0 dX10_rest_23 rfl rfl ?_
      refine tw_iload_n 1 dX10_rest_24 rfl rfl ?_
      obtain ⟨e87, f88, th_89, td_90, ds_91, fr_92, ca_93, us_94, wo_95, cm_96, lc_97, lh_98, ld_99, rfl, k100, k101, k102, k103, k104, k105, k106, k107, k108, k109, k110, k111, k112, k113, k114, k115⟩ := sp83.1 x 36 kx (by decide)
      refine tw_bi (tw_callV (M := mX10_rest) (pc := 25) okX10_restNow dX10_rest_25 w_1573 rfl f88 [.int gr] [] rfl rfl ⟨by decide, by decide⟩ (Nat.le_of_ble_eq_true rfl) (c_X10_restNow d g τ h76 sp83.1 x kx gr) 0 0 (Nat.le_of_ble_eq_true rfl) (Nat.le_of_ble_eq_true rfl)) (fun r118 h117 q116 => ?_) (fun E h1 q => q.elim)
      obtain ⟨q116e, p119⟩ := q116
      rw [q116e]
      refine tw_if_eq 35 dX10_rest_28 (by decide) (fun c120 => ?_) (fun c120 => ?_)
      · refine tw_iconst (v := 0) dX10_rest_35 (by decide) ?_
        exact tw_zret dX10_rest_36 rfl rfl (Or.inl ⟨_, rfl, ⟨sp83, (by unfold tw_01; decide)⟩⟩)
      · refine tw_iconst (v := 1) dX10_rest_31 (by decide) ?_
        refine tw_goto 36 dX10_rest_32 (by decide) ?_
        exact tw_zret dX10_rest_36 rfl rfl (Or.inl ⟨_, rfl, ⟨sp83, (by unfold tw_01; decide)⟩⟩)

set_option maxHeartbeats 4000000 in
set_option maxRecDepth 100000 in
theorem c_X10_lastNow (d : tw_D) (g : tw_G) (τ : tw_K) (h : tw_H) (hw : tw_wt d g τ h) (x : Nat) (kx : τ x = 36) (m : Int32) (gr : Int32) (a : Nat) (ha : a < g.2 3) (hm : m = 0 ∨ m = 1) : tw_Ct d mX10_lastNow 0 0 [.ref x, .int (nI a), .int m, .int gr] h (tw_qi (fun r h1 => h1 = h) tw_nx) := by
  refine tw_of (by decide +kernel) (Nat.le_of_ble_eq_true rfl) ?_
  show tw_W d mX10_lastNow _ 0 [(0, .ref x), (1, .int (nI a)), (2, .int m), (3, .int gr)] [] h 0 0
  have sp0 := tw_sp.rf hw
  refine tw_aload_n 0 dX10_lastNow_0 rfl rfl ?_
  obtain ⟨e1, f2, th_3, td_4, ds_5, fr_6, ca_7, us_8, wo_9, cm_10, lc_11, lh_12, ld_13, rfl, k14, k15, k16, k17, k18, k19, k20, k21, k22, k23, k24, k25, k26, k27, k28, k29⟩ := sp0.1 x 36 kx (by decide)
  refine tw_get (v := .ref lc_11) rfl in_14 9 dX10_lastNow_1 w_1160 rfl (by decide) f2 rfl ?_
  refine tw_iload_n 1 dX10_lastNow_4 rfl rfl ?_
  obtain ⟨e30, f31, ⟨el32, rfl, k33⟩, k34⟩ := sp0.1 lc_11 24 k20 (by decide)
  refine tw_br (tw_callV (M := mX10_lastNow) (pc := 5) okJx4a65c_get_915e3 dX10_lastNow_5 w_1296 rfl f31 [.int (nI a)] [] rfl rfl ⟨by decide, by decide⟩ (Nat.le_of_ble_eq_true rfl) (c24_get d g τ h sp0.1 lc_11 k20 a (by omega) (by omega)) 0 0 (Nat.le_of_ble_eq_true rfl) (Nat.le_of_ble_eq_true rfl)) (fun r37 h36 q35 => ?_) (fun E h1 q => q.elim)
  obtain ⟨q35e, q35k⟩ := q35
  rw [q35e]
  have el38 : tw_el h (g.2 12) a = r37 := by rw [← k34]; exact q35k.2.symm
  have kl39 : τ (g.2 12) = 24 := by rw [← k34]; exact k20
  obtain ⟨e40, f41, r_42, c_43, v_44, o_45, t_46, rfl, k47, k48, k49, k50, k51⟩ := sp0.1 r37 21 q35k.1 (by decide)
  refine tw_castS (ci := 11) rfl dX10_lastNow_8 w_1212 f41 ?_
  refine tw_get (v := .ref v_44) rfl in_11 2 dX10_lastNow_11 w_1221 rfl (by decide) f41 rfl ?_
  refine tw_iload_n 2 dX10_lastNow_14 rfl rfl ?_
  obtain ⟨e52, f53, F54, rfl⟩ := sp0.1 v_44 31 k47 (by decide)
  obtain ⟨v55, ev55⟩ : ∃ y : Int64, F54 (m).toNatClampNeg = y := ⟨_, rfl⟩
  refine tw_lald (v := v55) dX10_lastNow_15 f53 (tw_in01 hm (by decide)) ev55 ?_
  refine tw_lstore [(4, .long v55), (0, .ref x), (1, .int (nI a)), (2, .int m), (3, .int gr)] dX10_lastNow_16 (by decide) rfl ?_
  refine tw_aload_n 1 dX10_lastNow_18 rfl rfl ?_
  refine tw_get (v := .int td_4) rfl in_14 1 dX10_lastNow_19 w_1152 rfl (by decide) f2 rfl ?_
  refine tw_istore [(6, .int td_4), (4, .long v55), (0, .ref x), (1, .int (nI a)), (2, .int m), (3, .int gr)] dX10_lastNow_22 (by decide) rfl ?_
  have L60 : ∀ (r58 : Nat) (x56 : Int64) (x57 : Int32), ((3001 : Int) - x57.toInt).toNat < r58 → tw_W d mX10_lastNow (tw_qi (fun r h1 => h1 = h) tw_nx) 24 [(0, .ref x), (1, .int (nI a)), (2, .int m), (3, .int gr), (4, .long x56), (6, .int x57)] [] h 0 0 := by
    intro r58
    induction r58 with
    | zero => intro x56 x57 hk64; exact absurd hk64 (Nat.not_lt_zero _)
    | succ r58 ih59 =>
      intro x56 x57 hk64
      refine tw_iload 5 dX10_lastNow_24 rfl ?_
      refine tw_sipush (v := 3000) dX10_lastNow_26 (by decide) ?_
      refine tw_icmp_gt 89 dX10_lastNow_29 (by decide) (fun c66 => ?_) (fun c66 => ?_)
      · refine tw_iconst (v := -1) dX10_lastNow_89 (by decide) ?_
        exact tw_iret dX10_lastNow_90 rfl (Or.inl ⟨_, rfl, rfl⟩)
      · refine tw_iload 5 dX10_lastNow_32 rfl ?_
        refine tw_aload_n 0 dX10_lastNow_34 rfl rfl ?_
        refine tw_get (v := .int td_4) rfl in_14 1 dX10_lastNow_35 w_1152 rfl (by decide) f2 rfl ?_
        refine tw_icmp_le 65 dX10_lastNow_38 (by decide) (fun c67 => ?_) (fun c67 => ?_)
        · refine tw_lload 4 dX10_lastNow_65 rfl ?_
          refine tw_iload_n 3 dX10_lastNow_67 rfl rfl ?_
          refine tw_i2l dX10_lastNow_68 ?_
          refine tw_nml (fun v68 ev68 => ?_)
          refine tw_lcmp dX10_lastNow_69 ?_
          refine tw_nmi (fun v69 ev69 => ?_)
          refine tw_if_ge 76 dX10_lastNow_70 (by decide) (fun c70 => ?_) (fun c70 => ?_)
          · refine tw_lload 4 dX10_lastNow_76 rfl ?_
            refine tw_iload_n 3 dX10_lastNow_78 rfl rfl ?_
            refine tw_i2l dX10_lastNow_79 ?_
            refine tw_nml (fun v71 ev71 => ?_)
            refine tw_lsub dX10_lastNow_80 ?_
            refine tw_nml (fun v72 ev72 => ?_)
            refine tw_lstore [(4, .long v72), (0, .ref x), (1, .int (nI a)), (2, .int m), (3, .int gr), (6, .int x57)] dX10_lastNow_81 (by decide) rfl ?_
            obtain ⟨v73, ev73⟩ : ∃ y : Int32, y = x57 + 1 := ⟨_, rfl⟩
            refine tw_iinc [(6, .int v73), (4, .long v72), (0, .ref x), (1, .int (nI a)), (2, .int m), (3, .int gr)] 5 dX10_lastNow_83 rfl (by rw [ev73]; rfl) (by decide) rfl ?_
            refine tw_goto 24 dX10_lastNow_86 (by decide) ?_
            refine tw_lv [2, 3, 4, 5, 1, 0] rfl ?_
            exact ih59 v72 v73 (tw_mle ev73 c66 hk64)
          · refine tw_iload 5 dX10_lastNow_73 rfl ?_
            exact tw_iret dX10_lastNow_75 rfl (Or.inl ⟨_, rfl, rfl⟩)
        · refine tw_iload 5 dX10_lastNow_41 rfl ?_
          refine tw_bipush (v := 30) dX10_lastNow_43 (by decide) ?_
          refine tw_irem dX10_lastNow_45 (by decide) ?_
          refine tw_nmi (fun v74 ev74 => ?_)
          refine tw_if_ne 65 dX10_lastNow_46 (by decide) (fun c75 => ?_) (fun c75 => ?_)
          · refine tw_lload 4 dX10_lastNow_65 rfl ?_
            refine tw_iload_n 3 dX10_lastNow_67 rfl rfl ?_
            refine tw_i2l dX10_lastNow_68 ?_
            refine tw_nml (fun v76 ev76 => ?_)
            refine tw_lcmp dX10_lastNow_69 ?_
            refine tw_nmi (fun v77 ev77 => ?_)
            refine tw_if_ge 76 dX10_lastNow_70 (by decide) (fun c78 => ?_) (fun c78 => ?_)
            · refine tw_lload 4 dX10_lastNow_76 rfl ?_
              refine tw_iload_n 3 dX10_lastNow_78 rfl rfl ?_
              refine tw_i2l dX10_lastNow_79 ?_
              refine tw_nml (fun v79 ev79 => ?_)
              refine tw_lsub dX10_lastNow_80 ?_
              refine tw_nml (fun v80 ev80 => ?_)
              refine tw_lstore [(4, .long v80), (0, .ref x), (1, .int (nI a)), (2, .int m), (3, .int gr), (6, .int x57)] dX10_lastNow_81 (by decide) rfl ?_
              obtain ⟨v81, ev81⟩ : ∃ y : Int32, y = x57 + 1 := ⟨_, rfl⟩
              refine tw_iinc [(6, .int v81), (4, .long v80), (0, .ref x), (1, .int (nI a)), (2, .int m), (3, .int gr)] 5 dX10_lastNow_83 rfl (by rw [ev81]; rfl) (by decide) rfl ?_
              refine tw_goto 24 dX10_lastNow_86 (by decide) ?_
              refine tw_lv [2, 3, 4, 5, 1, 0] rfl ?_
              exact ih59 v80 v81 (tw_mle ev81 c66 hk64)
            · refine tw_iload 5 dX10_lastNow_73 rfl ?_
              exact tw_iret dX10_lastNow_75 rfl (Or.inl ⟨_, rfl, rfl⟩)
          · refine tw_iload_n 2 dX10_lastNow_49 rfl rfl ?_
            refine tw_iconst (v := 1) dX10_lastNow_50 (by decide) ?_
            refine tw_icmp_ne 65 dX10_lastNow_51 (by decide) (fun c82 => ?_) (fun c82 => ?_)
            · refine tw_lload 4 dX10_lastNow_65 rfl ?_
              refine tw_iload_n 3 dX10_lastNow_67 rfl rfl ?_
              refine tw_i2l dX10_lastNow_68 ?_
              refine tw_nml (fun v83 ev83 => ?_)
              refine tw_lcmp dX10_lastNow_69 ?_
              refine tw_nmi (fun v84 ev84 => ?_)
              refine tw_if_ge 76 dX10_lastNow_70 (by decide) (fun c85 => ?_) (fun c85 => ?_)
              · refine tw_lload 4 dX10_lastNow_76 rfl ?_
                refine tw_iload_n 3 dX10_lastNow_78 rfl rfl ?_
                refine tw_i2l dX10_lastNow_79 ?_
                refine tw_nml (fun v86 ev86 => ?_)
                refine tw_lsub dX10_lastNow_80 ?_
                refine tw_nml (fun v87 ev87 => ?_)
                refine tw_lstore [(4, .long v87), (0, .ref x), (1, .int (nI a)), (2, .int m), (3, .int gr), (6, .int x57)] dX10_lastNow_81 (by decide) rfl ?_
                obtain ⟨v88, ev88⟩ : ∃ y : Int32, y = x57 + 1 := ⟨_, rfl⟩
                refine tw_iinc [(6, .int v88), (4, .long v87), (0, .ref x), (1, .int (nI a)), (2, .int m), (3, .int gr)] 5 dX10_lastNow_83 rfl (by rw [ev88]; rfl) (by decide) rfl ?_
                refine tw_goto 24 dX10_lastNow_86 (by decide) ?_
                refine tw_lv [2, 3, 4, 5, 1, 0] rfl ?_
                exact ih59 v87 v88 (tw_mle ev88 c66 hk64)
              · refine tw_iload 5 dX10_lastNow_73 rfl ?_
                exact tw_iret dX10_lastNow_75 rfl (Or.inl ⟨_, rfl, rfl⟩)
            · refine tw_lload 4 dX10_lastNow_54 rfl ?_
              refine tw_lload 4 dX10_lastNow_56 rfl ?_
              refine tw_ldc2 (v := 10000) dX10_lastNow_58 w_1432 ?_
              refine tw_ldiv dX10_lastNow_61 (by decide) ?_
              refine tw_nml (fun v89 ev89 => ?_)
              refine tw_lsub dX10_lastNow_62 ?_
              refine tw_nml (fun v90 ev90 => ?_)
              refine tw_lstore [(4, .long v90), (0, .ref x), (1, .int (nI a)), (2, .int m), (3, .int gr), (6, .int x57)] dX10_lastNow_63 (by decide) rfl ?_
              refine tw_lload 0 dX10_lastNow_65 rfl ?_
              refine tw_iload_n 4 dX10_lastNow_67 rfl rfl ?_
              refine tw_i2l dX10_lastNow_68 ?_
              refine tw_nml (fun v91 ev91 => ?_)
              refine tw_lcmp dX10_lastNow_69 ?_
              refine tw_nmi (fun v92 ev92 => ?_)
              refine tw_if_ge 76 dX10_lastNow_70 (by decide) (fun c93 => ?_) (fun c93 => ?_)
              · refine tw_lload 0 dX10_lastNow_76 rfl ?_
                refine tw_iload_n 4 dX10_lastNow_78 rfl rfl ?_
                refine tw_i2l dX10_lastNow_79 ?_
                refine tw_nml (fun v94 ev94 => ?_)
                refine tw_lsub dX10_lastNow_80 ?_
                refine tw_nml (fun v95 ev95 => ?_)
                refine tw_lstore [(4, .long v95), (0, .ref x), (1, .int (nI a)), (2, .int m), (3, .int gr), (6, .int x57)] dX10_lastNow_81 (by decide) rfl ?_
                obtain ⟨v96, ev96⟩ : ∃ y : Int32, y = x57 + 1 := ⟨_, rfl⟩
                refine tw_iinc [(6, .int v96), (4, .long v95), (0, .ref x), (1, .int (nI a)), (2, .int m), (3, .int gr)] 5 dX10_lastNow_83 rfl (by rw [ev96]; rfl) (by decide) rfl ?_
                refine tw_goto 24 dX10_lastNow_86 (by decide) ?_
                refine tw_lv [2, 3, 4, 5, 1, 0] rfl ?_
                exact ih59 v95 v96 (tw_mle ev96 c66 hk64)
              · refine tw_iload 5 dX10_lastNow_73 rfl ?_
                exact tw_iret dX10_lastNow_75 rfl (Or.inl ⟨_, rfl, rfl⟩)
  refine tw_lv [2, 3, 4, 5, 1, 0] rfl ?_
  exact L60 _ v55 td_4 (Nat.lt_succ_self _)

set_option maxHeartbeats 4000000 in
set_option maxRecDepth 100000 in
theorem c_X10_last (d : tw_D) (g : tw_G) (τ : tw_K) (h : tw_H) (hw : tw_wt d g τ h) (x : Nat) (kx : τ x = 36) (a : Int32) (m : Int32) (gr : Int32) : tw_Ct d mX10_last 0 0 [.ref x, .int a, .int m, .int gr] h (tw_qi (fun r h1 => tw_sp d τ h g τ h1) tw_nx) := by
  refine tw_of (by decide +kernel) (Nat.le_of_ble_eq_true rfl) ?_
  show tw_W d mX10_last _ 0 [(0, .ref x), (1, .int a), (2, .int m), (3, .int gr)] [] h 0 0
  have sp0 := tw_sp.rf hw
  refine tw_aload_n 0 dX10_last_0 rfl rfl ?_
  refine tw_aload_n 0 dX10_last_1 rfl rfl ?_
  refine tw_iload_n 1 dX10_last_2 rfl rfl ?_
  obtain ⟨e1, f2, th_3, td_4, ds_5, fr_6, ca_7, us_8, wo_9, cm_10, lc_11, lh_12, ld_13, rfl, k14, k15, k16, k17, k18, k19, k20, k21, k22, k23, k24, k25, k26, k27, k28, k29⟩ := sp0.1 x 36 kx (by decide)
  refine tw_bi (tw_callV (M := mX10_last) (pc := 3) okX10_isNoCountry dX10_last_3 w_1292 rfl f2 [.int a] [.ref x] rfl rfl ⟨by decide, by decide⟩ (Nat.le_of_ble_eq_true rfl) (c_X10_isNoCountry d g τ h sp0.1 x kx a) 0 0 (Nat.le_of_ble_eq_true rfl) (Nat.le_of_ble_eq_true rfl)) (fun r32 h31 q30 => ?_) (fun E h1 q => q.elim)
  obtain ⟨q30e, q30d⟩ := q30
  rw [q30e]
  rcases q30d with q30r | ⟨q30r, j33, q30j, q30k⟩
  · rw [q30r]
    refine tw_iconst (v := 1) dX10_last_6 (by decide) ?_
    refine tw_bi (tw_callV (M := mX10_last) (pc := 7) okX10_start dX10_last_7 w_1200 rfl f2 [.int 1, .int 1] [] rfl rfl ⟨by decide, by decide⟩ (Nat.le_of_ble_eq_true rfl) (c_X10_start d g τ h sp0.1 x kx 1 1 (by decide)) 0 0 (Nat.le_of_ble_eq_true rfl) (Nat.le_of_ble_eq_true rfl)) (fun r36 h35 q34 => ?_) (fun E h1 q => q.elim)
    obtain ⟨e37, he38, hs39, hr40, h341⟩ := q34
    have sp42 : tw_sp d τ h g τ h35 := by rw [he38]; exact sp0.set kx (by decide) hs39
    rcases hr40 with ei43 | ⟨ei43, ei43b⟩
    · rw [ei43]
      refine tw_if_ne 43 dX10_last_10 (by decide) (fun _ => ?_) (fun c44 => absurd c44 (by decide))
      refine tw_iconst (v := 0) dX10_last_43 (by decide) ?_
      refine tw_goto 54 dX10_last_44 (by decide) ?_
      exact tw_iret dX10_last_54 rfl (Or.inl ⟨_, rfl, sp42⟩)
    · exact absurd ei43b (by decide)
  · rw [q30r]
    subst q30k
    refine tw_iconst (v := 1) dX10_last_6 (by decide) ?_
    refine tw_bi (tw_callV (M := mX10_last) (pc := 7) okX10_start dX10_last_7 w_1200 rfl f2 [.int 0, .int 1] [] rfl rfl ⟨by decide, by decide⟩ (Nat.le_of_ble_eq_true rfl) (c_X10_start d g τ h sp0.1 x kx 0 1 (by decide)) 0 0 (Nat.le_of_ble_eq_true rfl) (Nat.le_of_ble_eq_true rfl)) (fun r47 h46 q45 => ?_) (fun E h1 q => q.elim)
    obtain ⟨e48, he49, hs50, hr51, h352⟩ := q45
    have sp53 : tw_sp d τ h g τ h46 := by rw [he49]; exact sp0.set kx (by decide) hs50
    rcases hr51 with ei54 | ⟨ei54, ei54b⟩
    · rw [ei54]
      refine tw_if_ne 43 dX10_last_10 (by decide) (fun _ => ?_) (fun c55 => absurd c55 (by decide))
      refine tw_iconst (v := 0) dX10_last_43 (by decide) ?_
      refine tw_goto 54 dX10_last_44 (by decide) ?_
      exact tw_iret dX10_last_54 rfl (Or.inl ⟨_, rfl, sp53⟩)
    · rw [ei54]
      refine tw_if_ne 43 dX10_last_10 (by decide) (fun c56 => absurd (by decide) c56) (fun _ => ?_)
      refine tw_aload_n 0 dX10_last_13 rfl rfl ?_
      refine tw_iload_n 2 dX10_last_14 rfl rfl ?_
      refine tw_bi (tw_callS (M := mX10_last) (pc := 15) okX10_isNoMetal dX10_last_15 w_1312 [.int m] [.ref x] rfl rfl ⟨by decide, by decide⟩ (Nat.le_of_ble_eq_true rfl) (c_X10_isNoMetal d g τ h46 sp53.1 m) 0 0 (Nat.le_of_ble_eq_true rfl) (Nat.le_of_ble_eq_true rfl)) (fun r59 h58 q57 => ?_) (fun E h1 q => q.elim)
      obtain ⟨q57e, q57d⟩ := q57
      rw [q57e]
      rcases q57d with q57r | ⟨q57r, q57m⟩
      · rw [q57r]
        refine tw_if_ne 31 dX10_last_18 (by decide) (fun _ => ?_) (fun c60 => absurd c60 (by decide))
        refine tw_iconst (v := 1) dX10_last_31 (by decide) ?_
        refine tw_goto 36 dX10_last_32 (by decide) ?_
        refine tw_iconst (v := 2) dX10_last_36 (by decide) ?_
        obtain ⟨e61, f62, th_63, td_64, ds_65, fr_66, ca_67, us_68, wo_69, cm_70, lc_71, lh_72, ld_73, rfl, k74, k75, k76, k77, k78, k79, k80, k81, k82, k83, k84, k85, k86, k87, k88, k89⟩ := sp53.1 x 36 kx (by decide)
        refine tw_bi (tw_callV (M := mX10_last) (pc := 37) okX10_refuse dX10_last_37 w_1204 rfl f62 [.int 1, .int 2] [] rfl rfl ⟨by decide, by decide⟩ (Nat.le_of_ble_eq_true rfl) (c_X10_refuse d g τ h46 sp53.1 x kx 1 2 (by decide)) 0 0 (Nat.le_of_ble_eq_true rfl) (Nat.le_of_ble_eq_true rfl)) (fun r92 h91 q90 => ?_) (fun E h1 q => q.elim)
        obtain ⟨e93, he94, hs95, hr96, h397⟩ := q90
        have sp98 : tw_sp d τ h g τ h91 := by rw [he94]; exact sp53.set kx (by decide) hs95
        rcases hr96 with ei99 | ⟨ei99, ei99b⟩
        · rw [ei99]
          refine tw_if_eq 47 dX10_last_40 (by decide) (fun c100 => absurd c100 (by decide)) (fun _ => ?_)
          refine tw_iconst (v := 0) dX10_last_43 (by decide) ?_
          refine tw_goto 54 dX10_last_44 (by decide) ?_
          exact tw_iret dX10_last_54 rfl (Or.inl ⟨_, rfl, sp98⟩)
        · exact absurd ei99b (by decide)
      · rw [q57r]
        refine tw_if_ne 31 dX10_last_18 (by decide) (fun c101 => absurd (by decide) c101) (fun _ => ?_)
        refine tw_iload_n 3 dX10_last_21 rfl rfl ?_
        refine tw_iconst (v := 1) dX10_last_22 (by decide) ?_
        refine tw_ldc (v := 99999) dX10_last_23 w_1199 ?_
        refine tw_bi (tw_callS (M := mX10_last) (pc := 25) okX10_isIn dX10_last_25 w_1196 [.int gr, .int 1, .int 99999] [.ref x] rfl rfl ⟨by decide, by decide⟩ (Nat.le_of_ble_eq_true rfl) (c_X10_isIn d g τ h46 sp53.1 gr 1 99999) 0 0 (Nat.le_of_ble_eq_true rfl) (Nat.le_of_ble_eq_true rfl)) (fun r104 h103 q102 => ?_) (fun E h1 q => q.elim)
        obtain ⟨q102e, q102d⟩ := q102
        rw [q102e]
        rcases q102d with ⟨q102r, q102n⟩ | ⟨q102r, q102a, q102b⟩
        · rw [q102r]
          refine tw_if_ne 35 dX10_last_28 (by decide) (fun c105 => absurd (by decide) c105) (fun _ => ?_)
          refine tw_iconst (v := 1) dX10_last_31 (by decide) ?_
          refine tw_goto 36 dX10_last_32 (by decide) ?_
          refine tw_iconst (v := 2) dX10_last_36 (by decide) ?_
          obtain ⟨e106, f107, th_108, td_109, ds_110, fr_111, ca_112, us_113, wo_114, cm_115, lc_116, lh_117, ld_118, rfl, k119, k120, k121, k122, k123, k124, k125, k126, k127, k128, k129, k130, k131, k132, k133, k134⟩ := sp53.1 x 36 kx (by decide)
          refine tw_bi (tw_callV (M := mX10_last) (pc := 37) okX10_refuse dX10_last_37 w_1204 rfl f107 [.int 1, .int 2] [] rfl rfl ⟨by decide, by decide⟩ (Nat.le_of_ble_eq_true rfl) (c_X10_refuse d g τ h46 sp53.1 x kx 1 2 (by decide)) 0 0 (Nat.le_of_ble_eq_true rfl) (Nat.le_of_ble_eq_true rfl)) (fun r137 h136 q135 => ?_) (fun E h1 q => q.elim)
          obtain ⟨e138, he139, hs140, hr141, h3142⟩ := q135
          have sp143 : tw_sp d τ h g τ h136 := by rw [he139]; exact sp53.set kx (by decide) hs140
          rcases hr141 with ei144 | ⟨ei144, ei144b⟩
          · rw [ei144]
            refine tw_if_eq 47 dX10_last_40 (by decide) (fun c145 => absurd c145 (by decide)) (fun _ => ?_)
            refine tw_iconst (v := 0) dX10_last_43 (by decide) ?_
            refine tw_goto 54 dX10_last_44 (by decide) ?_
            exact tw_iret dX10_last_54 rfl (Or.inl ⟨_, rfl, sp143⟩)
          · exact absurd ei144b (by decide)
        · rw [q102r]
          refine tw_if_ne 35 dX10_last_28 (by decide) (fun _ => ?_) (fun c146 => absurd c146 (by decide))
          refine tw_iconst (v := 0) dX10_last_35 (by decide) ?_
          refine tw_iconst (v := 2) dX10_last_36 (by decide) ?_
          obtain ⟨e147, f148, th_149, td_150, ds_151, fr_152, ca_153, us_154, wo_155, cm_156, lc_157, lh_158, ld_159, rfl, k160, k161, k162, k163, k164, k165, k166, k167, k168, k169, k170, k171, k172, k173, k174, k175⟩ := sp53.1 x 36 kx (by decide)
          refine tw_bi (tw_callV (M := mX10_last) (pc := 37) okX10_refuse dX10_last_37 w_1204 rfl f148 [.int 0, .int 2] [] rfl rfl ⟨by decide, by decide⟩ (Nat.le_of_ble_eq_true rfl) (c_X10_refuse d g τ h46 sp53.1 x kx 0 2 (by decide)) 0 0 (Nat.le_of_ble_eq_true rfl) (Nat.le_of_ble_eq_true rfl)) (fun r178 h177 q176 => ?_) (fun E h1 q => q.elim)
          obtain ⟨e179, he180, hs181, hr182, h3183⟩ := q176
          have sp184 : tw_sp d τ h g τ h177 := by rw [he180]; exact sp53.set kx (by decide) hs181
          rcases hr182 with ei185 | ⟨ei185, ei185b⟩
          · rw [ei185]
            refine tw_if_eq 47 dX10_last_40 (by decide) (fun c186 => absurd c186 (by decide)) (fun _ => ?_)
            refine tw_iconst (v := 0) dX10_last_43 (by decide) ?_
            refine tw_goto 54 dX10_last_44 (by decide) ?_
            exact tw_iret dX10_last_54 rfl (Or.inl ⟨_, rfl, sp184⟩)
          · rw [ei185]
            refine tw_if_eq 47 dX10_last_40 (by decide) (fun _ => ?_) (fun c187 => absurd (by decide) c187)
            refine tw_aload_n 0 dX10_last_47 rfl rfl ?_
            refine tw_iload_n 1 dX10_last_48 rfl rfl ?_
            refine tw_iload_n 2 dX10_last_49 rfl rfl ?_
            refine tw_iload_n 3 dX10_last_50 rfl rfl ?_
            obtain ⟨e188, f189, th_190, td_191, ds_192, fr_193, ca_194, us_195, wo_196, cm_197, lc_198, lh_199, ld_200, rfl, k201, k202, k203, k204, k205, k206, k207, k208, k209, k210, k211, k212, k213, k214, k215, k216⟩ := sp184.1 x 36 kx (by decide)
            refine tw_bi (tw_callV (M := mX10_last) (pc := 51) okX10_lastNow dX10_last_51 w_1581 rfl f189 [.int (nI j33), .int m, .int gr] [] rfl rfl ⟨by decide, by decide⟩ (Nat.le_of_ble_eq_true rfl) (c_X10_lastNow d g τ h177 sp184.1 x kx m gr j33 (by omega) q57m) 0 0 (Nat.le_of_ble_eq_true rfl) (Nat.le_of_ble_eq_true rfl)) (fun r219 h218 q217 => ?_) (fun E h1 q => q.elim)
            rw [q217]
            exact tw_iret dX10_last_54 rfl (Or.inl ⟨_, rfl, sp184⟩)

set_option maxHeartbeats 4000000 in
set_option maxRecDepth 100000 in
theorem c_X10_worldNow (d : tw_D) (g : tw_G) (τ : tw_K) (h : tw_H) (hw : tw_wt d g τ h) (x : Nat) (kx : τ x = 36) (m : Int32) (w9 : Int32) (hm : vp_in m 2) (hw9 : vp_in w9 6) : tw_Ct d mX10_worldNow 3 14 [.ref x, .int m, .int w9] h (tw_qi (fun r h1 => tw_sp d τ h g τ h1) tw_nx) := by
  refine tw_of (by decide +kernel) (Nat.le_of_ble_eq_true rfl) ?_
  show tw_W d mX10_worldNow _ 0 [(0, .ref x), (1, .int m), (2, .int w9)] [] h 3 14
  have sp0 := tw_sp.rf hw
  refine tw_lconst (v := 0) dX10_worldNow_0 (by decide) ?_
  refine tw_lstore_n [(3, .long 0), (0, .ref x), (1, .int m), (2, .int w9)] dX10_worldNow_1 rfl (by decide) rfl ?_
  refine tw_lconst (v := 0) dX10_worldNow_2 (by decide) ?_
  refine tw_lstore [(5, .long 0), (3, .long 0), (0, .ref x), (1, .int m), (2, .int w9)] dX10_worldNow_3 (by decide) rfl ?_
  refine tw_aload_n 2 dX10_worldNow_5 rfl rfl ?_
  obtain ⟨e1, f2, th_3, td_4, ds_5, fr_6, ca_7, us_8, wo_9, cm_10, lc_11, lh_12, ld_13, rfl, k14, k15, k16, k17, k18, k19, k20, k21, k22, k23, k24, k25, k26, k27, k28, k29⟩ := sp0.1 x 36 kx (by decide)
  refine tw_get (v := .ref lc_11) rfl in_14 9 dX10_worldNow_6 w_1160 rfl (by decide) f2 rfl ?_
  obtain ⟨e30, f31, ⟨el32, rfl, k33⟩, k34⟩ := sp0.1 lc_11 24 k20 (by decide)
  refine tw_br (tw_callV (M := mX10_worldNow) (pc := 9) okJx4a65c_iterator_32c93 dX10_worldNow_9 w_1386 rfl f31 [] [] rfl rfl ⟨by decide, by decide⟩ (Nat.le_of_ble_eq_true rfl) (c_iterator d h lc_11 el32 (g.1 3) (nI (g.2 3)) f31) 2 10 (Nat.le_of_ble_eq_true rfl) (Nat.le_of_ble_eq_true rfl)) (fun it35 h36 q37 => ?_) (fun E h1 q => q.elim)
  obtain ⟨q37n, q37e⟩ := q37
  rw [q37e]
  have n38 := sp0.nn q37n
  have z39 := sp0.1.none q37n
  obtain ⟨h40, eh40⟩ : ∃ z : tw_H, z = tw_up h it35 (.inr (2, [.int 0, .int (-1), .int (g.1 3), .ref lc_11])) := ⟨_, rfl⟩
  rw [← eh40]
  have sp41 : tw_sp d τ h g τ h40 := by rw [eh40]; exact sp0.mk q37n
  have f42 : h40 it35 = some (.inr (2, [.int 0, .int (-1), .int (g.1 3), .ref lc_11])) := by rw [eh40]; exact tw_up_s
  refine tw_astore [(7, .ref it35), (5, .long 0), (3, .long 0), (0, .ref x), (1, .int m), (2, .int w9)] dX10_worldNow_12 (by decide) rfl ?_
  have L48 : ∀ (r44 j45 : Nat) (l46 : Int32) (x43 : Int64) (h49 : tw_H) (sp50 : tw_sp d τ (tw_rm h40 it35) g τ h49) (ft51 : h49 it35 = some (.inr (2, [.int (nI j45), .int l46, .int (g.1 3), .ref lc_11]))) (zt52 : τ it35 = 0), g.2 3 + 1 ≤ j45 + r44 → j45 ≤ g.2 3 → tw_W d mX10_worldNow (tw_qi (fun r h1 => tw_sp d τ h g τ h1) tw_nx) 14 [(0, .ref x), (1, .int m), (2, .int w9), (3, .long x43), (5, .long 0), (7, .ref it35)] [] h49 2 10 := by
    intro r44
    induction r44 with
    | zero => intro j45 l46 x43 h49 sp50 ft51 zt52 hk53 hk54; exact absurd hk53 (by omega)
    | succ r44 ih47 =>
      intro j45 l46 x43 h49 sp50 ft51 zt52 hk53 hk54
      refine tw_aload 5 dX10_worldNow_14 rfl ?_
      obtain ⟨e55, f56, ⟨el57, rfl, k58⟩, k59⟩ := sp50.1 lc_11 24 k20 (by decide)
      refine tw_bi (tw_callF (M := mX10_worldNow) (pc := 16) (n9 := 0) (ci := 2) tw_hasNext ok_itHas w_1416 w_1414 (fun s H z => z.2.2.2.2.2.2.2.2.1) (by decide +kernel) dX10_worldNow_16 w_1410 rfl ft51 [] [] rfl rfl ⟨by decide, by decide⟩ (Nat.le_of_ble_eq_true rfl) (c_hasNext d h49 it35 lc_11 el57 j45 (g.2 3) l46 (g.1 3) (g.1 3) ft51 f56 (by omega) (tw_lim24 sp50.1 k20)) 2 10 (Nat.le_of_ble_eq_true rfl) (Nat.le_of_ble_eq_true rfl)) (fun r62 h61 q60 => ?_) (fun E h1 q => q.elim)
      obtain ⟨q60e, q60q⟩ := q60
      rw [q60e]
      rcases q60q with ⟨q60r, q60j⟩ | ⟨q60r, q60j⟩
      · rw [q60r]
        refine tw_if_eq 49 dX10_worldNow_21 (by decide) (fun _ => ?_) (fun c63 => absurd (by decide) c63)
        refine tw_aload_n 0 dX10_worldNow_49 rfl rfl ?_
        obtain ⟨e64, f65, th_66, td_67, ds_68, fr_69, ca_70, us_71, wo_72, cm_73, lc_74, lh_75, ld_76, rfl, k77, k78, k79, k80, k81, k82, k83, k84, k85, k86, k87, k88, k89, k90, k91, k92⟩ := sp50.1 x 36 kx (by decide)
        refine tw_get (v := .ref lh_75) rfl in_14 10 dX10_worldNow_50 w_1161 rfl (by decide) f65 rfl ?_
        obtain ⟨e93, f94, ⟨el95, rfl, k96⟩, k97⟩ := sp50.1 lh_75 25 k84 (by decide)
        refine tw_br (tw_callV (M := mX10_worldNow) (pc := 53) okJx4a65c_iterator_32c93 dX10_worldNow_53 w_1386 rfl f94 [] [] rfl rfl ⟨by decide, by decide⟩ (Nat.le_of_ble_eq_true rfl) (c_iterator d h49 lh_75 el95 (g.1 4) (nI (g.2 4)) f94) 1 6 (Nat.le_of_ble_eq_true rfl) (Nat.le_of_ble_eq_true rfl)) (fun it98 h99 q100 => ?_) (fun E h1 q => q.elim)
        obtain ⟨q100n, q100e⟩ := q100
        rw [q100e]
        have n101 := sp50.nn q100n
        have z102 := sp50.1.none q100n
        have ne103 := tw_neF ft51 q100n
        obtain ⟨h104, eh104⟩ : ∃ z : tw_H, z = tw_up h49 it98 (.inr (2, [.int 0, .int (-1), .int (g.1 4), .ref lh_75])) := ⟨_, rfl⟩
        rw [← eh104]
        have sp105 : tw_sp d τ (tw_rm h40 it35) g τ h104 := by rw [eh104]; exact sp50.mk q100n
        have f106 : h104 it35 = some (.inr (2, [.int (nI j45), .int l46, .int (g.1 3), .ref lc_11])) := by rw [eh104, tw_up_n ne103]; exact ft51
        have f107 : h104 it98 = some (.inr (2, [.int 0, .int (-1), .int (g.1 4), .ref lh_75])) := by rw [eh104]; exact tw_up_s
        refine tw_astore [(7, .ref it98), (0, .ref x), (1, .int m), (2, .int w9), (3, .long x43), (5, .long 0)] dX10_worldNow_56 (by decide) rfl ?_
        have L113 : ∀ (r109 j110 : Nat) (l111 : Int32) (x108 : Int64) (h114 : tw_H) (sp115 : tw_sp d τ (tw_rm h104 it98) g τ h114) (ft116 : h114 it98 = some (.inr (2, [.int (nI j110), .int l111, .int (g.1 4), .ref lh_75]))) (zt117 : τ it98 = 0), g.2 4 + 1 ≤ j110 + r109 → j110 ≤ g.2 4 → tw_W d mX10_worldNow (tw_qi (fun r h1 => tw_sp d τ h g τ h1) tw_nx) 58 [(0, .ref x), (1, .int m), (2, .int w9), (3, .long x43), (5, .long x108), (7, .ref it98)] [] h114 1 6 := by
          intro r109
          induction r109 with
          | zero => intro j110 l111 x108 h114 sp115 ft116 zt117 hk118 hk119; exact absurd hk118 (by omega)
          | succ r109 ih112 =>
            intro j110 l111 x108 h114 sp115 ft116 zt117 hk118 hk119
            have f120 := (sp115.2.2 _ _ (by unfold tw_rm; rw [if_neg ne103]; exact f106) zt52).1
            have z121 := (sp115.2.2 _ _ (by unfold tw_rm; rw [if_neg ne103]; exact f106) zt52).2
            refine tw_aload 5 dX10_worldNow_58 rfl ?_
            obtain ⟨e122, f123, ⟨el124, rfl, k125⟩, k126⟩ := sp115.1 lh_75 25 k84 (by decide)
            refine tw_bi (tw_callF (M := mX10_worldNow) (pc := 60) (n9 := 0) (ci := 2) tw_hasNext ok_itHas w_1416 w_1414 (fun s H z => z.2.2.2.2.2.2.2.2.1) (by decide +kernel) dX10_worldNow_60 w_1410 rfl ft116 [] [] rfl rfl ⟨by decide, by decide⟩ (Nat.le_of_ble_eq_true rfl) (c_hasNext d h114 it98 lh_75 el124 j110 (g.2 4) l111 (g.1 4) (g.1 4) ft116 f123 (by omega) (tw_lim25 sp115.1 k84)) 1 6 (Nat.le_of_ble_eq_true rfl) (Nat.le_of_ble_eq_true rfl)) (fun r129 h128 q127 => ?_) (fun E h1 q => q.elim)
            obtain ⟨q127e, q127q⟩ := q127
            rw [q127e]
            rcases q127q with ⟨q127r, q127j⟩ | ⟨q127r, q127j⟩
            · rw [q127r]
              refine tw_if_eq 95 dX10_worldNow_65 (by decide) (fun _ => ?_) (fun c130 => absurd (by decide) c130)
              refine tw_bipush (v := 6) dX10_worldNow_95 (by decide) ?_
              refine tw_newa (a0 := (6, .inr (.inl (fun _ => 0)))) 1 rfl dX10_worldNow_97 rfl w_1150 (fun _ => rfl) (by decide) (by decide) (by decide) 0 0 (Nat.le_of_ble_eq_true rfl) (Nat.le_of_ble_eq_true rfl) (fun q131 hq132 hA133 => ?_)
              have n134 := sp115.nn hq132
              have z135 := sp115.1.none hq132
              have ne136 := tw_neF f120 hq132
              have ne137 := tw_neF ft116 hq132
              obtain ⟨h138, eh138⟩ : ∃ z : tw_H, z = tw_up h114 q131 (.inl (d.2 1, 6, .inr (.inl (fun _ => 0)))) := ⟨_, rfl⟩
              rw [← eh138]
              have sp139 : tw_sp d τ (tw_rm h104 it98) g τ h138 := by rw [eh138]; exact sp115.mk hq132
              have f140 : h138 it35 = some (.inr (2, [.int (nI j45), .int l46, .int (g.1 3), .ref lc_11])) := by rw [eh138, tw_up_n ne136]; exact f120
              have f141 : h138 it98 = some (.inr (2, [.int (nI j110), .int l111, .int (g.1 4), .ref lh_75])) := by rw [eh138, tw_up_n ne137]; exact ft116
              have f142 : h138 q131 = some (.inl (d.2 1, 6, .inr (.inl (fun _ => 0)))) := by rw [eh138]; exact tw_up_s
              refine tw_dup dX10_worldNow_99 rfl ?_
              refine tw_iconst (v := 0) dX10_worldNow_100 (by decide) ?_
              refine tw_lload_n 3 dX10_worldNow_101 rfl rfl ?_
              refine tw_last dX10_worldNow_102 f142 (vp_in_nI (n := 0) (by decide) (by decide)) ?_
              obtain ⟨F143, eF143⟩ : ∃ z : Nat → Int64, z = vp_updL (fun _ => 0) (0 : Int32).toNatClampNeg x43 := ⟨_, rfl⟩
              rw [← eF143]
              obtain ⟨h144, eh144⟩ : ∃ z : tw_H, z = tw_up h138 q131 (.inl (d.2 1, 6, .inr (.inl F143))) := ⟨_, rfl⟩
              rw [← eh144]
              have sp145 : tw_sp d τ (tw_rm h104 it98) g τ h144 := by rw [eh144]; exact sp139.wl n134 z135
              have f146 : h144 it35 = some (.inr (2, [.int (nI j45), .int l46, .int (g.1 3), .ref lc_11])) := by rw [eh144, tw_up_n ne136]; exact f140
              have f147 : h144 it98 = some (.inr (2, [.int (nI j110), .int l111, .int (g.1 4), .ref lh_75])) := by rw [eh144, tw_up_n ne137]; exact f141
              have f148 : h144 q131 = some (.inl (d.2 1, 6, .inr (.inl F143))) := by rw [eh144]; exact tw_up_s
              refine tw_dup dX10_worldNow_103 rfl ?_
              refine tw_iconst (v := 1) dX10_worldNow_104 (by decide) ?_
              refine tw_lload 4 dX10_worldNow_105 rfl ?_
              refine tw_last dX10_worldNow_107 f148 (vp_in_nI (n := 1) (by decide) (by decide)) ?_
              obtain ⟨F149, eF149⟩ : ∃ z : Nat → Int64, z = vp_updL F143 (1 : Int32).toNatClampNeg x108 := ⟨_, rfl⟩
              rw [← eF149]
              obtain ⟨h150, eh150⟩ : ∃ z : tw_H, z = tw_up h144 q131 (.inl (d.2 1, 6, .inr (.inl F149))) := ⟨_, rfl⟩
              rw [← eh150]
              have sp151 : tw_sp d τ (tw_rm h104 it98) g τ h150 := by rw [eh150]; exact sp145.wl n134 z135
              have f152 : h150 it35 = some (.inr (2, [.int (nI j45), .int l46, .int (g.1 3), .ref lc_11])) := by rw [eh150, tw_up_n ne136]; exact f146
              have f153 : h150 it98 = some (.inr (2, [.int (nI j110), .int l111, .int (g.1 4), .ref lh_75])) := by rw [eh150, tw_up_n ne137]; exact f147
              have f154 : h150 q131 = some (.inl (d.2 1, 6, .inr (.inl F149))) := by rw [eh150]; exact tw_up_s
              refine tw_dup dX10_worldNow_108 rfl ?_
              refine tw_iconst (v := 2) dX10_worldNow_109 (by decide) ?_
              refine tw_aload_n 0 dX10_worldNow_110 rfl rfl ?_
              obtain ⟨e155, f156, th_157, td_158, ds_159, fr_160, ca_161, us_162, wo_163, cm_164, lc_165, lh_166, ld_167, rfl, k168, k169, k170, k171, k172, k173, k174, k175, k176, k177, k178, k179, k180, k181, k182, k183⟩ := sp151.1 x 36 kx (by decide)
              refine tw_get (v := .ref ca_161) rfl in_14 5 dX10_worldNow_111 w_1156 rfl (by decide) f156 rfl ?_
              refine tw_iload_n 1 dX10_worldNow_114 rfl rfl ?_
              obtain ⟨e184, f185, F186, rfl⟩ := sp151.1 ca_161 31 k170 (by decide)
              obtain ⟨v187, ev187⟩ : ∃ y : Int64, F186 (m).toNatClampNeg = y := ⟨_, rfl⟩
              refine tw_lald (v := v187) dX10_worldNow_115 f185 hm ev187 ?_
              refine tw_last dX10_worldNow_116 f154 (vp_in_nI (n := 2) (by decide) (by decide)) ?_
              obtain ⟨F188, eF188⟩ : ∃ z : Nat → Int64, z = vp_updL F149 (2 : Int32).toNatClampNeg v187 := ⟨_, rfl⟩
              rw [← eF188]
              obtain ⟨h189, eh189⟩ : ∃ z : tw_H, z = tw_up h150 q131 (.inl (d.2 1, 6, .inr (.inl F188))) := ⟨_, rfl⟩
              rw [← eh189]
              have sp190 : tw_sp d τ (tw_rm h104 it98) g τ h189 := by rw [eh189]; exact sp151.wl n134 z135
              have f191 : h189 it35 = some (.inr (2, [.int (nI j45), .int l46, .int (g.1 3), .ref lc_11])) := by rw [eh189, tw_up_n ne136]; exact f152
              have f192 : h189 it98 = some (.inr (2, [.int (nI j110), .int l111, .int (g.1 4), .ref lh_75])) := by rw [eh189, tw_up_n ne137]; exact f153
              have f193 : h189 q131 = some (.inl (d.2 1, 6, .inr (.inl F188))) := by rw [eh189]; exact tw_up_s
              refine tw_dup dX10_worldNow_117 rfl ?_
              refine tw_iconst (v := 3) dX10_worldNow_118 (by decide) ?_
              refine tw_aload_n 0 dX10_worldNow_119 rfl rfl ?_
              obtain ⟨e194, f195, th_196, td_197, ds_198, fr_199, ca_200, us_201, wo_202, cm_203, lc_204, lh_205, ld_206, rfl, k207, k208, k209, k210, k211, k212, k213, k214, k215, k216, k217, k218, k219, k220, k221, k222⟩ := sp190.1 x 36 kx (by decide)
              refine tw_get (v := .ref us_201) rfl in_14 6 dX10_worldNow_120 w_1157 rfl (by decide) f195 rfl ?_
              refine tw_iload_n 1 dX10_worldNow_123 rfl rfl ?_
              obtain ⟨e223, f224, F225, rfl⟩ := sp190.1 us_201 31 k210 (by decide)
              obtain ⟨v226, ev226⟩ : ∃ y : Int64, F225 (m).toNatClampNeg = y := ⟨_, rfl⟩
              refine tw_lald (v := v226) dX10_worldNow_124 f224 hm ev226 ?_
              refine tw_last dX10_worldNow_125 f193 (vp_in_nI (n := 3) (by decide) (by decide)) ?_
              obtain ⟨F227, eF227⟩ : ∃ z : Nat → Int64, z = vp_updL F188 (3 : Int32).toNatClampNeg v226 := ⟨_, rfl⟩
              rw [← eF227]
              obtain ⟨h228, eh228⟩ : ∃ z : tw_H, z = tw_up h189 q131 (.inl (d.2 1, 6, .inr (.inl F227))) := ⟨_, rfl⟩
              rw [← eh228]
              have sp229 : tw_sp d τ (tw_rm h104 it98) g τ h228 := by rw [eh228]; exact sp190.wl n134 z135
              have f230 : h228 it35 = some (.inr (2, [.int (nI j45), .int l46, .int (g.1 3), .ref lc_11])) := by rw [eh228, tw_up_n ne136]; exact f191
              have f231 : h228 it98 = some (.inr (2, [.int (nI j110), .int l111, .int (g.1 4), .ref lh_75])) := by rw [eh228, tw_up_n ne137]; exact f192
              have f232 : h228 q131 = some (.inl (d.2 1, 6, .inr (.inl F227))) := by rw [eh228]; exact tw_up_s
              refine tw_dup dX10_worldNow_126 rfl ?_
              refine tw_iconst (v := 4) dX10_worldNow_127 (by decide) ?_
              refine tw_aload_n 0 dX10_worldNow_128 rfl rfl ?_
              obtain ⟨e233, f234, th_235, td_236, ds_237, fr_238, ca_239, us_240, wo_241, cm_242, lc_243, lh_244, ld_245, rfl, k246, k247, k248, k249, k250, k251, k252, k253, k254, k255, k256, k257, k258, k259, k260, k261⟩ := sp229.1 x 36 kx (by decide)
              refine tw_get (v := .ref wo_241) rfl in_14 7 dX10_worldNow_129 w_1158 rfl (by decide) f234 rfl ?_
              refine tw_iload_n 1 dX10_worldNow_132 rfl rfl ?_
              obtain ⟨e262, f263, F264, rfl⟩ := sp229.1 wo_241 31 k250 (by decide)
              obtain ⟨v265, ev265⟩ : ∃ y : Int64, F264 (m).toNatClampNeg = y := ⟨_, rfl⟩
              refine tw_lald (v := v265) dX10_worldNow_133 f263 hm ev265 ?_
              refine tw_last dX10_worldNow_134 f232 (vp_in_nI (n := 4) (by decide) (by decide)) ?_
              obtain ⟨F266, eF266⟩ : ∃ z : Nat → Int64, z = vp_updL F227 (4 : Int32).toNatClampNeg v265 := ⟨_, rfl⟩
              rw [← eF266]
              obtain ⟨h267, eh267⟩ : ∃ z : tw_H, z = tw_up h228 q131 (.inl (d.2 1, 6, .inr (.inl F266))) := ⟨_, rfl⟩
              rw [← eh267]
              have sp268 : tw_sp d τ (tw_rm h104 it98) g τ h267 := by rw [eh267]; exact sp229.wl n134 z135
              have f269 : h267 it35 = some (.inr (2, [.int (nI j45), .int l46, .int (g.1 3), .ref lc_11])) := by rw [eh267, tw_up_n ne136]; exact f230
              have f270 : h267 it98 = some (.inr (2, [.int (nI j110), .int l111, .int (g.1 4), .ref lh_75])) := by rw [eh267, tw_up_n ne137]; exact f231
              have f271 : h267 q131 = some (.inl (d.2 1, 6, .inr (.inl F266))) := by rw [eh267]; exact tw_up_s
              refine tw_dup dX10_worldNow_135 rfl ?_
              refine tw_iconst (v := 5) dX10_worldNow_136 (by decide) ?_
              refine tw_aload_n 0 dX10_worldNow_137 rfl rfl ?_
              obtain ⟨e272, f273, th_274, td_275, ds_276, fr_277, ca_278, us_279, wo_280, cm_281, lc_282, lh_283, ld_284, rfl, k285, k286, k287, k288, k289, k290, k291, k292, k293, k294, k295, k296, k297, k298, k299, k300⟩ := sp268.1 x 36 kx (by decide)
              refine tw_get (v := .ref cm_281) rfl in_14 8 dX10_worldNow_138 w_1159 rfl (by decide) f273 rfl ?_
              refine tw_iload_n 1 dX10_worldNow_141 rfl rfl ?_
              obtain ⟨e301, f302, F303, rfl⟩ := sp268.1 cm_281 31 k290 (by decide)
              obtain ⟨v304, ev304⟩ : ∃ y : Int64, F303 (m).toNatClampNeg = y := ⟨_, rfl⟩
              refine tw_lald (v := v304) dX10_worldNow_142 f302 hm ev304 ?_
              refine tw_last dX10_worldNow_143 f271 (vp_in_nI (n := 5) (by decide) (by decide)) ?_
              obtain ⟨F305, eF305⟩ : ∃ z : Nat → Int64, z = vp_updL F266 (5 : Int32).toNatClampNeg v304 := ⟨_, rfl⟩
              rw [← eF305]
              obtain ⟨h306, eh306⟩ : ∃ z : tw_H, z = tw_up h267 q131 (.inl (d.2 1, 6, .inr (.inl F305))) := ⟨_, rfl⟩
              rw [← eh306]
              have sp307 : tw_sp d τ (tw_rm h104 it98) g τ h306 := by rw [eh306]; exact sp268.wl n134 z135
              have f308 : h306 it35 = some (.inr (2, [.int (nI j45), .int l46, .int (g.1 3), .ref lc_11])) := by rw [eh306, tw_up_n ne136]; exact f269
              have f309 : h306 it98 = some (.inr (2, [.int (nI j110), .int l111, .int (g.1 4), .ref lh_75])) := by rw [eh306, tw_up_n ne137]; exact f270
              have f310 : h306 q131 = some (.inl (d.2 1, 6, .inr (.inl F305))) := by rw [eh306]; exact tw_up_s
              refine tw_astore [(7, .ref q131), (0, .ref x), (1, .int m), (2, .int w9), (3, .long x43), (5, .long x108)] dX10_worldNow_144 (by decide) rfl ?_
              refine tw_aload 0 dX10_worldNow_146 rfl ?_
              refine tw_iload_n 3 dX10_worldNow_148 rfl rfl ?_
              obtain ⟨v311, ev311⟩ : ∃ y : Int64, F305 (w9).toNatClampNeg = y := ⟨_, rfl⟩
              refine tw_lald (v := v311) dX10_worldNow_149 f310 hw9 ev311 ?_
              refine tw_l2i dX10_worldNow_150 ?_
              refine tw_nmi (fun v312 ev312 => ?_)
              exact tw_iret dX10_worldNow_151 rfl (Or.inl ⟨_, rfl, (sp41.trm n38 (sp105.trm n101 sp307))⟩)
            · rw [q127r]
              refine tw_if_eq 95 dX10_worldNow_65 (by decide) (fun c313 => absurd c313 (by decide)) (fun _ => ?_)
              refine tw_aload 5 dX10_worldNow_68 rfl ?_
              have k314 : τ el124 = 28 := k125.resolve_left (fun q => absurd q127j (by rw [q.2.1]; exact Nat.not_lt_zero _))
              obtain ⟨e315, f316, ⟨F317, rfl, hc318, hc319⟩, un320⟩ := sp115.1 el124 28 k314 (by decide)
              obtain ⟨y321, hy322, ky323⟩ := hc319 j110 q127j
              refine tw_br (tw_callF (M := mX10_worldNow) (pc := 70) (n9 := 0) (ci := 2) tw_next ok_itNext w_1425 w_1423 (fun s H z => z.2.2.2.2.2.2.2.2.2) (by decide +kernel) dX10_worldNow_70 w_1420 rfl ft116 [] [] rfl rfl ⟨by decide, by decide⟩ (Nat.le_of_ble_eq_true rfl) (c_next d h114 it98 lh_75 el124 j110 (g.2 4) y321 l111 (g.1 4) F317 ft116 f123 f316 q127j hc318 hy322) 1 6 (Nat.le_of_ble_eq_true rfl) (Nat.le_of_ble_eq_true rfl)) (fun r326 h325 q324 => ?_) (fun E h1 q => q.elim)
              obtain ⟨q324r, q324e⟩ := q324
              rw [q324r]
              have sp327 : tw_sp d τ (tw_rm h104 it98) g τ h325 := by rw [q324e]; exact sp115.wl tw_rm_s zt117
              have f328 : h325 it35 = some (.inr (2, [.int (nI j45), .int l46, .int (g.1 3), .ref lc_11])) := by rw [q324e, tw_up_n ne103]; exact f120
              have f329 : h325 it98 = some (.inr (2, [.int (nI (j110 + 1)), .int (nI j110), .int (g.1 4), .ref lh_75])) := by rw [q324e]; exact tw_up_s
              obtain ⟨e330, f331, x_332, y_333, dy_334, p_335, rfl, k336, k337, k338⟩ := sp327.1 y321 23 ky323 (by decide)
              refine tw_castS (ci := 13) rfl dX10_worldNow_75 w_1336 f331 ?_
              refine tw_astore [(8, .ref y321), (0, .ref x), (1, .int m), (2, .int w9), (3, .long x43), (5, .long x108), (7, .ref it98)] dX10_worldNow_78 (by decide) rfl ?_
              refine tw_lload 5 dX10_worldNow_80 rfl ?_
              refine tw_aload 0 dX10_worldNow_82 rfl ?_
              refine tw_get (v := .ref p_335) rfl in_13 3 dX10_worldNow_84 w_1348 rfl (by decide) f331 rfl ?_
              refine tw_iload_n 2 dX10_worldNow_87 rfl rfl ?_
              obtain ⟨e339, f340, F341, rfl⟩ := sp327.1 p_335 31 k336 (by decide)
              obtain ⟨v342, ev342⟩ : ∃ y : Int64, F341 (m).toNatClampNeg = y := ⟨_, rfl⟩
              refine tw_lald (v := v342) dX10_worldNow_88 f340 hm ev342 ?_
              refine tw_ladd dX10_worldNow_89 ?_
              refine tw_nml (fun v343 ev343 => ?_)
              refine tw_lstore [(5, .long v343), (8, .ref y321), (0, .ref x), (1, .int m), (2, .int w9), (3, .long x43), (7, .ref it98)] dX10_worldNow_90 (by decide) rfl ?_
              refine tw_goto 58 dX10_worldNow_92 (by decide) ?_
              refine tw_lv [2, 3, 4, 5, 0, 6] rfl ?_
              exact ih112 ((j110 + 1)) (nI j110) v343 _ sp327 f329 zt117  (by omega) (by omega)
        refine tw_lv [1, 2, 3, 4, 5, 0] rfl ?_
        exact L113 (g.2 4 + 1) 0 (-1) 0 _ (tw_sp.rm sp105.1 it98) f107 z102  (by omega) (Nat.zero_le _)
      · rw [q60r]
        refine tw_if_eq 49 dX10_worldNow_21 (by decide) (fun c344 => absurd c344 (by decide)) (fun _ => ?_)
        refine tw_aload 5 dX10_worldNow_24 rfl ?_
        have k345 : τ el57 = 27 := k58.resolve_left (fun q => absurd q60j (by rw [q.2.1]; exact Nat.not_lt_zero _))
        obtain ⟨e346, f347, ⟨F348, rfl, hc349, hc350⟩, un351⟩ := sp50.1 el57 27 k345 (by decide)
        obtain ⟨y352, hy353, ky354⟩ := hc350 j45 q60j
        refine tw_br (tw_callF (M := mX10_worldNow) (pc := 26) (n9 := 0) (ci := 2) tw_next ok_itNext w_1425 w_1423 (fun s H z => z.2.2.2.2.2.2.2.2.2) (by decide +kernel) dX10_worldNow_26 w_1420 rfl ft51 [] [] rfl rfl ⟨by decide, by decide⟩ (Nat.le_of_ble_eq_true rfl) (c_next d h49 it35 lc_11 el57 j45 (g.2 3) y352 l46 (g.1 3) F348 ft51 f56 f347 q60j hc349 hy353) 2 10 (Nat.le_of_ble_eq_true rfl) (Nat.le_of_ble_eq_true rfl)) (fun r357 h356 q355 => ?_) (fun E h1 q => q.elim)
        obtain ⟨q355r, q355e⟩ := q355
        rw [q355r]
        have sp358 : tw_sp d τ (tw_rm h40 it35) g τ h356 := by rw [q355e]; exact sp50.wl tw_rm_s zt52
        have f359 : h356 it35 = some (.inr (2, [.int (nI (j45 + 1)), .int (nI j45), .int (g.1 3), .ref lc_11])) := by rw [q355e]; exact tw_up_s
        obtain ⟨e360, f361, r_362, c_363, v_364, o_365, t_366, rfl, k367, k368, k369, k370, k371⟩ := sp358.1 y352 21 ky354 (by decide)
        refine tw_castS (ci := 11) rfl dX10_worldNow_31 w_1212 f361 ?_
        refine tw_astore [(8, .ref y352), (0, .ref x), (1, .int m), (2, .int w9), (3, .long x43), (5, .long 0), (7, .ref it35)] dX10_worldNow_34 (by decide) rfl ?_
        refine tw_lload_n 4 dX10_worldNow_36 rfl rfl ?_
        refine tw_aload 0 dX10_worldNow_37 rfl ?_
        refine tw_get (v := .ref v_364) rfl in_11 2 dX10_worldNow_39 w_1221 rfl (by decide) f361 rfl ?_
        refine tw_iload_n 2 dX10_worldNow_42 rfl rfl ?_
        obtain ⟨e372, f373, F374, rfl⟩ := sp358.1 v_364 31 k367 (by decide)
        obtain ⟨v375, ev375⟩ : ∃ y : Int64, F374 (m).toNatClampNeg = y := ⟨_, rfl⟩
        refine tw_lald (v := v375) dX10_worldNow_43 f373 hm ev375 ?_
        refine tw_ladd dX10_worldNow_44 ?_
        refine tw_nml (fun v376 ev376 => ?_)
        refine tw_lstore_n [(3, .long v376), (8, .ref y352), (0, .ref x), (1, .int m), (2, .int w9), (5, .long 0), (7, .ref it35)] dX10_worldNow_45 rfl (by decide) rfl ?_
        refine tw_goto 14 dX10_worldNow_46 (by decide) ?_
        refine tw_lv [2, 3, 4, 0, 5, 6] rfl ?_
        exact ih47 ((j45 + 1)) (nI j45) v376 _ sp358 f359 zt52  (by omega) (by omega)
  refine tw_lv [3, 4, 5, 2, 1, 0] rfl ?_
  exact L48 (g.2 3 + 1) 0 (-1) 0 _ (tw_sp.rm sp41.1 it35) f42 z39  (by omega) (Nat.zero_le _)

set_option maxHeartbeats 4000000 in
set_option maxRecDepth 100000 in
theorem c_X10_world (d : tw_D) (g : tw_G) (τ : tw_K) (h : tw_H) (hw : tw_wt d g τ h) (x : Nat) (kx : τ x = 36) (m : Int32) (w9 : Int32) : tw_Ct d mX10_world 3 14 [.ref x, .int m, .int w9] h (tw_qi (fun r h1 => tw_sp d τ h g τ h1) tw_nx) := by
  refine tw_of (by decide +kernel) (Nat.le_of_ble_eq_true rfl) ?_
  show tw_W d mX10_world _ 0 [(0, .ref x), (1, .int m), (2, .int w9)] [] h 3 14
  have sp0 := tw_sp.rf hw
  refine tw_aload_n 0 dX10_world_0 rfl rfl ?_
  refine tw_iload_n 1 dX10_world_1 rfl rfl ?_
  refine tw_bi (tw_callS (M := mX10_world) (pc := 2) okX10_isNoMetal dX10_world_2 w_1312 [.int m] [.ref x] rfl rfl ⟨by decide, by decide⟩ (Nat.le_of_ble_eq_true rfl) (c_X10_isNoMetal d g τ h sp0.1 m) 3 14 (Nat.le_of_ble_eq_true rfl) (Nat.le_of_ble_eq_true rfl)) (fun r3 h2 q1 => ?_) (fun E h1 q => q.elim)
  obtain ⟨q1e, q1d⟩ := q1
  rw [q1e]
  rcases q1d with q1r | ⟨q1r, q1m⟩
  · rw [q1r]
    refine tw_if_ne 17 dX10_world_5 (by decide) (fun _ => ?_) (fun c4 => absurd c4 (by decide))
    refine tw_iconst (v := 1) dX10_world_17 (by decide) ?_
    refine tw_goto 22 dX10_world_18 (by decide) ?_
    refine tw_iconst (v := 1) dX10_world_22 (by decide) ?_
    obtain ⟨e5, f6, th_7, td_8, ds_9, fr_10, ca_11, us_12, wo_13, cm_14, lc_15, lh_16, ld_17, rfl, k18, k19, k20, k21, k22, k23, k24, k25, k26, k27, k28, k29, k30, k31, k32, k33⟩ := sp0.1 x 36 kx (by decide)
    refine tw_bi (tw_callV (M := mX10_world) (pc := 23) okX10_start dX10_world_23 w_1200 rfl f6 [.int 1, .int 1] [] rfl rfl ⟨by decide, by decide⟩ (Nat.le_of_ble_eq_true rfl) (c_X10_start d g τ h sp0.1 x kx 1 1 (by decide)) 3 14 (Nat.le_of_ble_eq_true rfl) (Nat.le_of_ble_eq_true rfl)) (fun r36 h35 q34 => ?_) (fun E h1 q => q.elim)
    obtain ⟨e37, he38, hs39, hr40, h341⟩ := q34
    have sp42 : tw_sp d τ h g τ h35 := by rw [he38]; exact sp0.set kx (by decide) hs39
    rcases hr40 with ei43 | ⟨ei43, ei43b⟩
    · rw [ei43]
      refine tw_if_eq 33 dX10_world_26 (by decide) (fun c44 => absurd c44 (by decide)) (fun _ => ?_)
      refine tw_iconst (v := 0) dX10_world_29 (by decide) ?_
      refine tw_goto 39 dX10_world_30 (by decide) ?_
      exact tw_iret dX10_world_39 rfl (Or.inl ⟨_, rfl, sp42⟩)
    · exact absurd ei43b (by decide)
  · rw [q1r]
    refine tw_if_ne 17 dX10_world_5 (by decide) (fun c45 => absurd (by decide) c45) (fun _ => ?_)
    refine tw_iload_n 2 dX10_world_8 rfl rfl ?_
    refine tw_iconst (v := 0) dX10_world_9 (by decide) ?_
    refine tw_iconst (v := 5) dX10_world_10 (by decide) ?_
    refine tw_bi (tw_callS (M := mX10_world) (pc := 11) okX10_isIn dX10_world_11 w_1196 [.int w9, .int 0, .int 5] [.ref x] rfl rfl ⟨by decide, by decide⟩ (Nat.le_of_ble_eq_true rfl) (c_X10_isIn d g τ h sp0.1 w9 0 5) 3 14 (Nat.le_of_ble_eq_true rfl) (Nat.le_of_ble_eq_true rfl)) (fun r48 h47 q46 => ?_) (fun E h1 q => q.elim)
    obtain ⟨q46e, q46d⟩ := q46
    rw [q46e]
    rcases q46d with ⟨q46r, q46n⟩ | ⟨q46r, q46a, q46b⟩
    · rw [q46r]
      refine tw_if_ne 21 dX10_world_14 (by decide) (fun c49 => absurd (by decide) c49) (fun _ => ?_)
      refine tw_iconst (v := 1) dX10_world_17 (by decide) ?_
      refine tw_goto 22 dX10_world_18 (by decide) ?_
      refine tw_iconst (v := 1) dX10_world_22 (by decide) ?_
      obtain ⟨e50, f51, th_52, td_53, ds_54, fr_55, ca_56, us_57, wo_58, cm_59, lc_60, lh_61, ld_62, rfl, k63, k64, k65, k66, k67, k68, k69, k70, k71, k72, k73, k74, k75, k76, k77, k78⟩ := sp0.1 x 36 kx (by decide)
      refine tw_bi (tw_callV (M := mX10_world) (pc := 23) okX10_start dX10_world_23 w_1200 rfl f51 [.int 1, .int 1] [] rfl rfl ⟨by decide, by decide⟩ (Nat.le_of_ble_eq_true rfl) (c_X10_start d g τ h sp0.1 x kx 1 1 (by decide)) 3 14 (Nat.le_of_ble_eq_true rfl) (Nat.le_of_ble_eq_true rfl)) (fun r81 h80 q79 => ?_) (fun E h1 q => q.elim)
      obtain ⟨e82, he83, hs84, hr85, h386⟩ := q79
      have sp87 : tw_sp d τ h g τ h80 := by rw [he83]; exact sp0.set kx (by decide) hs84
      rcases hr85 with ei88 | ⟨ei88, ei88b⟩
      · rw [ei88]
        refine tw_if_eq 33 dX10_world_26 (by decide) (fun c89 => absurd c89 (by decide)) (fun _ => ?_)
        refine tw_iconst (v := 0) dX10_world_29 (by decide) ?_
        refine tw_goto 39 dX10_world_30 (by decide) ?_
        exact tw_iret dX10_world_39 rfl (Or.inl ⟨_, rfl, sp87⟩)
      · exact absurd ei88b (by decide)
    · rw [q46r]
      refine tw_if_ne 21 dX10_world_14 (by decide) (fun _ => ?_) (fun c90 => absurd c90 (by decide))
      refine tw_iconst (v := 0) dX10_world_21 (by decide) ?_
      refine tw_iconst (v := 1) dX10_world_22 (by decide) ?_
      obtain ⟨e91, f92, th_93, td_94, ds_95, fr_96, ca_97, us_98, wo_99, cm_100, lc_101, lh_102, ld_103, rfl, k104, k105, k106, k107, k108, k109, k110, k111, k112, k113, k114, k115, k116, k117, k118, k119⟩ := sp0.1 x 36 kx (by decide)
      refine tw_bi (tw_callV (M := mX10_world) (pc := 23) okX10_start dX10_world_23 w_1200 rfl f92 [.int 0, .int 1] [] rfl rfl ⟨by decide, by decide⟩ (Nat.le_of_ble_eq_true rfl) (c_X10_start d g τ h sp0.1 x kx 0 1 (by decide)) 3 14 (Nat.le_of_ble_eq_true rfl) (Nat.le_of_ble_eq_true rfl)) (fun r122 h121 q120 => ?_) (fun E h1 q => q.elim)
      obtain ⟨e123, he124, hs125, hr126, h3127⟩ := q120
      have sp128 : tw_sp d τ h g τ h121 := by rw [he124]; exact sp0.set kx (by decide) hs125
      rcases hr126 with ei129 | ⟨ei129, ei129b⟩
      · rw [ei129]
        refine tw_if_eq 33 dX10_world_26 (by decide) (fun c130 => absurd c130 (by decide)) (fun _ => ?_)
        refine tw_iconst (v := 0) dX10_world_29 (by decide) ?_
        refine tw_goto 39 dX10_world_30 (by decide) ?_
        exact tw_iret dX10_world_39 rfl (Or.inl ⟨_, rfl, sp128⟩)
      · rw [ei129]
        refine tw_if_eq 33 dX10_world_26 (by decide) (fun _ => ?_) (fun c131 => absurd (by decide) c131)
        refine tw_aload_n 0 dX10_world_33 rfl rfl ?_
        refine tw_iload_n 1 dX10_world_34 rfl rfl ?_
        refine tw_iload_n 2 dX10_world_35 rfl rfl ?_
        obtain ⟨e132, f133, th_134, td_135, ds_136, fr_137, ca_138, us_139, wo_140, cm_141, lc_142, lh_143, ld_144, rfl, k145, k146, k147, k148, k149, k150, k151, k152, k153, k154, k155, k156, k157, k158, k159, k160⟩ := sp128.1 x 36 kx (by decide)
        refine tw_bi (tw_callV (M := mX10_world) (pc := 36) okX10_worldNow dX10_world_36 w_1537 rfl f133 [.int m, .int w9] [] rfl rfl ⟨by decide, by decide⟩ (Nat.le_of_ble_eq_true rfl) (c_X10_worldNow d g τ h121 sp128.1 x kx m w9 (tw_in01 q1m (by decide)) (tw_irng (N := 6) q46a q46b (by decide) (by decide))) 0 0 (Nat.le_of_ble_eq_true rfl) (Nat.le_of_ble_eq_true rfl)) (fun r163 h162 q161 => ?_) (fun E h1 q => q.elim)
        have sp164 := sp128.tr q161
        exact tw_iret dX10_world_39 rfl (Or.inl ⟨_, rfl, sp164⟩)

set_option maxHeartbeats 4000000 in
set_option maxRecDepth 100000 in
theorem c_X10_ofCountryNow (d : tw_D) (g : tw_G) (τ : tw_K) (h : tw_H) (hw : tw_wt d g τ h) (x : Nat) (kx : τ x = 36) (w9 : Int32) (a : Nat) (ha : a < g.2 3) (hw9 : vp_in w9 9) : tw_Ct d mX10_ofCountryNow 3 17 [.ref x, .int (nI a), .int w9] h (tw_qi (fun r h1 => tw_sp d τ h g τ h1) tw_nx) := by
  refine tw_of (by decide +kernel) (Nat.le_of_ble_eq_true rfl) ?_
  show tw_W d mX10_ofCountryNow _ 0 [(0, .ref x), (1, .int (nI a)), (2, .int w9)] [] h 3 17
  have sp0 := tw_sp.rf hw
  refine tw_aload_n 0 dX10_ofCountryNow_0 rfl rfl ?_
  obtain ⟨e1, f2, th_3, td_4, ds_5, fr_6, ca_7, us_8, wo_9, cm_10, lc_11, lh_12, ld_13, rfl, k14, k15, k16, k17, k18, k19, k20, k21, k22, k23, k24, k25, k26, k27, k28, k29⟩ := sp0.1 x 36 kx (by decide)
  refine tw_get (v := .ref lc_11) rfl in_14 9 dX10_ofCountryNow_1 w_1160 rfl (by decide) f2 rfl ?_
  refine tw_iload_n 1 dX10_ofCountryNow_4 rfl rfl ?_
  obtain ⟨e30, f31, ⟨el32, rfl, k33⟩, k34⟩ := sp0.1 lc_11 24 k20 (by decide)
  refine tw_br (tw_callV (M := mX10_ofCountryNow) (pc := 5) okJx4a65c_get_915e3 dX10_ofCountryNow_5 w_1296 rfl f31 [.int (nI a)] [] rfl rfl ⟨by decide, by decide⟩ (Nat.le_of_ble_eq_true rfl) (c24_get d g τ h sp0.1 lc_11 k20 a (by omega) (by omega)) 3 17 (Nat.le_of_ble_eq_true rfl) (Nat.le_of_ble_eq_true rfl)) (fun r37 h36 q35 => ?_) (fun E h1 q => q.elim)
  obtain ⟨q35e, q35k⟩ := q35
  rw [q35e]
  have el38 : tw_el h (g.2 12) a = r37 := by rw [← k34]; exact q35k.2.symm
  have kl39 : τ (g.2 12) = 24 := by rw [← k34]; exact k20
  obtain ⟨e40, f41, r_42, c_43, v_44, o_45, t_46, rfl, k47, k48, k49, k50, k51⟩ := sp0.1 r37 21 q35k.1 (by decide)
  refine tw_castS (ci := 11) rfl dX10_ofCountryNow_8 w_1212 f41 ?_
  refine tw_astore_n [(3, .ref r37), (0, .ref x), (1, .int (nI a)), (2, .int w9)] dX10_ofCountryNow_11 rfl (by decide) rfl ?_
  refine tw_iconst (v := 0) dX10_ofCountryNow_12 (by decide) ?_
  refine tw_istore [(4, .int 0), (3, .ref r37), (0, .ref x), (1, .int (nI a)), (2, .int w9)] dX10_ofCountryNow_13 (by decide) rfl ?_
  refine tw_iconst (v := 0) dX10_ofCountryNow_15 (by decide) ?_
  refine tw_istore [(5, .int 0), (4, .int 0), (3, .ref r37), (0, .ref x), (1, .int (nI a)), (2, .int w9)] dX10_ofCountryNow_16 (by decide) rfl ?_
  refine tw_iconst (v := 0) dX10_ofCountryNow_18 (by decide) ?_
  refine tw_istore [(6, .int 0), (5, .int 0), (4, .int 0), (3, .ref r37), (0, .ref x), (1, .int (nI a)), (2, .int w9)] dX10_ofCountryNow_19 (by decide) rfl ?_
  refine tw_aload_n 4 dX10_ofCountryNow_21 rfl rfl ?_
  refine tw_get (v := .ref lh_12) rfl in_14 10 dX10_ofCountryNow_22 w_1161 rfl (by decide) f2 rfl ?_
  obtain ⟨e52, f53, ⟨el54, rfl, k55⟩, k56⟩ := sp0.1 lh_12 25 k21 (by decide)
  refine tw_br (tw_callV (M := mX10_ofCountryNow) (pc := 25) okJx4a65c_iterator_32c93 dX10_ofCountryNow_25 w_1386 rfl f53 [] [] rfl rfl ⟨by decide, by decide⟩ (Nat.le_of_ble_eq_true rfl) (c_iterator d h lh_12 el54 (g.1 4) (nI (g.2 4)) f53) 2 13 (Nat.le_of_ble_eq_true rfl) (Nat.le_of_ble_eq_true rfl)) (fun it57 h58 q59 => ?_) (fun E h1 q => q.elim)
  obtain ⟨q59n, q59e⟩ := q59
  rw [q59e]
  have n60 := sp0.nn q59n
  have z61 := sp0.1.none q59n
  obtain ⟨h62, eh62⟩ : ∃ z : tw_H, z = tw_up h it57 (.inr (2, [.int 0, .int (-1), .int (g.1 4), .ref lh_12])) := ⟨_, rfl⟩
  rw [← eh62]
  have sp63 : tw_sp d τ h g τ h62 := by rw [eh62]; exact sp0.mk q59n
  have f64 : h62 it57 = some (.inr (2, [.int 0, .int (-1), .int (g.1 4), .ref lh_12])) := by rw [eh62]; exact tw_up_s
  refine tw_astore [(7, .ref it57), (6, .int 0), (5, .int 0), (4, .int 0), (3, .ref r37), (0, .ref x), (1, .int (nI a)), (2, .int w9)] dX10_ofCountryNow_28 (by decide) rfl ?_
  have L70 : ∀ (r66 j67 : Nat) (l68 : Int32) (x65 : Int32) (h71 : tw_H) (sp72 : tw_sp d τ (tw_rm h62 it57) g τ h71) (ft73 : h71 it57 = some (.inr (2, [.int (nI j67), .int l68, .int (g.1 4), .ref lh_12]))) (zt74 : τ it57 = 0), g.2 4 + 1 ≤ j67 + r66 → j67 ≤ g.2 4 → tw_W d mX10_ofCountryNow (tw_qi (fun r h1 => tw_sp d τ h g τ h1) tw_nx) 30 [(0, .ref x), (1, .int (nI a)), (2, .int w9), (3, .ref r37), (4, .int x65), (5, .int 0), (6, .int 0), (7, .ref it57)] [] h71 2 13 := by
    intro r66
    induction r66 with
    | zero => intro j67 l68 x65 h71 sp72 ft73 zt74 hk75 hk76; exact absurd hk75 (by omega)
    | succ r66 ih69 =>
      intro j67 l68 x65 h71 sp72 ft73 zt74 hk75 hk76
      refine tw_aload 7 dX10_ofCountryNow_30 rfl ?_
      obtain ⟨e77, f78, ⟨el79, rfl, k80⟩, k81⟩ := sp72.1 lh_12 25 k21 (by decide)
      refine tw_bi (tw_callF (M := mX10_ofCountryNow) (pc := 32) (n9 := 0) (ci := 2) tw_hasNext ok_itHas w_1416 w_1414 (fun s H z => z.2.2.2.2.2.2.2.2.1) (by decide +kernel) dX10_ofCountryNow_32 w_1410 rfl ft73 [] [] rfl rfl ⟨by decide, by decide⟩ (Nat.le_of_ble_eq_true rfl) (c_hasNext d h71 it57 lh_12 el79 j67 (g.2 4) l68 (g.1 4) (g.1 4) ft73 f78 (by omega) (tw_lim25 sp72.1 k21)) 2 13 (Nat.le_of_ble_eq_true rfl) (Nat.le_of_ble_eq_true rfl)) (fun r84 h83 q82 => ?_) (fun E h1 q => q.elim)
      obtain ⟨q82e, q82q⟩ := q82
      rw [q82e]
      rcases q82q with ⟨q82r, q82j⟩ | ⟨q82r, q82j⟩
      · rw [q82r]
        refine tw_if_eq 74 dX10_ofCountryNow_37 (by decide) (fun _ => ?_) (fun c85 => absurd (by decide) c85)
        refine tw_iconst (v := 0) dX10_ofCountryNow_74 (by decide) ?_
        refine tw_istore [(7, .int 0), (0, .ref x), (1, .int (nI a)), (2, .int w9), (3, .ref r37), (4, .int x65), (5, .int 0), (6, .int 0)] dX10_ofCountryNow_75 (by decide) rfl ?_
        have L90 : ∀ (r88 k87 : Nat) (x86 : Int32), 5 + 1 ≤ k87 + r88 → k87 ≤ 5 → tw_W d mX10_ofCountryNow (tw_qi (fun r h1 => tw_sp d τ h g τ h1) tw_nx) 77 [(0, .ref x), (1, .int (nI a)), (2, .int w9), (3, .ref r37), (4, .int x65), (5, .int x86), (6, .int 0), (7, .int (nI k87))] [] h71 2 13 := by
          intro r88
          induction r88 with
          | zero => intro k87 x86 hk94 hk95; exact absurd hk94 (by omega)
          | succ r88 ih89 =>
            intro k87 x86 hk94 hk95
            refine tw_iload 7 dX10_ofCountryNow_77 rfl ?_
            refine tw_iconst (v := 5) dX10_ofCountryNow_79 (by decide) ?_
            refine tw_icmp_ge 108 dX10_ofCountryNow_80 (by decide) (fun c96 => ?_) (fun c96 => ?_)
            · refine tw_aload_n 0 dX10_ofCountryNow_108 rfl rfl ?_
              obtain ⟨e97, f98, th_99, td_100, ds_101, fr_102, ca_103, us_104, wo_105, cm_106, lc_107, lh_108, ld_109, rfl, k110, k111, k112, k113, k114, k115, k116, k117, k118, k119, k120, k121, k122, k123, k124, k125⟩ := sp72.1 x 36 kx (by decide)
              refine tw_get (v := .ref lc_107) rfl in_14 9 dX10_ofCountryNow_109 w_1160 rfl (by decide) f98 rfl ?_
              obtain ⟨e126, f127, ⟨el128, rfl, k129⟩, k130⟩ := sp72.1 lc_107 24 k116 (by decide)
              refine tw_br (tw_callV (M := mX10_ofCountryNow) (pc := 112) okJx4a65c_iterator_32c93 dX10_ofCountryNow_112 w_1386 rfl f127 [] [] rfl rfl ⟨by decide, by decide⟩ (Nat.le_of_ble_eq_true rfl) (c_iterator d h71 lc_107 el128 (g.1 3) (nI (g.2 3)) f127) 1 9 (Nat.le_of_ble_eq_true rfl) (Nat.le_of_ble_eq_true rfl)) (fun it131 h132 q133 => ?_) (fun E h1 q => q.elim)
              obtain ⟨q133n, q133e⟩ := q133
              rw [q133e]
              have n134 := sp72.nn q133n
              have z135 := sp72.1.none q133n
              have ne136 := tw_neF ft73 q133n
              obtain ⟨h137, eh137⟩ : ∃ z : tw_H, z = tw_up h71 it131 (.inr (2, [.int 0, .int (-1), .int (g.1 3), .ref lc_107])) := ⟨_, rfl⟩
              rw [← eh137]
              have sp138 : tw_sp d τ (tw_rm h62 it57) g τ h137 := by rw [eh137]; exact sp72.mk q133n
              have f139 : h137 it57 = some (.inr (2, [.int (nI j67), .int l68, .int (g.1 4), .ref lh_12])) := by rw [eh137, tw_up_n ne136]; exact ft73
              have f140 : h137 it131 = some (.inr (2, [.int 0, .int (-1), .int (g.1 3), .ref lc_107])) := by rw [eh137]; exact tw_up_s
              refine tw_astore [(7, .ref it131), (0, .ref x), (1, .int (nI a)), (2, .int w9), (3, .ref r37), (4, .int x65), (5, .int x86), (6, .int 0)] dX10_ofCountryNow_115 (by decide) rfl ?_
              have L146 : ∀ (r142 j143 : Nat) (l144 : Int32) (x141 : Int32) (h147 : tw_H) (sp148 : tw_sp d τ (tw_rm h137 it131) g τ h147) (ft149 : h147 it131 = some (.inr (2, [.int (nI j143), .int l144, .int (g.1 3), .ref lc_107]))) (zt150 : τ it131 = 0), g.2 3 + 1 ≤ j143 + r142 → j143 ≤ g.2 3 → tw_W d mX10_ofCountryNow (tw_qi (fun r h1 => tw_sp d τ h g τ h1) tw_nx) 117 [(0, .ref x), (1, .int (nI a)), (2, .int w9), (3, .ref r37), (4, .int x65), (5, .int x86), (6, .int x141), (7, .ref it131)] [] h147 1 9 := by
                intro r142
                induction r142 with
                | zero => intro j143 l144 x141 h147 sp148 ft149 zt150 hk151 hk152; exact absurd hk151 (by omega)
                | succ r142 ih145 =>
                  intro j143 l144 x141 h147 sp148 ft149 zt150 hk151 hk152
                  have f153 := (sp148.2.2 _ _ (by unfold tw_rm; rw [if_neg ne136]; exact f139) zt74).1
                  have z154 := (sp148.2.2 _ _ (by unfold tw_rm; rw [if_neg ne136]; exact f139) zt74).2
                  refine tw_aload 7 dX10_ofCountryNow_117 rfl ?_
                  obtain ⟨e155, f156, ⟨el157, rfl, k158⟩, k159⟩ := sp148.1 lc_107 24 k116 (by decide)
                  refine tw_bi (tw_callF (M := mX10_ofCountryNow) (pc := 119) (n9 := 0) (ci := 2) tw_hasNext ok_itHas w_1416 w_1414 (fun s H z => z.2.2.2.2.2.2.2.2.1) (by decide +kernel) dX10_ofCountryNow_119 w_1410 rfl ft149 [] [] rfl rfl ⟨by decide, by decide⟩ (Nat.le_of_ble_eq_true rfl) (c_hasNext d h147 it131 lc_107 el157 j143 (g.2 3) l144 (g.1 3) (g.1 3) ft149 f156 (by omega) (tw_lim24 sp148.1 k116)) 1 9 (Nat.le_of_ble_eq_true rfl) (Nat.le_of_ble_eq_true rfl)) (fun r162 h161 q160 => ?_) (fun E h1 q => q.elim)
                  obtain ⟨q160e, q160q⟩ := q160
                  rw [q160e]
                  rcases q160q with ⟨q160r, q160j⟩ | ⟨q160r, q160j⟩
                  · rw [q160r]
                    refine tw_if_eq 164 dX10_ofCountryNow_124 (by decide) (fun _ => ?_) (fun c163 => absurd (by decide) c163)
                    refine tw_bipush (v := 9) dX10_ofCountryNow_164 (by decide) ?_
                    refine tw_newa (a0 := (9, .inr (.inl (fun _ => 0)))) 1 rfl dX10_ofCountryNow_166 rfl w_1150 (fun _ => rfl) (by decide) (by decide) (by decide) 0 0 (Nat.le_of_ble_eq_true rfl) (Nat.le_of_ble_eq_true rfl) (fun q164 hq165 hA166 => ?_)
                    have n167 := sp148.nn hq165
                    have z168 := sp148.1.none hq165
                    have ne169 := tw_neF f153 hq165
                    have ne170 := tw_neF ft149 hq165
                    obtain ⟨h171, eh171⟩ : ∃ z : tw_H, z = tw_up h147 q164 (.inl (d.2 1, 9, .inr (.inl (fun _ => 0)))) := ⟨_, rfl⟩
                    rw [← eh171]
                    have sp172 : tw_sp d τ (tw_rm h137 it131) g τ h171 := by rw [eh171]; exact sp148.mk hq165
                    have f173 : h171 it57 = some (.inr (2, [.int (nI j67), .int l68, .int (g.1 4), .ref lh_12])) := by rw [eh171, tw_up_n ne169]; exact f153
                    have f174 : h171 it131 = some (.inr (2, [.int (nI j143), .int l144, .int (g.1 3), .ref lc_107])) := by rw [eh171, tw_up_n ne170]; exact ft149
                    have f175 : h171 q164 = some (.inl (d.2 1, 9, .inr (.inl (fun _ => 0)))) := by rw [eh171]; exact tw_up_s
                    refine tw_dup dX10_ofCountryNow_168 rfl ?_
                    refine tw_iconst (v := 0) dX10_ofCountryNow_169 (by decide) ?_
                    refine tw_aload_n 3 dX10_ofCountryNow_170 rfl rfl ?_
                    obtain ⟨e176, f177, r_178, c_179, v_180, o_181, t_182, rfl, k183, k184, k185, k186, k187⟩ := sp172.1 r37 21 q35k.1 (by decide)
                    refine tw_get (v := .int r_178) rfl in_11 0 dX10_ofCountryNow_171 w_1218 rfl (by decide) f177 rfl ?_
                    refine tw_i2l dX10_ofCountryNow_174 ?_
                    refine tw_nml (fun v188 ev188 => ?_)
                    refine tw_last dX10_ofCountryNow_175 f175 (vp_in_nI (n := 0) (by decide) (by decide)) ?_
                    obtain ⟨F189, eF189⟩ : ∃ z : Nat → Int64, z = vp_updL (fun _ => 0) (0 : Int32).toNatClampNeg v188 := ⟨_, rfl⟩
                    rw [← eF189]
                    obtain ⟨h190, eh190⟩ : ∃ z : tw_H, z = tw_up h171 q164 (.inl (d.2 1, 9, .inr (.inl F189))) := ⟨_, rfl⟩
                    rw [← eh190]
                    have sp191 : tw_sp d τ (tw_rm h137 it131) g τ h190 := by rw [eh190]; exact sp172.wl n167 z168
                    have f192 : h190 it57 = some (.inr (2, [.int (nI j67), .int l68, .int (g.1 4), .ref lh_12])) := by rw [eh190, tw_up_n ne169]; exact f173
                    have f193 : h190 it131 = some (.inr (2, [.int (nI j143), .int l144, .int (g.1 3), .ref lc_107])) := by rw [eh190, tw_up_n ne170]; exact f174
                    have f194 : h190 q164 = some (.inl (d.2 1, 9, .inr (.inl F189))) := by rw [eh190]; exact tw_up_s
                    refine tw_dup dX10_ofCountryNow_176 rfl ?_
                    refine tw_iconst (v := 1) dX10_ofCountryNow_177 (by decide) ?_
                    refine tw_aload_n 3 dX10_ofCountryNow_178 rfl rfl ?_
                    obtain ⟨e195, f196, r_197, c_198, v_199, o_200, t_201, rfl, k202, k203, k204, k205, k206⟩ := sp191.1 r37 21 q35k.1 (by decide)
                    refine tw_get (v := .int c_198) rfl in_11 1 dX10_ofCountryNow_179 w_1219 rfl (by decide) f196 rfl ?_
                    refine tw_i2l dX10_ofCountryNow_182 ?_
                    refine tw_nml (fun v207 ev207 => ?_)
                    refine tw_last dX10_ofCountryNow_183 f194 (vp_in_nI (n := 1) (by decide) (by decide)) ?_
                    obtain ⟨F208, eF208⟩ : ∃ z : Nat → Int64, z = vp_updL F189 (1 : Int32).toNatClampNeg v207 := ⟨_, rfl⟩
                    rw [← eF208]
                    obtain ⟨h209, eh209⟩ : ∃ z : tw_H, z = tw_up h190 q164 (.inl (d.2 1, 9, .inr (.inl F208))) := ⟨_, rfl⟩
                    rw [← eh209]
                    have sp210 : tw_sp d τ (tw_rm h137 it131) g τ h209 := by rw [eh209]; exact sp191.wl n167 z168
                    have f211 : h209 it57 = some (.inr (2, [.int (nI j67), .int l68, .int (g.1 4), .ref lh_12])) := by rw [eh209, tw_up_n ne169]; exact f192
                    have f212 : h209 it131 = some (.inr (2, [.int (nI j143), .int l144, .int (g.1 3), .ref lc_107])) := by rw [eh209, tw_up_n ne170]; exact f193
                    have f213 : h209 q164 = some (.inl (d.2 1, 9, .inr (.inl F208))) := by rw [eh209]; exact tw_up_s
                    refine tw_dup dX10_ofCountryNow_184 rfl ?_
                    refine tw_iconst (v := 2) dX10_ofCountryNow_185 (by decide) ?_
                    refine tw_aload_n 3 dX10_ofCountryNow_186 rfl rfl ?_
                    obtain ⟨e214, f215, r_216, c_217, v_218, o_219, t_220, rfl, k221, k222, k223, k224, k225⟩ := sp210.1 r37 21 q35k.1 (by decide)
                    refine tw_get (v := .ref v_218) rfl in_11 2 dX10_ofCountryNow_187 w_1221 rfl (by decide) f215 rfl ?_
                    refine tw_iconst (v := 0) dX10_ofCountryNow_190 (by decide) ?_
                    obtain ⟨e226, f227, F228, rfl⟩ := sp210.1 v_218 31 k221 (by decide)
                    obtain ⟨v229, ev229⟩ : ∃ y : Int64, F228 (0 : Int32).toNatClampNeg = y := ⟨_, rfl⟩
                    refine tw_lald (v := v229) dX10_ofCountryNow_191 f227 (vp_in_nI (n := 0) (by decide) (by decide)) ev229 ?_
                    refine tw_last dX10_ofCountryNow_192 f213 (vp_in_nI (n := 2) (by decide) (by decide)) ?_
                    obtain ⟨F230, eF230⟩ : ∃ z : Nat → Int64, z = vp_updL F208 (2 : Int32).toNatClampNeg v229 := ⟨_, rfl⟩
                    rw [← eF230]
                    obtain ⟨h231, eh231⟩ : ∃ z : tw_H, z = tw_up h209 q164 (.inl (d.2 1, 9, .inr (.inl F230))) := ⟨_, rfl⟩
                    rw [← eh231]
                    have sp232 : tw_sp d τ (tw_rm h137 it131) g τ h231 := by rw [eh231]; exact sp210.wl n167 z168
                    have f233 : h231 it57 = some (.inr (2, [.int (nI j67), .int l68, .int (g.1 4), .ref lh_12])) := by rw [eh231, tw_up_n ne169]; exact f211
                    have f234 : h231 it131 = some (.inr (2, [.int (nI j143), .int l144, .int (g.1 3), .ref lc_107])) := by rw [eh231, tw_up_n ne170]; exact f212
                    have f235 : h231 q164 = some (.inl (d.2 1, 9, .inr (.inl F230))) := by rw [eh231]; exact tw_up_s
                    refine tw_dup dX10_ofCountryNow_193 rfl ?_
                    refine tw_iconst (v := 3) dX10_ofCountryNow_194 (by decide) ?_
                    refine tw_aload_n 3 dX10_ofCountryNow_195 rfl rfl ?_
                    obtain ⟨e236, f237, r_238, c_239, v_240, o_241, t_242, rfl, k243, k244, k245, k246, k247⟩ := sp232.1 r37 21 q35k.1 (by decide)
                    refine tw_get (v := .ref v_240) rfl in_11 2 dX10_ofCountryNow_196 w_1221 rfl (by decide) f237 rfl ?_
                    refine tw_iconst (v := 1) dX10_ofCountryNow_199 (by decide) ?_
                    obtain ⟨e248, f249, F250, rfl⟩ := sp232.1 v_240 31 k243 (by decide)
                    obtain ⟨v251, ev251⟩ : ∃ y : Int64, F250 (1 : Int32).toNatClampNeg = y := ⟨_, rfl⟩
                    refine tw_lald (v := v251) dX10_ofCountryNow_200 f249 (vp_in_nI (n := 1) (by decide) (by decide)) ev251 ?_
                    refine tw_last dX10_ofCountryNow_201 f235 (vp_in_nI (n := 3) (by decide) (by decide)) ?_
                    obtain ⟨F252, eF252⟩ : ∃ z : Nat → Int64, z = vp_updL F230 (3 : Int32).toNatClampNeg v251 := ⟨_, rfl⟩
                    rw [← eF252]
                    obtain ⟨h253, eh253⟩ : ∃ z : tw_H, z = tw_up h231 q164 (.inl (d.2 1, 9, .inr (.inl F252))) := ⟨_, rfl⟩
                    rw [← eh253]
                    have sp254 : tw_sp d τ (tw_rm h137 it131) g τ h253 := by rw [eh253]; exact sp232.wl n167 z168
                    have f255 : h253 it57 = some (.inr (2, [.int (nI j67), .int l68, .int (g.1 4), .ref lh_12])) := by rw [eh253, tw_up_n ne169]; exact f233
                    have f256 : h253 it131 = some (.inr (2, [.int (nI j143), .int l144, .int (g.1 3), .ref lc_107])) := by rw [eh253, tw_up_n ne170]; exact f234
                    have f257 : h253 q164 = some (.inl (d.2 1, 9, .inr (.inl F252))) := by rw [eh253]; exact tw_up_s
                    refine tw_dup dX10_ofCountryNow_202 rfl ?_
                    refine tw_iconst (v := 4) dX10_ofCountryNow_203 (by decide) ?_
                    refine tw_aload_n 3 dX10_ofCountryNow_204 rfl rfl ?_
                    obtain ⟨e258, f259, r_260, c_261, v_262, o_263, t_264, rfl, k265, k266, k267, k268, k269⟩ := sp254.1 r37 21 q35k.1 (by decide)
                    refine tw_get (v := .ref o_263) rfl in_11 3 dX10_ofCountryNow_205 w_1223 rfl (by decide) f259 rfl ?_
                    refine tw_iconst (v := 0) dX10_ofCountryNow_208 (by decide) ?_
                    obtain ⟨e270, f271, F272, rfl, k273⟩ := sp254.1 o_263 32 k266 (by decide)
                    obtain ⟨v274, ev274⟩ : ∃ y : Int32, F272 (0 : Int32).toNatClampNeg = y := ⟨_, rfl⟩
                    refine tw_zald (v := v274) dX10_ofCountryNow_209 f271 (vp_in_nI (n := 0) (by decide) (by decide)) ev274 ?_
                    refine tw_if_eq 217 dX10_ofCountryNow_210 (by decide) (fun c275 => ?_) (fun c275 => ?_)
                    · refine tw_iconst (v := 0) dX10_ofCountryNow_217 (by decide) ?_
                      refine tw_aload_n 3 dX10_ofCountryNow_218 rfl rfl ?_
                      refine tw_get (v := .ref o_263) rfl in_11 3 dX10_ofCountryNow_219 w_1223 rfl (by decide) f259 rfl ?_
                      refine tw_iconst (v := 1) dX10_ofCountryNow_222 (by decide) ?_
                      obtain ⟨v276, ev276⟩ : ∃ y : Int32, F272 (1 : Int32).toNatClampNeg = y := ⟨_, rfl⟩
                      refine tw_zald (v := v276) dX10_ofCountryNow_223 f271 (vp_in_nI (n := 1) (by decide) (by decide)) ev276 ?_
                      refine tw_if_eq 231 dX10_ofCountryNow_224 (by decide) (fun c277 => ?_) (fun c277 => ?_)
                      · refine tw_iconst (v := 0) dX10_ofCountryNow_231 (by decide) ?_
                        refine tw_iadd dX10_ofCountryNow_232 ?_
                        refine tw_nmi (fun v278 ev278 => ?_)
                        refine tw_i2l dX10_ofCountryNow_233 ?_
                        refine tw_nml (fun v279 ev279 => ?_)
                        refine tw_last dX10_ofCountryNow_234 f257 (vp_in_nI (n := 4) (by decide) (by decide)) ?_
                        obtain ⟨F280, eF280⟩ : ∃ z : Nat → Int64, z = vp_updL F252 (4 : Int32).toNatClampNeg v279 := ⟨_, rfl⟩
                        rw [← eF280]
                        obtain ⟨h281, eh281⟩ : ∃ z : tw_H, z = tw_up h253 q164 (.inl (d.2 1, 9, .inr (.inl F280))) := ⟨_, rfl⟩
                        rw [← eh281]
                        have sp282 : tw_sp d τ (tw_rm h137 it131) g τ h281 := by rw [eh281]; exact sp254.wl n167 z168
                        have f283 : h281 it57 = some (.inr (2, [.int (nI j67), .int l68, .int (g.1 4), .ref lh_12])) := by rw [eh281, tw_up_n ne169]; exact f255
                        have f284 : h281 it131 = some (.inr (2, [.int (nI j143), .int l144, .int (g.1 3), .ref lc_107])) := by rw [eh281, tw_up_n ne170]; exact f256
                        have f285 : h281 q164 = some (.inl (d.2 1, 9, .inr (.inl F280))) := by rw [eh281]; exact tw_up_s
                        refine tw_dup dX10_ofCountryNow_235 rfl ?_
                        refine tw_iconst (v := 5) dX10_ofCountryNow_236 (by decide) ?_
                        refine tw_iload 4 dX10_ofCountryNow_237 rfl ?_
                        refine tw_i2l dX10_ofCountryNow_239 ?_
                        refine tw_nml (fun v286 ev286 => ?_)
                        refine tw_last dX10_ofCountryNow_240 f285 (vp_in_nI (n := 5) (by decide) (by decide)) ?_
                        obtain ⟨F287, eF287⟩ : ∃ z : Nat → Int64, z = vp_updL F280 (5 : Int32).toNatClampNeg v286 := ⟨_, rfl⟩
                        rw [← eF287]
                        obtain ⟨h288, eh288⟩ : ∃ z : tw_H, z = tw_up h281 q164 (.inl (d.2 1, 9, .inr (.inl F287))) := ⟨_, rfl⟩
                        rw [← eh288]
                        have sp289 : tw_sp d τ (tw_rm h137 it131) g τ h288 := by rw [eh288]; exact sp282.wl n167 z168
                        have f290 : h288 it57 = some (.inr (2, [.int (nI j67), .int l68, .int (g.1 4), .ref lh_12])) := by rw [eh288, tw_up_n ne169]; exact f283
                        have f291 : h288 it131 = some (.inr (2, [.int (nI j143), .int l144, .int (g.1 3), .ref lc_107])) := by rw [eh288, tw_up_n ne170]; exact f284
                        have f292 : h288 q164 = some (.inl (d.2 1, 9, .inr (.inl F287))) := by rw [eh288]; exact tw_up_s
                        refine tw_dup dX10_ofCountryNow_241 rfl ?_
                        refine tw_bipush (v := 6) dX10_ofCountryNow_242 (by decide) ?_
                        refine tw_aload_n 0 dX10_ofCountryNow_244 rfl rfl ?_
                        refine tw_aload_n 3 dX10_ofCountryNow_245 rfl rfl ?_
                        obtain ⟨e293, f294, r_295, c_296, v_297, o_298, t_299, rfl, k300, k301, k302, k303, k304⟩ := sp289.1 r37 21 q35k.1 (by decide)
                        refine tw_get (v := .ref v_297) rfl in_11 2 dX10_ofCountryNow_246 w_1221 rfl (by decide) f294 rfl ?_
                        obtain ⟨e305, f306, th_307, td_308, ds_309, fr_310, ca_311, us_312, wo_313, cm_314, lc_315, lh_316, ld_317, rfl, k318, k319, k320, k321, k322, k323, k324, k325, k326, k327, k328, k329, k330, k331, k332, k333⟩ := sp289.1 x 36 kx (by decide)
                        refine tw_bl (tw_callV (M := mX10_ofCountryNow) (pc := 249) okX10_worth dX10_ofCountryNow_249 w_1509 rfl f306 [.ref v_297] [.int 6, .ref q164, .ref q164] rfl rfl ⟨by decide, by decide⟩ (Nat.le_of_ble_eq_true rfl) (c_X10_worth d g τ h288 sp289.1 x kx v_297 k300) 0 0 (Nat.le_of_ble_eq_true rfl) (Nat.le_of_ble_eq_true rfl)) (fun r336 h335 q334 => ?_) (fun E h1 q => q.elim)
                        rw [q334]
                        refine tw_last dX10_ofCountryNow_252 f292 (vp_in_nI (n := 6) (by decide) (by decide)) ?_
                        obtain ⟨F337, eF337⟩ : ∃ z : Nat → Int64, z = vp_updL F287 (6 : Int32).toNatClampNeg r336 := ⟨_, rfl⟩
                        rw [← eF337]
                        obtain ⟨h338, eh338⟩ : ∃ z : tw_H, z = tw_up h288 q164 (.inl (d.2 1, 9, .inr (.inl F337))) := ⟨_, rfl⟩
                        rw [← eh338]
                        have sp339 : tw_sp d τ (tw_rm h137 it131) g τ h338 := by rw [eh338]; exact sp289.wl n167 z168
                        have f340 : h338 it57 = some (.inr (2, [.int (nI j67), .int l68, .int (g.1 4), .ref lh_12])) := by rw [eh338, tw_up_n ne169]; exact f290
                        have f341 : h338 it131 = some (.inr (2, [.int (nI j143), .int l144, .int (g.1 3), .ref lc_107])) := by rw [eh338, tw_up_n ne170]; exact f291
                        have f342 : h338 q164 = some (.inl (d.2 1, 9, .inr (.inl F337))) := by rw [eh338]; exact tw_up_s
                        refine tw_dup dX10_ofCountryNow_253 rfl ?_
                        refine tw_bipush (v := 7) dX10_ofCountryNow_254 (by decide) ?_
                        refine tw_iload 5 dX10_ofCountryNow_256 rfl ?_
                        refine tw_i2l dX10_ofCountryNow_258 ?_
                        refine tw_nml (fun v343 ev343 => ?_)
                        refine tw_last dX10_ofCountryNow_259 f342 (vp_in_nI (n := 7) (by decide) (by decide)) ?_
                        obtain ⟨F344, eF344⟩ : ∃ z : Nat → Int64, z = vp_updL F337 (7 : Int32).toNatClampNeg v343 := ⟨_, rfl⟩
                        rw [← eF344]
                        obtain ⟨h345, eh345⟩ : ∃ z : tw_H, z = tw_up h338 q164 (.inl (d.2 1, 9, .inr (.inl F344))) := ⟨_, rfl⟩
                        rw [← eh345]
                        have sp346 : tw_sp d τ (tw_rm h137 it131) g τ h345 := by rw [eh345]; exact sp339.wl n167 z168
                        have f347 : h345 it57 = some (.inr (2, [.int (nI j67), .int l68, .int (g.1 4), .ref lh_12])) := by rw [eh345, tw_up_n ne169]; exact f340
                        have f348 : h345 it131 = some (.inr (2, [.int (nI j143), .int l144, .int (g.1 3), .ref lc_107])) := by rw [eh345, tw_up_n ne170]; exact f341
                        have f349 : h345 q164 = some (.inl (d.2 1, 9, .inr (.inl F344))) := by rw [eh345]; exact tw_up_s
                        refine tw_dup dX10_ofCountryNow_260 rfl ?_
                        refine tw_bipush (v := 8) dX10_ofCountryNow_261 (by decide) ?_
                        refine tw_iload 6 dX10_ofCountryNow_263 rfl ?_
                        refine tw_i2l dX10_ofCountryNow_265 ?_
                        refine tw_nml (fun v350 ev350 => ?_)
                        refine tw_last dX10_ofCountryNow_266 f349 (vp_in_nI (n := 8) (by decide) (by decide)) ?_
                        obtain ⟨F351, eF351⟩ : ∃ z : Nat → Int64, z = vp_updL F344 (8 : Int32).toNatClampNeg v350 := ⟨_, rfl⟩
                        rw [← eF351]
                        obtain ⟨h352, eh352⟩ : ∃ z : tw_H, z = tw_up h345 q164 (.inl (d.2 1, 9, .inr (.inl F351))) := ⟨_, rfl⟩
                        rw [← eh352]
                        have sp353 : tw_sp d τ (tw_rm h137 it131) g τ h352 := by rw [eh352]; exact sp346.wl n167 z168
                        have f354 : h352 it57 = some (.inr (2, [.int (nI j67), .int l68, .int (g.1 4), .ref lh_12])) := by rw [eh352, tw_up_n ne169]; exact f347
                        have f355 : h352 it131 = some (.inr (2, [.int (nI j143), .int l144, .int (g.1 3), .ref lc_107])) := by rw [eh352, tw_up_n ne170]; exact f348
                        have f356 : h352 q164 = some (.inl (d.2 1, 9, .inr (.inl F351))) := by rw [eh352]; exact tw_up_s
                        refine tw_astore [(7, .ref q164), (0, .ref x), (1, .int (nI a)), (2, .int w9), (3, .ref r37), (4, .int x65), (5, .int x86), (6, .int x141)] dX10_ofCountryNow_267 (by decide) rfl ?_
                        refine tw_aload 0 dX10_ofCountryNow_269 rfl ?_
                        refine tw_iload_n 3 dX10_ofCountryNow_271 rfl rfl ?_
                        obtain ⟨v357, ev357⟩ : ∃ y : Int64, F351 (w9).toNatClampNeg = y := ⟨_, rfl⟩
                        refine tw_lald (v := v357) dX10_ofCountryNow_272 f356 hw9 ev357 ?_
                        refine tw_l2i dX10_ofCountryNow_273 ?_
                        refine tw_nmi (fun v358 ev358 => ?_)
                        exact tw_iret dX10_ofCountryNow_274 rfl (Or.inl ⟨_, rfl, (sp63.trm n60 (sp138.trm n134 sp353))⟩)
                      · refine tw_iconst (v := 2) dX10_ofCountryNow_227 (by decide) ?_
                        refine tw_goto 232 dX10_ofCountryNow_228 (by decide) ?_
                        refine tw_iadd dX10_ofCountryNow_232 ?_
                        refine tw_nmi (fun v359 ev359 => ?_)
                        refine tw_i2l dX10_ofCountryNow_233 ?_
                        refine tw_nml (fun v360 ev360 => ?_)
                        refine tw_last dX10_ofCountryNow_234 f257 (vp_in_nI (n := 4) (by decide) (by decide)) ?_
                        obtain ⟨F361, eF361⟩ : ∃ z : Nat → Int64, z = vp_updL F252 (4 : Int32).toNatClampNeg v360 := ⟨_, rfl⟩
                        rw [← eF361]
                        obtain ⟨h362, eh362⟩ : ∃ z : tw_H, z = tw_up h253 q164 (.inl (d.2 1, 9, .inr (.inl F361))) := ⟨_, rfl⟩
                        rw [← eh362]
                        have sp363 : tw_sp d τ (tw_rm h137 it131) g τ h362 := by rw [eh362]; exact sp254.wl n167 z168
                        have f364 : h362 it57 = some (.inr (2, [.int (nI j67), .int l68, .int (g.1 4), .ref lh_12])) := by rw [eh362, tw_up_n ne169]; exact f255
                        have f365 : h362 it131 = some (.inr (2, [.int (nI j143), .int l144, .int (g.1 3), .ref lc_107])) := by rw [eh362, tw_up_n ne170]; exact f256
                        have f366 : h362 q164 = some (.inl (d.2 1, 9, .inr (.inl F361))) := by rw [eh362]; exact tw_up_s
                        refine tw_dup dX10_ofCountryNow_235 rfl ?_
                        refine tw_iconst (v := 5) dX10_ofCountryNow_236 (by decide) ?_
                        refine tw_iload 4 dX10_ofCountryNow_237 rfl ?_
                        refine tw_i2l dX10_ofCountryNow_239 ?_
                        refine tw_nml (fun v367 ev367 => ?_)
                        refine tw_last dX10_ofCountryNow_240 f366 (vp_in_nI (n := 5) (by decide) (by decide)) ?_
                        obtain ⟨F368, eF368⟩ : ∃ z : Nat → Int64, z = vp_updL F361 (5 : Int32).toNatClampNeg v367 := ⟨_, rfl⟩
                        rw [← eF368]
                        obtain ⟨h369, eh369⟩ : ∃ z : tw_H, z = tw_up h362 q164 (.inl (d.2 1, 9, .inr (.inl F368))) := ⟨_, rfl⟩
                        rw [← eh369]
                        have sp370 : tw_sp d τ (tw_rm h137 it131) g τ h369 := by rw [eh369]; exact sp363.wl n167 z168
                        have f371 : h369 it57 = some (.inr (2, [.int (nI j67), .int l68, .int (g.1 4), .ref lh_12])) := by rw [eh369, tw_up_n ne169]; exact f364
                        have f372 : h369 it131 = some (.inr (2, [.int (nI j143), .int l144, .int (g.1 3), .ref lc_107])) := by rw [eh369, tw_up_n ne170]; exact f365
                        have f373 : h369 q164 = some (.inl (d.2 1, 9, .inr (.inl F368))) := by rw [eh369]; exact tw_up_s
                        refine tw_dup dX10_ofCountryNow_241 rfl ?_
                        refine tw_bipush (v := 6) dX10_ofCountryNow_242 (by decide) ?_
                        refine tw_aload_n 0 dX10_ofCountryNow_244 rfl rfl ?_
                        refine tw_aload_n 3 dX10_ofCountryNow_245 rfl rfl ?_
                        obtain ⟨e374, f375, r_376, c_377, v_378, o_379, t_380, rfl, k381, k382, k383, k384, k385⟩ := sp370.1 r37 21 q35k.1 (by decide)
                        refine tw_get (v := .ref v_378) rfl in_11 2 dX10_ofCountryNow_246 w_1221 rfl (by decide) f375 rfl ?_
                        obtain ⟨e386, f387, th_388, td_389, ds_390, fr_391, ca_392, us_393, wo_394, cm_395, lc_396, lh_397, ld_398, rfl, k399, k400, k401, k402, k403, k404, k405, k406, k407, k408, k409, k410, k411, k412, k413, k414⟩ := sp370.1 x 36 kx (by decide)
                        refine tw_bl (tw_callV (M := mX10_ofCountryNow) (pc := 249) okX10_worth dX10_ofCountryNow_249 w_1509 rfl f387 [.ref v_378] [.int 6, .ref q164, .ref q164] rfl rfl ⟨by decide, by decide⟩ (Nat.le_of_ble_eq_true rfl) (c_X10_worth d g τ h369 sp370.1 x kx v_378 k381) 0 0 (Nat.le_of_ble_eq_true rfl) (Nat.le_of_ble_eq_true rfl)) (fun r417 h416 q415 => ?_) (fun E h1 q => q.elim)
                        rw [q415]
                        refine tw_last dX10_ofCountryNow_252 f373 (vp_in_nI (n := 6) (by decide) (by decide)) ?_
                        obtain ⟨F418, eF418⟩ : ∃ z : Nat → Int64, z = vp_updL F368 (6 : Int32).toNatClampNeg r417 := ⟨_, rfl⟩
                        rw [← eF418]
                        obtain ⟨h419, eh419⟩ : ∃ z : tw_H, z = tw_up h369 q164 (.inl (d.2 1, 9, .inr (.inl F418))) := ⟨_, rfl⟩
                        rw [← eh419]
                        have sp420 : tw_sp d τ (tw_rm h137 it131) g τ h419 := by rw [eh419]; exact sp370.wl n167 z168
                        have f421 : h419 it57 = some (.inr (2, [.int (nI j67), .int l68, .int (g.1 4), .ref lh_12])) := by rw [eh419, tw_up_n ne169]; exact f371
                        have f422 : h419 it131 = some (.inr (2, [.int (nI j143), .int l144, .int (g.1 3), .ref lc_107])) := by rw [eh419, tw_up_n ne170]; exact f372
                        have f423 : h419 q164 = some (.inl (d.2 1, 9, .inr (.inl F418))) := by rw [eh419]; exact tw_up_s
                        refine tw_dup dX10_ofCountryNow_253 rfl ?_
                        refine tw_bipush (v := 7) dX10_ofCountryNow_254 (by decide) ?_
                        refine tw_iload 5 dX10_ofCountryNow_256 rfl ?_
                        refine tw_i2l dX10_ofCountryNow_258 ?_
                        refine tw_nml (fun v424 ev424 => ?_)
                        refine tw_last dX10_ofCountryNow_259 f423 (vp_in_nI (n := 7) (by decide) (by decide)) ?_
                        obtain ⟨F425, eF425⟩ : ∃ z : Nat → Int64, z = vp_updL F418 (7 : Int32).toNatClampNeg v424 := ⟨_, rfl⟩
                        rw [← eF425]
                        obtain ⟨h426, eh426⟩ : ∃ z : tw_H, z = tw_up h419 q164 (.inl (d.2 1, 9, .inr (.inl F425))) := ⟨_, rfl⟩
                        rw [← eh426]
                        have sp427 : tw_sp d τ (tw_rm h137 it131) g τ h426 := by rw [eh426]; exact sp420.wl n167 z168
                        have f428 : h426 it57 = some (.inr (2, [.int (nI j67), .int l68, .int (g.1 4), .ref lh_12])) := by rw [eh426, tw_up_n ne169]; exact f421
                        have f429 : h426 it131 = some (.inr (2, [.int (nI j143), .int l144, .int (g.1 3), .ref lc_107])) := by rw [eh426, tw_up_n ne170]; exact f422
                        have f430 : h426 q164 = some (.inl (d.2 1, 9, .inr (.inl F425))) := by rw [eh426]; exact tw_up_s
                        refine tw_dup dX10_ofCountryNow_260 rfl ?_
                        refine tw_bipush (v := 8) dX10_ofCountryNow_261 (by decide) ?_
                        refine tw_iload 6 dX10_ofCountryNow_263 rfl ?_
                        refine tw_i2l dX10_ofCountryNow_265 ?_
                        refine tw_nml (fun v431 ev431 => ?_)
                        refine tw_last dX10_ofCountryNow_266 f430 (vp_in_nI (n := 8) (by decide) (by decide)) ?_
                        obtain ⟨F432, eF432⟩ : ∃ z : Nat → Int64, z = vp_updL F425 (8 : Int32).toNatClampNeg v431 := ⟨_, rfl⟩
                        rw [← eF432]
                        obtain ⟨h433, eh433⟩ : ∃ z : tw_H, z = tw_up h426 q164 (.inl (d.2 1, 9, .inr (.inl F432))) := ⟨_, rfl⟩
                        rw [← eh433]
                        have sp434 : tw_sp d τ (tw_rm h137 it131) g τ h433 := by rw [eh433]; exact sp427.wl n167 z168
                        have f435 : h433 it57 = some (.inr (2, [.int (nI j67), .int l68, .int (g.1 4), .ref lh_12])) := by rw [eh433, tw_up_n ne169]; exact f428
                        have f436 : h433 it131 = some (.inr (2, [.int (nI j143), .int l144, .int (g.1 3), .ref lc_107])) := by rw [eh433, tw_up_n ne170]; exact f429
                        have f437 : h433 q164 = some (.inl (d.2 1, 9, .inr (.inl F432))) := by rw [eh433]; exact tw_up_s
                        refine tw_astore [(7, .ref q164), (0, .ref x), (1, .int (nI a)), (2, .int w9), (3, .ref r37), (4, .int x65), (5, .int x86), (6, .int x141)] dX10_ofCountryNow_267 (by decide) rfl ?_
                        refine tw_aload 0 dX10_ofCountryNow_269 rfl ?_
                        refine tw_iload_n 3 dX10_ofCountryNow_271 rfl rfl ?_
                        obtain ⟨v438, ev438⟩ : ∃ y : Int64, F432 (w9).toNatClampNeg = y := ⟨_, rfl⟩
                        refine tw_lald (v := v438) dX10_ofCountryNow_272 f437 hw9 ev438 ?_
                        refine tw_l2i dX10_ofCountryNow_273 ?_
                        refine tw_nmi (fun v439 ev439 => ?_)
                        exact tw_iret dX10_ofCountryNow_274 rfl (Or.inl ⟨_, rfl, (sp63.trm n60 (sp138.trm n134 sp434))⟩)
                    · refine tw_iconst (v := 1) dX10_ofCountryNow_213 (by decide) ?_
                      refine tw_goto 218 dX10_ofCountryNow_214 (by decide) ?_
                      refine tw_aload_n 3 dX10_ofCountryNow_218 rfl rfl ?_
                      refine tw_get (v := .ref o_263) rfl in_11 3 dX10_ofCountryNow_219 w_1223 rfl (by decide) f259 rfl ?_
                      refine tw_iconst (v := 1) dX10_ofCountryNow_222 (by decide) ?_
                      obtain ⟨v440, ev440⟩ : ∃ y : Int32, F272 (1 : Int32).toNatClampNeg = y := ⟨_, rfl⟩
                      refine tw_zald (v := v440) dX10_ofCountryNow_223 f271 (vp_in_nI (n := 1) (by decide) (by decide)) ev440 ?_
                      refine tw_if_eq 231 dX10_ofCountryNow_224 (by decide) (fun c441 => ?_) (fun c441 => ?_)
                      · refine tw_iconst (v := 0) dX10_ofCountryNow_231 (by decide) ?_
                        refine tw_iadd dX10_ofCountryNow_232 ?_
                        refine tw_nmi (fun v442 ev442 => ?_)
                        refine tw_i2l dX10_ofCountryNow_233 ?_
                        refine tw_nml (fun v443 ev443 => ?_)
                        refine tw_last dX10_ofCountryNow_234 f257 (vp_in_nI (n := 4) (by decide) (by decide)) ?_
                        obtain ⟨F444, eF444⟩ : ∃ z : Nat → Int64, z = vp_updL F252 (4 : Int32).toNatClampNeg v443 := ⟨_, rfl⟩
                        rw [← eF444]
                        obtain ⟨h445, eh445⟩ : ∃ z : tw_H, z = tw_up h253 q164 (.inl (d.2 1, 9, .inr (.inl F444))) := ⟨_, rfl⟩
                        rw [← eh445]
                        have sp446 : tw_sp d τ (tw_rm h137 it131) g τ h445 := by rw [eh445]; exact sp254.wl n167 z168
                        have f447 : h445 it57 = some (.inr (2, [.int (nI j67), .int l68, .int (g.1 4), .ref lh_12])) := by rw [eh445, tw_up_n ne169]; exact f255
                        have f448 : h445 it131 = some (.inr (2, [.int (nI j143), .int l144, .int (g.1 3), .ref lc_107])) := by rw [eh445, tw_up_n ne170]; exact f256
                        have f449 : h445 q164 = some (.inl (d.2 1, 9, .inr (.inl F444))) := by rw [eh445]; exact tw_up_s
                        refine tw_dup dX10_ofCountryNow_235 rfl ?_
                        refine tw_iconst (v := 5) dX10_ofCountryNow_236 (by decide) ?_
                        refine tw_iload 4 dX10_ofCountryNow_237 rfl ?_
                        refine tw_i2l dX10_ofCountryNow_239 ?_
                        refine tw_nml (fun v450 ev450 => ?_)
                        refine tw_last dX10_ofCountryNow_240 f449 (vp_in_nI (n := 5) (by decide) (by decide)) ?_
                        obtain ⟨F451, eF451⟩ : ∃ z : Nat → Int64, z = vp_updL F444 (5 : Int32).toNatClampNeg v450 := ⟨_, rfl⟩
                        rw [← eF451]
                        obtain ⟨h452, eh452⟩ : ∃ z : tw_H, z = tw_up h445 q164 (.inl (d.2 1, 9, .inr (.inl F451))) := ⟨_, rfl⟩
                        rw [← eh452]
                        have sp453 : tw_sp d τ (tw_rm h137 it131) g τ h452 := by rw [eh452]; exact sp446.wl n167 z168
                        have f454 : h452 it57 = some (.inr (2, [.int (nI j67), .int l68, .int (g.1 4), .ref lh_12])) := by rw [eh452, tw_up_n ne169]; exact f447
                        have f455 : h452 it131 = some (.inr (2, [.int (nI j143), .int l144, .int (g.1 3), .ref lc_107])) := by rw [eh452, tw_up_n ne170]; exact f448
                        have f456 : h452 q164 = some (.inl (d.2 1, 9, .inr (.inl F451))) := by rw [eh452]; exact tw_up_s
                        refine tw_dup dX10_ofCountryNow_241 rfl ?_
                        refine tw_bipush (v := 6) dX10_ofCountryNow_242 (by decide) ?_
                        refine tw_aload_n 0 dX10_ofCountryNow_244 rfl rfl ?_
                        refine tw_aload_n 3 dX10_ofCountryNow_245 rfl rfl ?_
                        obtain ⟨e457, f458, r_459, c_460, v_461, o_462, t_463, rfl, k464, k465, k466, k467, k468⟩ := sp453.1 r37 21 q35k.1 (by decide)
                        refine tw_get (v := .ref v_461) rfl in_11 2 dX10_ofCountryNow_246 w_1221 rfl (by decide) f458 rfl ?_
                        obtain ⟨e469, f470, th_471, td_472, ds_473, fr_474, ca_475, us_476, wo_477, cm_478, lc_479, lh_480, ld_481, rfl, k482, k483, k484, k485, k486, k487, k488, k489, k490, k491, k492, k493, k494, k495, k496, k497⟩ := sp453.1 x 36 kx (by decide)
                        refine tw_bl (tw_callV (M := mX10_ofCountryNow) (pc := 249) okX10_worth dX10_ofCountryNow_249 w_1509 rfl f470 [.ref v_461] [.int 6, .ref q164, .ref q164] rfl rfl ⟨by decide, by decide⟩ (Nat.le_of_ble_eq_true rfl) (c_X10_worth d g τ h452 sp453.1 x kx v_461 k464) 0 0 (Nat.le_of_ble_eq_true rfl) (Nat.le_of_ble_eq_true rfl)) (fun r500 h499 q498 => ?_) (fun E h1 q => q.elim)
                        rw [q498]
                        refine tw_last dX10_ofCountryNow_252 f456 (vp_in_nI (n := 6) (by decide) (by decide)) ?_
                        obtain ⟨F501, eF501⟩ : ∃ z : Nat → Int64, z = vp_updL F451 (6 : Int32).toNatClampNeg r500 := ⟨_, rfl⟩
                        rw [← eF501]
                        obtain ⟨h502, eh502⟩ : ∃ z : tw_H, z = tw_up h452 q164 (.inl (d.2 1, 9, .inr (.inl F501))) := ⟨_, rfl⟩
                        rw [← eh502]
                        have sp503 : tw_sp d τ (tw_rm h137 it131) g τ h502 := by rw [eh502]; exact sp453.wl n167 z168
                        have f504 : h502 it57 = some (.inr (2, [.int (nI j67), .int l68, .int (g.1 4), .ref lh_12])) := by rw [eh502, tw_up_n ne169]; exact f454
                        have f505 : h502 it131 = some (.inr (2, [.int (nI j143), .int l144, .int (g.1 3), .ref lc_107])) := by rw [eh502, tw_up_n ne170]; exact f455
                        have f506 : h502 q164 = some (.inl (d.2 1, 9, .inr (.inl F501))) := by rw [eh502]; exact tw_up_s
                        refine tw_dup dX10_ofCountryNow_253 rfl ?_
                        refine tw_bipush (v := 7) dX10_ofCountryNow_254 (by decide) ?_
                        refine tw_iload 5 dX10_ofCountryNow_256 rfl ?_
                        refine tw_i2l dX10_ofCountryNow_258 ?_
                        refine tw_nml (fun v507 ev507 => ?_)
                        refine tw_last dX10_ofCountryNow_259 f506 (vp_in_nI (n := 7) (by decide) (by decide)) ?_
                        obtain ⟨F508, eF508⟩ : ∃ z : Nat → Int64, z = vp_updL F501 (7 : Int32).toNatClampNeg v507 := ⟨_, rfl⟩
                        rw [← eF508]
                        obtain ⟨h509, eh509⟩ : ∃ z : tw_H, z = tw_up h502 q164 (.inl (d.2 1, 9, .inr (.inl F508))) := ⟨_, rfl⟩
                        rw [← eh509]
                        have sp510 : tw_sp d τ (tw_rm h137 it131) g τ h509 := by rw [eh509]; exact sp503.wl n167 z168
                        have f511 : h509 it57 = some (.inr (2, [.int (nI j67), .int l68, .int (g.1 4), .ref lh_12])) := by rw [eh509, tw_up_n ne169]; exact f504
                        have f512 : h509 it131 = some (.inr (2, [.int (nI j143), .int l144, .int (g.1 3), .ref lc_107])) := by rw [eh509, tw_up_n ne170]; exact f505
                        have f513 : h509 q164 = some (.inl (d.2 1, 9, .inr (.inl F508))) := by rw [eh509]; exact tw_up_s
                        refine tw_dup dX10_ofCountryNow_260 rfl ?_
                        refine tw_bipush (v := 8) dX10_ofCountryNow_261 (by decide) ?_
                        refine tw_iload 6 dX10_ofCountryNow_263 rfl ?_
                        refine tw_i2l dX10_ofCountryNow_265 ?_
                        refine tw_nml (fun v514 ev514 => ?_)
                        refine tw_last dX10_ofCountryNow_266 f513 (vp_in_nI (n := 8) (by decide) (by decide)) ?_
                        obtain ⟨F515, eF515⟩ : ∃ z : Nat → Int64, z = vp_updL F508 (8 : Int32).toNatClampNeg v514 := ⟨_, rfl⟩
                        rw [← eF515]
                        obtain ⟨h516, eh516⟩ : ∃ z : tw_H, z = tw_up h509 q164 (.inl (d.2 1, 9, .inr (.inl F515))) := ⟨_, rfl⟩
                        rw [← eh516]
                        have sp517 : tw_sp d τ (tw_rm h137 it131) g τ h516 := by rw [eh516]; exact sp510.wl n167 z168
                        have f518 : h516 it57 = some (.inr (2, [.int (nI j67), .int l68, .int (g.1 4), .ref lh_12])) := by rw [eh516, tw_up_n ne169]; exact f511
                        have f519 : h516 it131 = some (.inr (2, [.int (nI j143), .int l144, .int (g.1 3), .ref lc_107])) := by rw [eh516, tw_up_n ne170]; exact f512
                        have f520 : h516 q164 = some (.inl (d.2 1, 9, .inr (.inl F515))) := by rw [eh516]; exact tw_up_s
                        refine tw_astore [(7, .ref q164), (0, .ref x), (1, .int (nI a)), (2, .int w9), (3, .ref r37), (4, .int x65), (5, .int x86), (6, .int x141)] dX10_ofCountryNow_267 (by decide) rfl ?_
                        refine tw_aload 0 dX10_ofCountryNow_269 rfl ?_
                        refine tw_iload_n 3 dX10_ofCountryNow_271 rfl rfl ?_
                        obtain ⟨v521, ev521⟩ : ∃ y : Int64, F515 (w9).toNatClampNeg = y := ⟨_, rfl⟩
                        refine tw_lald (v := v521) dX10_ofCountryNow_272 f520 hw9 ev521 ?_
                        refine tw_l2i dX10_ofCountryNow_273 ?_
                        refine tw_nmi (fun v522 ev522 => ?_)
                        exact tw_iret dX10_ofCountryNow_274 rfl (Or.inl ⟨_, rfl, (sp63.trm n60 (sp138.trm n134 sp517))⟩)
                      · refine tw_iconst (v := 2) dX10_ofCountryNow_227 (by decide) ?_
                        refine tw_goto 232 dX10_ofCountryNow_228 (by decide) ?_
                        refine tw_iadd dX10_ofCountryNow_232 ?_
                        refine tw_nmi (fun v523 ev523 => ?_)
                        refine tw_i2l dX10_ofCountryNow_233 ?_
                        refine tw_nml (fun v524 ev524 => ?_)
                        refine tw_last dX10_ofCountryNow_234 f257 (vp_in_nI (n := 4) (by decide) (by decide)) ?_
                        obtain ⟨F525, eF525⟩ : ∃ z : Nat → Int64, z = vp_updL F252 (4 : Int32).toNatClampNeg v524 := ⟨_, rfl⟩
                        rw [← eF525]
                        obtain ⟨h526, eh526⟩ : ∃ z : tw_H, z = tw_up h253 q164 (.inl (d.2 1, 9, .inr (.inl F525))) := ⟨_, rfl⟩
                        rw [← eh526]
                        have sp527 : tw_sp d τ (tw_rm h137 it131) g τ h526 := by rw [eh526]; exact sp254.wl n167 z168
                        have f528 : h526 it57 = some (.inr (2, [.int (nI j67), .int l68, .int (g.1 4), .ref lh_12])) := by rw [eh526, tw_up_n ne169]; exact f255
                        have f529 : h526 it131 = some (.inr (2, [.int (nI j143), .int l144, .int (g.1 3), .ref lc_107])) := by rw [eh526, tw_up_n ne170]; exact f256
                        have f530 : h526 q164 = some (.inl (d.2 1, 9, .inr (.inl F525))) := by rw [eh526]; exact tw_up_s
                        refine tw_dup dX10_ofCountryNow_235 rfl ?_
                        refine tw_iconst (v := 5) dX10_ofCountryNow_236 (by decide) ?_
                        refine tw_iload 4 dX10_ofCountryNow_237 rfl ?_
                        refine tw_i2l dX10_ofCountryNow_239 ?_
                        refine tw_nml (fun v531 ev531 => ?_)
                        refine tw_last dX10_ofCountryNow_240 f530 (vp_in_nI (n := 5) (by decide) (by decide)) ?_
                        obtain ⟨F532, eF532⟩ : ∃ z : Nat → Int64, z = vp_updL F525 (5 : Int32).toNatClampNeg v531 := ⟨_, rfl⟩
                        rw [← eF532]
                        obtain ⟨h533, eh533⟩ : ∃ z : tw_H, z = tw_up h526 q164 (.inl (d.2 1, 9, .inr (.inl F532))) := ⟨_, rfl⟩
                        rw [← eh533]
                        have sp534 : tw_sp d τ (tw_rm h137 it131) g τ h533 := by rw [eh533]; exact sp527.wl n167 z168
                        have f535 : h533 it57 = some (.inr (2, [.int (nI j67), .int l68, .int (g.1 4), .ref lh_12])) := by rw [eh533, tw_up_n ne169]; exact f528
                        have f536 : h533 it131 = some (.inr (2, [.int (nI j143), .int l144, .int (g.1 3), .ref lc_107])) := by rw [eh533, tw_up_n ne170]; exact f529
                        have f537 : h533 q164 = some (.inl (d.2 1, 9, .inr (.inl F532))) := by rw [eh533]; exact tw_up_s
                        refine tw_dup dX10_ofCountryNow_241 rfl ?_
                        refine tw_bipush (v := 6) dX10_ofCountryNow_242 (by decide) ?_
                        refine tw_aload_n 0 dX10_ofCountryNow_244 rfl rfl ?_
                        refine tw_aload_n 3 dX10_ofCountryNow_245 rfl rfl ?_
                        obtain ⟨e538, f539, r_540, c_541, v_542, o_543, t_544, rfl, k545, k546, k547, k548, k549⟩ := sp534.1 r37 21 q35k.1 (by decide)
                        refine tw_get (v := .ref v_542) rfl in_11 2 dX10_ofCountryNow_246 w_1221 rfl (by decide) f539 rfl ?_
                        obtain ⟨e550, f551, th_552, td_553, ds_554, fr_555, ca_556, us_557, wo_558, cm_559, lc_560, lh_561, ld_562, rfl, k563, k564, k565, k566, k567, k568, k569, k570, k571, k572, k573, k574, k575, k576, k577, k578⟩ := sp534.1 x 36 kx (by decide)
                        refine tw_bl (tw_callV (M := mX10_ofCountryNow) (pc := 249) okX10_worth dX10_ofCountryNow_249 w_1509 rfl f551 [.ref v_542] [.int 6, .ref q164, .ref q164] rfl rfl ⟨by decide, by decide⟩ (Nat.le_of_ble_eq_true rfl) (c_X10_worth d g τ h533 sp534.1 x kx v_542 k545) 0 0 (Nat.le_of_ble_eq_true rfl) (Nat.le_of_ble_eq_true rfl)) (fun r581 h580 q579 => ?_) (fun E h1 q => q.elim)
                        rw [q579]
                        refine tw_last dX10_ofCountryNow_252 f537 (vp_in_nI (n := 6) (by decide) (by decide)) ?_
                        obtain ⟨F582, eF582⟩ : ∃ z : Nat → Int64, z = vp_updL F532 (6 : Int32).toNatClampNeg r581 := ⟨_, rfl⟩
                        rw [← eF582]
                        obtain ⟨h583, eh583⟩ : ∃ z : tw_H, z = tw_up h533 q164 (.inl (d.2 1, 9, .inr (.inl F582))) := ⟨_, rfl⟩
                        rw [← eh583]
                        have sp584 : tw_sp d τ (tw_rm h137 it131) g τ h583 := by rw [eh583]; exact sp534.wl n167 z168
                        have f585 : h583 it57 = some (.inr (2, [.int (nI j67), .int l68, .int (g.1 4), .ref lh_12])) := by rw [eh583, tw_up_n ne169]; exact f535
                        have f586 : h583 it131 = some (.inr (2, [.int (nI j143), .int l144, .int (g.1 3), .ref lc_107])) := by rw [eh583, tw_up_n ne170]; exact f536
                        have f587 : h583 q164 = some (.inl (d.2 1, 9, .inr (.inl F582))) := by rw [eh583]; exact tw_up_s
                        refine tw_dup dX10_ofCountryNow_253 rfl ?_
                        refine tw_bipush (v := 7) dX10_ofCountryNow_254 (by decide) ?_
                        refine tw_iload 5 dX10_ofCountryNow_256 rfl ?_
                        refine tw_i2l dX10_ofCountryNow_258 ?_
                        refine tw_nml (fun v588 ev588 => ?_)
                        refine tw_last dX10_ofCountryNow_259 f587 (vp_in_nI (n := 7) (by decide) (by decide)) ?_
                        obtain ⟨F589, eF589⟩ : ∃ z : Nat → Int64, z = vp_updL F582 (7 : Int32).toNatClampNeg v588 := ⟨_, rfl⟩
                        rw [← eF589]
                        obtain ⟨h590, eh590⟩ : ∃ z : tw_H, z = tw_up h583 q164 (.inl (d.2 1, 9, .inr (.inl F589))) := ⟨_, rfl⟩
                        rw [← eh590]
                        have sp591 : tw_sp d τ (tw_rm h137 it131) g τ h590 := by rw [eh590]; exact sp584.wl n167 z168
                        have f592 : h590 it57 = some (.inr (2, [.int (nI j67), .int l68, .int (g.1 4), .ref lh_12])) := by rw [eh590, tw_up_n ne169]; exact f585
                        have f593 : h590 it131 = some (.inr (2, [.int (nI j143), .int l144, .int (g.1 3), .ref lc_107])) := by rw [eh590, tw_up_n ne170]; exact f586
                        have f594 : h590 q164 = some (.inl (d.2 1, 9, .inr (.inl F589))) := by rw [eh590]; exact tw_up_s
                        refine tw_dup dX10_ofCountryNow_260 rfl ?_
                        refine tw_bipush (v := 8) dX10_ofCountryNow_261 (by decide) ?_
                        refine tw_iload 6 dX10_ofCountryNow_263 rfl ?_
                        refine tw_i2l dX10_ofCountryNow_265 ?_
                        refine tw_nml (fun v595 ev595 => ?_)
                        refine tw_last dX10_ofCountryNow_266 f594 (vp_in_nI (n := 8) (by decide) (by decide)) ?_
                        obtain ⟨F596, eF596⟩ : ∃ z : Nat → Int64, z = vp_updL F589 (8 : Int32).toNatClampNeg v595 := ⟨_, rfl⟩
                        rw [← eF596]
                        obtain ⟨h597, eh597⟩ : ∃ z : tw_H, z = tw_up h590 q164 (.inl (d.2 1, 9, .inr (.inl F596))) := ⟨_, rfl⟩
                        rw [← eh597]
                        have sp598 : tw_sp d τ (tw_rm h137 it131) g τ h597 := by rw [eh597]; exact sp591.wl n167 z168
                        have f599 : h597 it57 = some (.inr (2, [.int (nI j67), .int l68, .int (g.1 4), .ref lh_12])) := by rw [eh597, tw_up_n ne169]; exact f592
                        have f600 : h597 it131 = some (.inr (2, [.int (nI j143), .int l144, .int (g.1 3), .ref lc_107])) := by rw [eh597, tw_up_n ne170]; exact f593
                        have f601 : h597 q164 = some (.inl (d.2 1, 9, .inr (.inl F596))) := by rw [eh597]; exact tw_up_s
                        refine tw_astore [(7, .ref q164), (0, .ref x), (1, .int (nI a)), (2, .int w9), (3, .ref r37), (4, .int x65), (5, .int x86), (6, .int x141)] dX10_ofCountryNow_267 (by decide) rfl ?_
                        refine tw_aload 0 dX10_ofCountryNow_269 rfl ?_
                        refine tw_iload_n 3 dX10_ofCountryNow_271 rfl rfl ?_
                        obtain ⟨v602, ev602⟩ : ∃ y : Int64, F596 (w9).toNatClampNeg = y := ⟨_, rfl⟩
                        refine tw_lald (v := v602) dX10_ofCountryNow_272 f601 hw9 ev602 ?_
                        refine tw_l2i dX10_ofCountryNow_273 ?_
                        refine tw_nmi (fun v603 ev603 => ?_)
                        exact tw_iret dX10_ofCountryNow_274 rfl (Or.inl ⟨_, rfl, (sp63.trm n60 (sp138.trm n134 sp598))⟩)
                  · rw [q160r]
                    refine tw_if_eq 164 dX10_ofCountryNow_124 (by decide) (fun c604 => absurd c604 (by decide)) (fun _ => ?_)
                    refine tw_aload 7 dX10_ofCountryNow_127 rfl ?_
                    have k605 : τ el157 = 27 := k158.resolve_left (fun q => absurd q160j (by rw [q.2.1]; exact Nat.not_lt_zero _))
                    obtain ⟨e606, f607, ⟨F608, rfl, hc609, hc610⟩, un611⟩ := sp148.1 el157 27 k605 (by decide)
                    obtain ⟨y612, hy613, ky614⟩ := hc610 j143 q160j
                    refine tw_br (tw_callF (M := mX10_ofCountryNow) (pc := 129) (n9 := 0) (ci := 2) tw_next ok_itNext w_1425 w_1423 (fun s H z => z.2.2.2.2.2.2.2.2.2) (by decide +kernel) dX10_ofCountryNow_129 w_1420 rfl ft149 [] [] rfl rfl ⟨by decide, by decide⟩ (Nat.le_of_ble_eq_true rfl) (c_next d h147 it131 lc_107 el157 j143 (g.2 3) y612 l144 (g.1 3) F608 ft149 f156 f607 q160j hc609 hy613) 1 9 (Nat.le_of_ble_eq_true rfl) (Nat.le_of_ble_eq_true rfl)) (fun r617 h616 q615 => ?_) (fun E h1 q => q.elim)
                    obtain ⟨q615r, q615e⟩ := q615
                    rw [q615r]
                    have sp618 : tw_sp d τ (tw_rm h137 it131) g τ h616 := by rw [q615e]; exact sp148.wl tw_rm_s zt150
                    have f619 : h616 it57 = some (.inr (2, [.int (nI j67), .int l68, .int (g.1 4), .ref lh_12])) := by rw [q615e, tw_up_n ne136]; exact f153
                    have f620 : h616 it131 = some (.inr (2, [.int (nI (j143 + 1)), .int (nI j143), .int (g.1 3), .ref lc_107])) := by rw [q615e]; exact tw_up_s
                    obtain ⟨e621, f622, r_623, c_624, v_625, o_626, t_627, rfl, k628, k629, k630, k631, k632⟩ := sp618.1 y612 21 ky614 (by decide)
                    refine tw_castS (ci := 11) rfl dX10_ofCountryNow_134 w_1212 f622 ?_
                    refine tw_astore [(8, .ref y612), (0, .ref x), (1, .int (nI a)), (2, .int w9), (3, .ref r37), (4, .int x65), (5, .int x86), (6, .int x141), (7, .ref it131)] dX10_ofCountryNow_137 (by decide) rfl ?_
                    refine tw_iload 7 dX10_ofCountryNow_139 rfl ?_
                    refine tw_aload 0 dX10_ofCountryNow_141 rfl ?_
                    refine tw_get (v := .int r_623) rfl in_11 0 dX10_ofCountryNow_143 w_1218 rfl (by decide) f622 rfl ?_
                    refine tw_aload_n 4 dX10_ofCountryNow_146 rfl rfl ?_
                    obtain ⟨e633, f634, r_635, c_636, v_637, o_638, t_639, rfl, k640, k641, k642, k643, k644⟩ := sp618.1 r37 21 q35k.1 (by decide)
                    refine tw_get (v := .int r_635) rfl in_11 0 dX10_ofCountryNow_147 w_1218 rfl (by decide) f634 rfl ?_
                    refine tw_icmp_ne 157 dX10_ofCountryNow_150 (by decide) (fun c645 => ?_) (fun c645 => ?_)
                    · refine tw_iconst (v := 0) dX10_ofCountryNow_157 (by decide) ?_
                      refine tw_iadd dX10_ofCountryNow_158 ?_
                      refine tw_nmi (fun v646 ev646 => ?_)
                      refine tw_istore [(6, .int v646), (8, .ref y612), (0, .ref x), (1, .int (nI a)), (2, .int w9), (3, .ref r37), (4, .int x65), (5, .int x86), (7, .ref it131)] dX10_ofCountryNow_159 (by decide) rfl ?_
                      refine tw_goto 117 dX10_ofCountryNow_161 (by decide) ?_
                      refine tw_lv [2, 3, 4, 5, 6, 7, 0, 8] rfl ?_
                      exact ih145 ((j143 + 1)) (nI j143) v646 _ sp618 f620 zt150  (by omega) (by omega)
                    · refine tw_iconst (v := 1) dX10_ofCountryNow_153 (by decide) ?_
                      refine tw_goto 158 dX10_ofCountryNow_154 (by decide) ?_
                      refine tw_iadd dX10_ofCountryNow_158 ?_
                      refine tw_nmi (fun v647 ev647 => ?_)
                      refine tw_istore [(6, .int v647), (8, .ref y612), (0, .ref x), (1, .int (nI a)), (2, .int w9), (3, .ref r37), (4, .int x65), (5, .int x86), (7, .ref it131)] dX10_ofCountryNow_159 (by decide) rfl ?_
                      refine tw_goto 117 dX10_ofCountryNow_161 (by decide) ?_
                      refine tw_lv [2, 3, 4, 5, 6, 7, 0, 8] rfl ?_
                      exact ih145 ((j143 + 1)) (nI j143) v647 _ sp618 f620 zt150  (by omega) (by omega)
              refine tw_lv [1, 2, 3, 4, 5, 6, 7, 0] rfl ?_
              exact L146 (g.2 3 + 1) 0 (-1) 0 _ (tw_sp.rm sp138.1 it131) f140 z135  (by omega) (Nat.zero_le _)
            · have kl648 := tw_klt (N := 5) c96 hk95 (by decide)
              refine tw_iload 5 dX10_ofCountryNow_83 rfl ?_
              refine tw_gets (fun _ _ z => z.2.2.2.2.1.1) rfl dX10_ofCountryNow_85 w_1487 ?_
              refine tw_iload 7 dX10_ofCountryNow_88 rfl ?_
              refine tw_ti (v := .int (tw_pnd k87)) (fun _ _ z => z.2.2.2.2.1.2) dX10_ofCountryNow_90 (vp_in_nI (by omega) (by decide)) (by rw [nI_clamp (by omega)]; rfl) ?_
              refine tw_aload_n 3 dX10_ofCountryNow_91 rfl rfl ?_
              obtain ⟨e649, f650, r_651, c_652, v_653, o_654, t_655, rfl, k656, k657, k658, k659, k660⟩ := sp72.1 r37 21 q35k.1 (by decide)
              refine tw_get (v := .ref t_655) rfl in_11 4 dX10_ofCountryNow_92 w_1225 rfl (by decide) f650 rfl ?_
              refine tw_iload 7 dX10_ofCountryNow_95 rfl ?_
              obtain ⟨e661, f662, F663, rfl, k664⟩ := sp72.1 t_655 33 k658 (by decide)
              obtain ⟨v665, ev665⟩ : ∃ y : Int32, F663 ((nI k87)).toNatClampNeg = y := ⟨_, rfl⟩
              refine tw_iald (v := v665) dX10_ofCountryNow_97 f662 (vp_in_nI (by omega) (by decide)) ev665 ?_
              refine tw_imul dX10_ofCountryNow_98 ?_
              refine tw_nmi (fun v666 ev666 => ?_)
              refine tw_iadd dX10_ofCountryNow_99 ?_
              refine tw_nmi (fun v667 ev667 => ?_)
              refine tw_istore [(5, .int v667), (0, .ref x), (1, .int (nI a)), (2, .int w9), (3, .ref r37), (4, .int x65), (6, .int 0), (7, .int (nI k87))] dX10_ofCountryNow_100 (by decide) rfl ?_
              obtain ⟨v668, ev668⟩ : ∃ y : Int32, y = (nI k87) + 1 := ⟨_, rfl⟩
              refine tw_iinc [(7, .int v668), (5, .int v667), (0, .ref x), (1, .int (nI a)), (2, .int w9), (3, .ref r37), (4, .int x65), (6, .int 0)] 7 dX10_ofCountryNow_102 rfl (by rw [ev668]; rfl) (by decide) rfl ?_
              refine tw_goto 77 dX10_ofCountryNow_105 (by decide) ?_
              have qv668 := tw_nI3 ev668
              rw [qv668]
              refine tw_lv [2, 3, 4, 5, 6, 1, 7, 0] rfl ?_
              exact ih89 (k87 + 1) v667 (by omega) (by omega)
        refine tw_lv [1, 2, 3, 4, 5, 6, 7, 0] rfl ?_
        exact L90 (5 + 1) 0 0 (by omega) (by omega)
      · rw [q82r]
        refine tw_if_eq 74 dX10_ofCountryNow_37 (by decide) (fun c669 => absurd c669 (by decide)) (fun _ => ?_)
        refine tw_aload 7 dX10_ofCountryNow_40 rfl ?_
        have k670 : τ el79 = 28 := k80.resolve_left (fun q => absurd q82j (by rw [q.2.1]; exact Nat.not_lt_zero _))
        obtain ⟨e671, f672, ⟨F673, rfl, hc674, hc675⟩, un676⟩ := sp72.1 el79 28 k670 (by decide)
        obtain ⟨y677, hy678, ky679⟩ := hc675 j67 q82j
        refine tw_br (tw_callF (M := mX10_ofCountryNow) (pc := 42) (n9 := 0) (ci := 2) tw_next ok_itNext w_1425 w_1423 (fun s H z => z.2.2.2.2.2.2.2.2.2) (by decide +kernel) dX10_ofCountryNow_42 w_1420 rfl ft73 [] [] rfl rfl ⟨by decide, by decide⟩ (Nat.le_of_ble_eq_true rfl) (c_next d h71 it57 lh_12 el79 j67 (g.2 4) y677 l68 (g.1 4) F673 ft73 f78 f672 q82j hc674 hy678) 2 13 (Nat.le_of_ble_eq_true rfl) (Nat.le_of_ble_eq_true rfl)) (fun r682 h681 q680 => ?_) (fun E h1 q => q.elim)
        obtain ⟨q680r, q680e⟩ := q680
        rw [q680r]
        have sp683 : tw_sp d τ (tw_rm h62 it57) g τ h681 := by rw [q680e]; exact sp72.wl tw_rm_s zt74
        have f684 : h681 it57 = some (.inr (2, [.int (nI (j67 + 1)), .int (nI j67), .int (g.1 4), .ref lh_12])) := by rw [q680e]; exact tw_up_s
        obtain ⟨e685, f686, x_687, y_688, dy_689, p_690, rfl, k691, k692, k693⟩ := sp683.1 y677 23 ky679 (by decide)
        refine tw_castS (ci := 13) rfl dX10_ofCountryNow_47 w_1336 f686 ?_
        refine tw_astore [(8, .ref y677), (0, .ref x), (1, .int (nI a)), (2, .int w9), (3, .ref r37), (4, .int x65), (5, .int 0), (6, .int 0), (7, .ref it57)] dX10_ofCountryNow_50 (by decide) rfl ?_
        refine tw_iload 5 dX10_ofCountryNow_52 rfl ?_
        refine tw_aload 0 dX10_ofCountryNow_54 rfl ?_
        refine tw_get (v := .int x_687) rfl in_13 0 dX10_ofCountryNow_56 w_1342 rfl (by decide) f686 rfl ?_
        refine tw_iload_n 2 dX10_ofCountryNow_59 rfl rfl ?_
        refine tw_icmp_ne 67 dX10_ofCountryNow_60 (by decide) (fun c694 => ?_) (fun c694 => ?_)
        · refine tw_iconst (v := 0) dX10_ofCountryNow_67 (by decide) ?_
          refine tw_iadd dX10_ofCountryNow_68 ?_
          refine tw_nmi (fun v695 ev695 => ?_)
          refine tw_istore [(4, .int v695), (8, .ref y677), (0, .ref x), (1, .int (nI a)), (2, .int w9), (3, .ref r37), (5, .int 0), (6, .int 0), (7, .ref it57)] dX10_ofCountryNow_69 (by decide) rfl ?_
          refine tw_goto 30 dX10_ofCountryNow_71 (by decide) ?_
          refine tw_lv [2, 3, 4, 5, 0, 6, 7, 8] rfl ?_
          exact ih69 ((j67 + 1)) (nI j67) v695 _ sp683 f684 zt74  (by omega) (by omega)
        · refine tw_iconst (v := 1) dX10_ofCountryNow_63 (by decide) ?_
          refine tw_goto 68 dX10_ofCountryNow_64 (by decide) ?_
          refine tw_iadd dX10_ofCountryNow_68 ?_
          refine tw_nmi (fun v696 ev696 => ?_)
          refine tw_istore [(4, .int v696), (8, .ref y677), (0, .ref x), (1, .int (nI a)), (2, .int w9), (3, .ref r37), (5, .int 0), (6, .int 0), (7, .ref it57)] dX10_ofCountryNow_69 (by decide) rfl ?_
          refine tw_goto 30 dX10_ofCountryNow_71 (by decide) ?_
          refine tw_lv [2, 3, 4, 5, 0, 6, 7, 8] rfl ?_
          exact ih69 ((j67 + 1)) (nI j67) v696 _ sp683 f684 zt74  (by omega) (by omega)
  refine tw_lv [5, 6, 7, 4, 3, 2, 1, 0] rfl ?_
  exact L70 (g.2 4 + 1) 0 (-1) 0 _ (tw_sp.rm sp63.1 it57) f64 z61  (by omega) (Nat.zero_le _)

set_option maxHeartbeats 4000000 in
set_option maxRecDepth 100000 in
theorem c_X10_ofCountry (d : tw_D) (g : tw_G) (τ : tw_K) (h : tw_H) (hw : tw_wt d g τ h) (x : Nat) (kx : τ x = 36) (a : Int32) (w9 : Int32) : tw_Ct d mX10_ofCountry 3 17 [.ref x, .int a, .int w9] h (tw_qi (fun r h1 => tw_sp d τ h g τ h1) tw_nx) := by
  refine tw_of (by decide +kernel) (Nat.le_of_ble_eq_true rfl) ?_
  show tw_W d mX10_ofCountry _ 0 [(0, .ref x), (1, .int a), (2, .int w9)] [] h 3 17
  have sp0 := tw_sp.rf hw
  refine tw_aload_n 0 dX10_ofCountry_0 rfl rfl ?_
  refine tw_aload_n 0 dX10_ofCountry_1 rfl rfl ?_
  refine tw_iload_n 1 dX10_ofCountry_2 rfl rfl ?_
  obtain ⟨e1, f2, th_3, td_4, ds_5, fr_6, ca_7, us_8, wo_9, cm_10, lc_11, lh_12, ld_13, rfl, k14, k15, k16, k17, k18, k19, k20, k21, k22, k23, k24, k25, k26, k27, k28, k29⟩ := sp0.1 x 36 kx (by decide)
  refine tw_bi (tw_callV (M := mX10_ofCountry) (pc := 3) okX10_isNoCountry dX10_ofCountry_3 w_1292 rfl f2 [.int a] [.ref x] rfl rfl ⟨by decide, by decide⟩ (Nat.le_of_ble_eq_true rfl) (c_X10_isNoCountry d g τ h sp0.1 x kx a) 3 17 (Nat.le_of_ble_eq_true rfl) (Nat.le_of_ble_eq_true rfl)) (fun r32 h31 q30 => ?_) (fun E h1 q => q.elim)
  obtain ⟨q30e, q30d⟩ := q30
  rw [q30e]
  rcases q30d with q30r | ⟨q30r, j33, q30j, q30k⟩
  · rw [q30r]
    refine tw_iconst (v := 1) dX10_ofCountry_6 (by decide) ?_
    refine tw_bi (tw_callV (M := mX10_ofCountry) (pc := 7) okX10_start dX10_ofCountry_7 w_1200 rfl f2 [.int 1, .int 1] [] rfl rfl ⟨by decide, by decide⟩ (Nat.le_of_ble_eq_true rfl) (c_X10_start d g τ h sp0.1 x kx 1 1 (by decide)) 3 17 (Nat.le_of_ble_eq_true rfl) (Nat.le_of_ble_eq_true rfl)) (fun r36 h35 q34 => ?_) (fun E h1 q => q.elim)
    obtain ⟨e37, he38, hs39, hr40, h341⟩ := q34
    have sp42 : tw_sp d τ h g τ h35 := by rw [he38]; exact sp0.set kx (by decide) hs39
    rcases hr40 with ei43 | ⟨ei43, ei43b⟩
    · rw [ei43]
      refine tw_if_ne 36 dX10_ofCountry_10 (by decide) (fun _ => ?_) (fun c44 => absurd c44 (by decide))
      refine tw_iconst (v := 0) dX10_ofCountry_36 (by decide) ?_
      refine tw_goto 46 dX10_ofCountry_37 (by decide) ?_
      exact tw_iret dX10_ofCountry_46 rfl (Or.inl ⟨_, rfl, sp42⟩)
    · exact absurd ei43b (by decide)
  · rw [q30r]
    subst q30k
    refine tw_iconst (v := 1) dX10_ofCountry_6 (by decide) ?_
    refine tw_bi (tw_callV (M := mX10_ofCountry) (pc := 7) okX10_start dX10_ofCountry_7 w_1200 rfl f2 [.int 0, .int 1] [] rfl rfl ⟨by decide, by decide⟩ (Nat.le_of_ble_eq_true rfl) (c_X10_start d g τ h sp0.1 x kx 0 1 (by decide)) 3 17 (Nat.le_of_ble_eq_true rfl) (Nat.le_of_ble_eq_true rfl)) (fun r47 h46 q45 => ?_) (fun E h1 q => q.elim)
    obtain ⟨e48, he49, hs50, hr51, h352⟩ := q45
    have sp53 : tw_sp d τ h g τ h46 := by rw [he49]; exact sp0.set kx (by decide) hs50
    rcases hr51 with ei54 | ⟨ei54, ei54b⟩
    · rw [ei54]
      refine tw_if_ne 36 dX10_ofCountry_10 (by decide) (fun _ => ?_) (fun c55 => absurd c55 (by decide))
      refine tw_iconst (v := 0) dX10_ofCountry_36 (by decide) ?_
      refine tw_goto 46 dX10_ofCountry_37 (by decide) ?_
      exact tw_iret dX10_ofCountry_46 rfl (Or.inl ⟨_, rfl, sp53⟩)
    · rw [ei54]
      refine tw_if_ne 36 dX10_ofCountry_10 (by decide) (fun c56 => absurd (by decide) c56) (fun _ => ?_)
      refine tw_aload_n 0 dX10_ofCountry_13 rfl rfl ?_
      refine tw_iload_n 2 dX10_ofCountry_14 rfl rfl ?_
      refine tw_iconst (v := 0) dX10_ofCountry_15 (by decide) ?_
      refine tw_bipush (v := 8) dX10_ofCountry_16 (by decide) ?_
      refine tw_bi (tw_callS (M := mX10_ofCountry) (pc := 18) okX10_isIn dX10_ofCountry_18 w_1196 [.int w9, .int 0, .int 8] [.ref x] rfl rfl ⟨by decide, by decide⟩ (Nat.le_of_ble_eq_true rfl) (c_X10_isIn d g τ h46 sp53.1 w9 0 8) 3 17 (Nat.le_of_ble_eq_true rfl) (Nat.le_of_ble_eq_true rfl)) (fun r59 h58 q57 => ?_) (fun E h1 q => q.elim)
      obtain ⟨q57e, q57d⟩ := q57
      rw [q57e]
      rcases q57d with ⟨q57r, q57n⟩ | ⟨q57r, q57a, q57b⟩
      · rw [q57r]
        refine tw_if_ne 28 dX10_ofCountry_21 (by decide) (fun c60 => absurd (by decide) c60) (fun _ => ?_)
        refine tw_iconst (v := 1) dX10_ofCountry_24 (by decide) ?_
        refine tw_goto 29 dX10_ofCountry_25 (by decide) ?_
        refine tw_iconst (v := 2) dX10_ofCountry_29 (by decide) ?_
        obtain ⟨e61, f62, th_63, td_64, ds_65, fr_66, ca_67, us_68, wo_69, cm_70, lc_71, lh_72, ld_73, rfl, k74, k75, k76, k77, k78, k79, k80, k81, k82, k83, k84, k85, k86, k87, k88, k89⟩ := sp53.1 x 36 kx (by decide)
        refine tw_bi (tw_callV (M := mX10_ofCountry) (pc := 30) okX10_refuse dX10_ofCountry_30 w_1204 rfl f62 [.int 1, .int 2] [] rfl rfl ⟨by decide, by decide⟩ (Nat.le_of_ble_eq_true rfl) (c_X10_refuse d g τ h46 sp53.1 x kx 1 2 (by decide)) 3 17 (Nat.le_of_ble_eq_true rfl) (Nat.le_of_ble_eq_true rfl)) (fun r92 h91 q90 => ?_) (fun E h1 q => q.elim)
        obtain ⟨e93, he94, hs95, hr96, h397⟩ := q90
        have sp98 : tw_sp d τ h g τ h91 := by rw [he94]; exact sp53.set kx (by decide) hs95
        rcases hr96 with ei99 | ⟨ei99, ei99b⟩
        · rw [ei99]
          refine tw_if_eq 40 dX10_ofCountry_33 (by decide) (fun c100 => absurd c100 (by decide)) (fun _ => ?_)
          refine tw_iconst (v := 0) dX10_ofCountry_36 (by decide) ?_
          refine tw_goto 46 dX10_ofCountry_37 (by decide) ?_
          exact tw_iret dX10_ofCountry_46 rfl (Or.inl ⟨_, rfl, sp98⟩)
        · exact absurd ei99b (by decide)
      · rw [q57r]
        refine tw_if_ne 28 dX10_ofCountry_21 (by decide) (fun _ => ?_) (fun c101 => absurd c101 (by decide))
        refine tw_iconst (v := 0) dX10_ofCountry_28 (by decide) ?_
        refine tw_iconst (v := 2) dX10_ofCountry_29 (by decide) ?_
        obtain ⟨e102, f103, th_104, td_105, ds_106, fr_107, ca_108, us_109, wo_110, cm_111, lc_112, lh_113, ld_114, rfl, k115, k116, k117, k118, k119, k120, k121, k122, k123, k124, k125, k126, k127, k128, k129, k130⟩ := sp53.1 x 36 kx (by decide)
        refine tw_bi (tw_callV (M := mX10_ofCountry) (pc := 30) okX10_refuse dX10_ofCountry_30 w_1204 rfl f103 [.int 0, .int 2] [] rfl rfl ⟨by decide, by decide⟩ (Nat.le_of_ble_eq_true rfl) (c_X10_refuse d g τ h46 sp53.1 x kx 0 2 (by decide)) 3 17 (Nat.le_of_ble_eq_true rfl) (Nat.le_of_ble_eq_true rfl)) (fun r133 h132 q131 => ?_) (fun E h1 q => q.elim)
        obtain ⟨e134, he135, hs136, hr137, h3138⟩ := q131
        have sp139 : tw_sp d τ h g τ h132 := by rw [he135]; exact sp53.set kx (by decide) hs136
        rcases hr137 with ei140 | ⟨ei140, ei140b⟩
        · rw [ei140]
          refine tw_if_eq 40 dX10_ofCountry_33 (by decide) (fun c141 => absurd c141 (by decide)) (fun _ => ?_)
          refine tw_iconst (v := 0) dX10_ofCountry_36 (by decide) ?_
          refine tw_goto 46 dX10_ofCountry_37 (by decide) ?_
          exact tw_iret dX10_ofCountry_46 rfl (Or.inl ⟨_, rfl, sp139⟩)
        · rw [ei140]
          refine tw_if_eq 40 dX10_ofCountry_33 (by decide) (fun _ => ?_) (fun c142 => absurd (by decide) c142)
          refine tw_aload_n 0 dX10_ofCountry_40 rfl rfl ?_
          refine tw_iload_n 1 dX10_ofCountry_41 rfl rfl ?_
          refine tw_iload_n 2 dX10_ofCountry_42 rfl rfl ?_
          obtain ⟨e143, f144, th_145, td_146, ds_147, fr_148, ca_149, us_150, wo_151, cm_152, lc_153, lh_154, ld_155, rfl, k156, k157, k158, k159, k160, k161, k162, k163, k164, k165, k166, k167, k168, k169, k170, k171⟩ := sp139.1 x 36 kx (by decide)
          refine tw_bi (tw_callV (M := mX10_ofCountry) (pc := 43) okX10_ofCountryNow dX10_ofCountry_43 w_1505 rfl f144 [.int (nI j33), .int w9] [] rfl rfl ⟨by decide, by decide⟩ (Nat.le_of_ble_eq_true rfl) (c_X10_ofCountryNow d g τ h132 sp139.1 x kx w9 j33 (by omega) (tw_irng (N := 9) q57a q57b (by decide) (by decide))) 0 0 (Nat.le_of_ble_eq_true rfl) (Nat.le_of_ble_eq_true rfl)) (fun r174 h173 q172 => ?_) (fun E h1 q => q.elim)
          have sp175 := sp139.tr q172
          exact tw_iret dX10_ofCountry_46 rfl (Or.inl ⟨_, rfl, sp175⟩)

set_option maxHeartbeats 4000000 in
set_option maxRecDepth 100000 in
theorem c_X10_ofHouseNow (d : tw_D) (g : tw_G) (τ : tw_K) (h : tw_H) (hw : tw_wt d g τ h) (x : Nat) (kx : τ x = 36) (w9 : Int32) (a : Nat) (ha : a < g.2 4) (hw9 : vp_in w9 8) : tw_Ct d mX10_ofHouseNow 2 12 [.ref x, .int (nI a), .int w9] h (tw_qi (fun r h1 => tw_sp d τ h g τ h1) tw_nx) := by
  refine tw_of (by decide +kernel) (Nat.le_of_ble_eq_true rfl) ?_
  show tw_W d mX10_ofHouseNow _ 0 [(0, .ref x), (1, .int (nI a)), (2, .int w9)] [] h 2 12
  have sp0 := tw_sp.rf hw
  refine tw_aload_n 0 dX10_ofHouseNow_0 rfl rfl ?_
  obtain ⟨e1, f2, th_3, td_4, ds_5, fr_6, ca_7, us_8, wo_9, cm_10, lc_11, lh_12, ld_13, rfl, k14, k15, k16, k17, k18, k19, k20, k21, k22, k23, k24, k25, k26, k27, k28, k29⟩ := sp0.1 x 36 kx (by decide)
  refine tw_get (v := .ref lh_12) rfl in_14 10 dX10_ofHouseNow_1 w_1161 rfl (by decide) f2 rfl ?_
  refine tw_iload_n 1 dX10_ofHouseNow_4 rfl rfl ?_
  obtain ⟨e30, f31, ⟨el32, rfl, k33⟩, k34⟩ := sp0.1 lh_12 25 k21 (by decide)
  refine tw_br (tw_callV (M := mX10_ofHouseNow) (pc := 5) okJx4a65c_get_915e3 dX10_ofHouseNow_5 w_1296 rfl f31 [.int (nI a)] [] rfl rfl ⟨by decide, by decide⟩ (Nat.le_of_ble_eq_true rfl) (c25_get d g τ h sp0.1 lh_12 k21 a (by omega) (by omega)) 2 12 (Nat.le_of_ble_eq_true rfl) (Nat.le_of_ble_eq_true rfl)) (fun r37 h36 q35 => ?_) (fun E h1 q => q.elim)
  obtain ⟨q35e, q35k⟩ := q35
  rw [q35e]
  have el38 : tw_el h (g.2 13) a = r37 := by rw [← k34]; exact q35k.2.symm
  have kl39 : τ (g.2 13) = 25 := by rw [← k34]; exact k21
  obtain ⟨e40, f41, x_42, y_43, dy_44, p_45, rfl, k46, k47, k48⟩ := sp0.1 r37 23 q35k.1 (by decide)
  refine tw_castS (ci := 13) rfl dX10_ofHouseNow_8 w_1336 f41 ?_
  refine tw_astore_n [(3, .ref r37), (0, .ref x), (1, .int (nI a)), (2, .int w9)] dX10_ofHouseNow_11 rfl (by decide) rfl ?_
  refine tw_iconst (v := 0) dX10_ofHouseNow_12 (by decide) ?_
  refine tw_istore [(4, .int 0), (3, .ref r37), (0, .ref x), (1, .int (nI a)), (2, .int w9)] dX10_ofHouseNow_13 (by decide) rfl ?_
  refine tw_iconst (v := 0) dX10_ofHouseNow_15 (by decide) ?_
  refine tw_istore [(5, .int 0), (4, .int 0), (3, .ref r37), (0, .ref x), (1, .int (nI a)), (2, .int w9)] dX10_ofHouseNow_16 (by decide) rfl ?_
  refine tw_aload_n 3 dX10_ofHouseNow_18 rfl rfl ?_
  refine tw_get (v := .ref ld_13) rfl in_14 11 dX10_ofHouseNow_19 w_1162 rfl (by decide) f2 rfl ?_
  obtain ⟨e49, f50, ⟨el51, rfl, k52⟩, k53⟩ := sp0.1 ld_13 26 k22 (by decide)
  refine tw_br (tw_callV (M := mX10_ofHouseNow) (pc := 22) okJx4a65c_iterator_32c93 dX10_ofHouseNow_22 w_1386 rfl f50 [] [] rfl rfl ⟨by decide, by decide⟩ (Nat.le_of_ble_eq_true rfl) (c_iterator d h ld_13 el51 (g.1 5) (nI (g.2 5)) f50) 1 8 (Nat.le_of_ble_eq_true rfl) (Nat.le_of_ble_eq_true rfl)) (fun it54 h55 q56 => ?_) (fun E h1 q => q.elim)
  obtain ⟨q56n, q56e⟩ := q56
  rw [q56e]
  have n57 := sp0.nn q56n
  have z58 := sp0.1.none q56n
  obtain ⟨h59, eh59⟩ : ∃ z : tw_H, z = tw_up h it54 (.inr (2, [.int 0, .int (-1), .int (g.1 5), .ref ld_13])) := ⟨_, rfl⟩
  rw [← eh59]
  have sp60 : tw_sp d τ h g τ h59 := by rw [eh59]; exact sp0.mk q56n
  have f61 : h59 it54 = some (.inr (2, [.int 0, .int (-1), .int (g.1 5), .ref ld_13])) := by rw [eh59]; exact tw_up_s
  refine tw_astore [(6, .ref it54), (5, .int 0), (4, .int 0), (3, .ref r37), (0, .ref x), (1, .int (nI a)), (2, .int w9)] dX10_ofHouseNow_25 (by decide) rfl ?_
  have L68 : ∀ (r64 j65 : Nat) (l66 : Int32) (x62 : Int32) (x63 : Int32) (h69 : tw_H) (sp70 : tw_sp d τ (tw_rm h59 it54) g τ h69) (ft71 : h69 it54 = some (.inr (2, [.int (nI j65), .int l66, .int (g.1 5), .ref ld_13]))) (zt72 : τ it54 = 0), g.2 5 + 1 ≤ j65 + r64 → j65 ≤ g.2 5 → tw_W d mX10_ofHouseNow (tw_qi (fun r h1 => tw_sp d τ h g τ h1) tw_nx) 27 [(0, .ref x), (1, .int (nI a)), (2, .int w9), (3, .ref r37), (4, .int x62), (5, .int x63), (6, .ref it54)] [] h69 1 8 := by
    intro r64
    induction r64 with
    | zero => intro j65 l66 x62 x63 h69 sp70 ft71 zt72 hk73 hk74; exact absurd hk73 (by omega)
    | succ r64 ih67 =>
      intro j65 l66 x62 x63 h69 sp70 ft71 zt72 hk73 hk74
      refine tw_aload 6 dX10_ofHouseNow_27 rfl ?_
      obtain ⟨e75, f76, ⟨el77, rfl, k78⟩, k79⟩ := sp70.1 ld_13 26 k22 (by decide)
      refine tw_bi (tw_callF (M := mX10_ofHouseNow) (pc := 29) (n9 := 0) (ci := 2) tw_hasNext ok_itHas w_1416 w_1414 (fun s H z => z.2.2.2.2.2.2.2.2.1) (by decide +kernel) dX10_ofHouseNow_29 w_1410 rfl ft71 [] [] rfl rfl ⟨by decide, by decide⟩ (Nat.le_of_ble_eq_true rfl) (c_hasNext d h69 it54 ld_13 el77 j65 (g.2 5) l66 (g.1 5) (g.1 5) ft71 f76 (by omega) (tw_lim26 sp70.1 k22)) 1 8 (Nat.le_of_ble_eq_true rfl) (Nat.le_of_ble_eq_true rfl)) (fun r82 h81 q80 => ?_) (fun E h1 q => q.elim)
      obtain ⟨q80e, q80q⟩ := q80
      rw [q80e]
      rcases q80q with ⟨q80r, q80j⟩ | ⟨q80r, q80j⟩
      · rw [q80r]
        refine tw_if_eq 106 dX10_ofHouseNow_34 (by decide) (fun _ => ?_) (fun c83 => absurd (by decide) c83)
        refine tw_bipush (v := 8) dX10_ofHouseNow_106 (by decide) ?_
        refine tw_newa (a0 := (8, .inr (.inl (fun _ => 0)))) 1 rfl dX10_ofHouseNow_108 rfl w_1150 (fun _ => rfl) (by decide) (by decide) (by decide) 0 0 (Nat.le_of_ble_eq_true rfl) (Nat.le_of_ble_eq_true rfl) (fun q84 hq85 hA86 => ?_)
        have n87 := sp70.nn hq85
        have z88 := sp70.1.none hq85
        have ne89 := tw_neF ft71 hq85
        obtain ⟨h90, eh90⟩ : ∃ z : tw_H, z = tw_up h69 q84 (.inl (d.2 1, 8, .inr (.inl (fun _ => 0)))) := ⟨_, rfl⟩
        rw [← eh90]
        have sp91 : tw_sp d τ (tw_rm h59 it54) g τ h90 := by rw [eh90]; exact sp70.mk hq85
        have f92 : h90 it54 = some (.inr (2, [.int (nI j65), .int l66, .int (g.1 5), .ref ld_13])) := by rw [eh90, tw_up_n ne89]; exact ft71
        have f93 : h90 q84 = some (.inl (d.2 1, 8, .inr (.inl (fun _ => 0)))) := by rw [eh90]; exact tw_up_s
        refine tw_dup dX10_ofHouseNow_110 rfl ?_
        refine tw_iconst (v := 0) dX10_ofHouseNow_111 (by decide) ?_
        refine tw_aload_n 3 dX10_ofHouseNow_112 rfl rfl ?_
        obtain ⟨e94, f95, x_96, y_97, dy_98, p_99, rfl, k100, k101, k102⟩ := sp91.1 r37 23 q35k.1 (by decide)
        refine tw_get (v := .int x_96) rfl in_13 0 dX10_ofHouseNow_113 w_1342 rfl (by decide) f95 rfl ?_
        refine tw_i2l dX10_ofHouseNow_116 ?_
        refine tw_nml (fun v103 ev103 => ?_)
        refine tw_last dX10_ofHouseNow_117 f93 (vp_in_nI (n := 0) (by decide) (by decide)) ?_
        obtain ⟨F104, eF104⟩ : ∃ z : Nat → Int64, z = vp_updL (fun _ => 0) (0 : Int32).toNatClampNeg v103 := ⟨_, rfl⟩
        rw [← eF104]
        obtain ⟨h105, eh105⟩ : ∃ z : tw_H, z = tw_up h90 q84 (.inl (d.2 1, 8, .inr (.inl F104))) := ⟨_, rfl⟩
        rw [← eh105]
        have sp106 : tw_sp d τ (tw_rm h59 it54) g τ h105 := by rw [eh105]; exact sp91.wl n87 z88
        have f107 : h105 it54 = some (.inr (2, [.int (nI j65), .int l66, .int (g.1 5), .ref ld_13])) := by rw [eh105, tw_up_n ne89]; exact f92
        have f108 : h105 q84 = some (.inl (d.2 1, 8, .inr (.inl F104))) := by rw [eh105]; exact tw_up_s
        refine tw_dup dX10_ofHouseNow_118 rfl ?_
        refine tw_iconst (v := 1) dX10_ofHouseNow_119 (by decide) ?_
        refine tw_aload_n 3 dX10_ofHouseNow_120 rfl rfl ?_
        obtain ⟨e109, f110, x_111, y_112, dy_113, p_114, rfl, k115, k116, k117⟩ := sp106.1 r37 23 q35k.1 (by decide)
        refine tw_get (v := .int y_112) rfl in_13 1 dX10_ofHouseNow_121 w_1344 rfl (by decide) f110 rfl ?_
        refine tw_i2l dX10_ofHouseNow_124 ?_
        refine tw_nml (fun v118 ev118 => ?_)
        refine tw_last dX10_ofHouseNow_125 f108 (vp_in_nI (n := 1) (by decide) (by decide)) ?_
        obtain ⟨F119, eF119⟩ : ∃ z : Nat → Int64, z = vp_updL F104 (1 : Int32).toNatClampNeg v118 := ⟨_, rfl⟩
        rw [← eF119]
        obtain ⟨h120, eh120⟩ : ∃ z : tw_H, z = tw_up h105 q84 (.inl (d.2 1, 8, .inr (.inl F119))) := ⟨_, rfl⟩
        rw [← eh120]
        have sp121 : tw_sp d τ (tw_rm h59 it54) g τ h120 := by rw [eh120]; exact sp106.wl n87 z88
        have f122 : h120 it54 = some (.inr (2, [.int (nI j65), .int l66, .int (g.1 5), .ref ld_13])) := by rw [eh120, tw_up_n ne89]; exact f107
        have f123 : h120 q84 = some (.inl (d.2 1, 8, .inr (.inl F119))) := by rw [eh120]; exact tw_up_s
        refine tw_dup dX10_ofHouseNow_126 rfl ?_
        refine tw_iconst (v := 2) dX10_ofHouseNow_127 (by decide) ?_
        refine tw_aload_n 3 dX10_ofHouseNow_128 rfl rfl ?_
        obtain ⟨e124, f125, x_126, y_127, dy_128, p_129, rfl, k130, k131, k132⟩ := sp121.1 r37 23 q35k.1 (by decide)
        refine tw_get (v := .int dy_128) rfl in_13 2 dX10_ofHouseNow_129 w_1346 rfl (by decide) f125 rfl ?_
        refine tw_i2l dX10_ofHouseNow_132 ?_
        refine tw_nml (fun v133 ev133 => ?_)
        refine tw_last dX10_ofHouseNow_133 f123 (vp_in_nI (n := 2) (by decide) (by decide)) ?_
        obtain ⟨F134, eF134⟩ : ∃ z : Nat → Int64, z = vp_updL F119 (2 : Int32).toNatClampNeg v133 := ⟨_, rfl⟩
        rw [← eF134]
        obtain ⟨h135, eh135⟩ : ∃ z : tw_H, z = tw_up h120 q84 (.inl (d.2 1, 8, .inr (.inl F134))) := ⟨_, rfl⟩
        rw [← eh135]
        have sp136 : tw_sp d τ (tw_rm h59 it54) g τ h135 := by rw [eh135]; exact sp121.wl n87 z88
        have f137 : h135 it54 = some (.inr (2, [.int (nI j65), .int l66, .int (g.1 5), .ref ld_13])) := by rw [eh135, tw_up_n ne89]; exact f122
        have f138 : h135 q84 = some (.inl (d.2 1, 8, .inr (.inl F134))) := by rw [eh135]; exact tw_up_s
        refine tw_dup dX10_ofHouseNow_134 rfl ?_
        refine tw_iconst (v := 3) dX10_ofHouseNow_135 (by decide) ?_
        refine tw_aload_n 3 dX10_ofHouseNow_136 rfl rfl ?_
        obtain ⟨e139, f140, x_141, y_142, dy_143, p_144, rfl, k145, k146, k147⟩ := sp136.1 r37 23 q35k.1 (by decide)
        refine tw_get (v := .ref p_144) rfl in_13 3 dX10_ofHouseNow_137 w_1348 rfl (by decide) f140 rfl ?_
        refine tw_iconst (v := 0) dX10_ofHouseNow_140 (by decide) ?_
        obtain ⟨e148, f149, F150, rfl⟩ := sp136.1 p_144 31 k145 (by decide)
        obtain ⟨v151, ev151⟩ : ∃ y : Int64, F150 (0 : Int32).toNatClampNeg = y := ⟨_, rfl⟩
        refine tw_lald (v := v151) dX10_ofHouseNow_141 f149 (vp_in_nI (n := 0) (by decide) (by decide)) ev151 ?_
        refine tw_last dX10_ofHouseNow_142 f138 (vp_in_nI (n := 3) (by decide) (by decide)) ?_
        obtain ⟨F152, eF152⟩ : ∃ z : Nat → Int64, z = vp_updL F134 (3 : Int32).toNatClampNeg v151 := ⟨_, rfl⟩
        rw [← eF152]
        obtain ⟨h153, eh153⟩ : ∃ z : tw_H, z = tw_up h135 q84 (.inl (d.2 1, 8, .inr (.inl F152))) := ⟨_, rfl⟩
        rw [← eh153]
        have sp154 : tw_sp d τ (tw_rm h59 it54) g τ h153 := by rw [eh153]; exact sp136.wl n87 z88
        have f155 : h153 it54 = some (.inr (2, [.int (nI j65), .int l66, .int (g.1 5), .ref ld_13])) := by rw [eh153, tw_up_n ne89]; exact f137
        have f156 : h153 q84 = some (.inl (d.2 1, 8, .inr (.inl F152))) := by rw [eh153]; exact tw_up_s
        refine tw_dup dX10_ofHouseNow_143 rfl ?_
        refine tw_iconst (v := 4) dX10_ofHouseNow_144 (by decide) ?_
        refine tw_aload_n 3 dX10_ofHouseNow_145 rfl rfl ?_
        obtain ⟨e157, f158, x_159, y_160, dy_161, p_162, rfl, k163, k164, k165⟩ := sp154.1 r37 23 q35k.1 (by decide)
        refine tw_get (v := .ref p_162) rfl in_13 3 dX10_ofHouseNow_146 w_1348 rfl (by decide) f158 rfl ?_
        refine tw_iconst (v := 1) dX10_ofHouseNow_149 (by decide) ?_
        obtain ⟨e166, f167, F168, rfl⟩ := sp154.1 p_162 31 k163 (by decide)
        obtain ⟨v169, ev169⟩ : ∃ y : Int64, F168 (1 : Int32).toNatClampNeg = y := ⟨_, rfl⟩
        refine tw_lald (v := v169) dX10_ofHouseNow_150 f167 (vp_in_nI (n := 1) (by decide) (by decide)) ev169 ?_
        refine tw_last dX10_ofHouseNow_151 f156 (vp_in_nI (n := 4) (by decide) (by decide)) ?_
        obtain ⟨F170, eF170⟩ : ∃ z : Nat → Int64, z = vp_updL F152 (4 : Int32).toNatClampNeg v169 := ⟨_, rfl⟩
        rw [← eF170]
        obtain ⟨h171, eh171⟩ : ∃ z : tw_H, z = tw_up h153 q84 (.inl (d.2 1, 8, .inr (.inl F170))) := ⟨_, rfl⟩
        rw [← eh171]
        have sp172 : tw_sp d τ (tw_rm h59 it54) g τ h171 := by rw [eh171]; exact sp154.wl n87 z88
        have f173 : h171 it54 = some (.inr (2, [.int (nI j65), .int l66, .int (g.1 5), .ref ld_13])) := by rw [eh171, tw_up_n ne89]; exact f155
        have f174 : h171 q84 = some (.inl (d.2 1, 8, .inr (.inl F170))) := by rw [eh171]; exact tw_up_s
        refine tw_dup dX10_ofHouseNow_152 rfl ?_
        refine tw_iconst (v := 5) dX10_ofHouseNow_153 (by decide) ?_
        refine tw_aload_n 0 dX10_ofHouseNow_154 rfl rfl ?_
        refine tw_aload_n 3 dX10_ofHouseNow_155 rfl rfl ?_
        obtain ⟨e175, f176, x_177, y_178, dy_179, p_180, rfl, k181, k182, k183⟩ := sp172.1 r37 23 q35k.1 (by decide)
        refine tw_get (v := .ref p_180) rfl in_13 3 dX10_ofHouseNow_156 w_1348 rfl (by decide) f176 rfl ?_
        obtain ⟨e184, f185, th_186, td_187, ds_188, fr_189, ca_190, us_191, wo_192, cm_193, lc_194, lh_195, ld_196, rfl, k197, k198, k199, k200, k201, k202, k203, k204, k205, k206, k207, k208, k209, k210, k211, k212⟩ := sp172.1 x 36 kx (by decide)
        refine tw_bl (tw_callV (M := mX10_ofHouseNow) (pc := 159) okX10_worth dX10_ofHouseNow_159 w_1509 rfl f185 [.ref p_180] [.int 5, .ref q84, .ref q84] rfl rfl ⟨by decide, by decide⟩ (Nat.le_of_ble_eq_true rfl) (c_X10_worth d g τ h171 sp172.1 x kx p_180 k181) 0 0 (Nat.le_of_ble_eq_true rfl) (Nat.le_of_ble_eq_true rfl)) (fun r215 h214 q213 => ?_) (fun E h1 q => q.elim)
        rw [q213]
        refine tw_last dX10_ofHouseNow_162 f174 (vp_in_nI (n := 5) (by decide) (by decide)) ?_
        obtain ⟨F216, eF216⟩ : ∃ z : Nat → Int64, z = vp_updL F170 (5 : Int32).toNatClampNeg r215 := ⟨_, rfl⟩
        rw [← eF216]
        obtain ⟨h217, eh217⟩ : ∃ z : tw_H, z = tw_up h171 q84 (.inl (d.2 1, 8, .inr (.inl F216))) := ⟨_, rfl⟩
        rw [← eh217]
        have sp218 : tw_sp d τ (tw_rm h59 it54) g τ h217 := by rw [eh217]; exact sp172.wl n87 z88
        have f219 : h217 it54 = some (.inr (2, [.int (nI j65), .int l66, .int (g.1 5), .ref ld_13])) := by rw [eh217, tw_up_n ne89]; exact f173
        have f220 : h217 q84 = some (.inl (d.2 1, 8, .inr (.inl F216))) := by rw [eh217]; exact tw_up_s
        refine tw_dup dX10_ofHouseNow_163 rfl ?_
        refine tw_bipush (v := 6) dX10_ofHouseNow_164 (by decide) ?_
        refine tw_iload 4 dX10_ofHouseNow_166 rfl ?_
        refine tw_i2l dX10_ofHouseNow_168 ?_
        refine tw_nml (fun v221 ev221 => ?_)
        refine tw_last dX10_ofHouseNow_169 f220 (vp_in_nI (n := 6) (by decide) (by decide)) ?_
        obtain ⟨F222, eF222⟩ : ∃ z : Nat → Int64, z = vp_updL F216 (6 : Int32).toNatClampNeg v221 := ⟨_, rfl⟩
        rw [← eF222]
        obtain ⟨h223, eh223⟩ : ∃ z : tw_H, z = tw_up h217 q84 (.inl (d.2 1, 8, .inr (.inl F222))) := ⟨_, rfl⟩
        rw [← eh223]
        have sp224 : tw_sp d τ (tw_rm h59 it54) g τ h223 := by rw [eh223]; exact sp218.wl n87 z88
        have f225 : h223 it54 = some (.inr (2, [.int (nI j65), .int l66, .int (g.1 5), .ref ld_13])) := by rw [eh223, tw_up_n ne89]; exact f219
        have f226 : h223 q84 = some (.inl (d.2 1, 8, .inr (.inl F222))) := by rw [eh223]; exact tw_up_s
        refine tw_dup dX10_ofHouseNow_170 rfl ?_
        refine tw_bipush (v := 7) dX10_ofHouseNow_171 (by decide) ?_
        refine tw_iload 5 dX10_ofHouseNow_173 rfl ?_
        refine tw_i2l dX10_ofHouseNow_175 ?_
        refine tw_nml (fun v227 ev227 => ?_)
        refine tw_last dX10_ofHouseNow_176 f226 (vp_in_nI (n := 7) (by decide) (by decide)) ?_
        obtain ⟨F228, eF228⟩ : ∃ z : Nat → Int64, z = vp_updL F222 (7 : Int32).toNatClampNeg v227 := ⟨_, rfl⟩
        rw [← eF228]
        obtain ⟨h229, eh229⟩ : ∃ z : tw_H, z = tw_up h223 q84 (.inl (d.2 1, 8, .inr (.inl F228))) := ⟨_, rfl⟩
        rw [← eh229]
        have sp230 : tw_sp d τ (tw_rm h59 it54) g τ h229 := by rw [eh229]; exact sp224.wl n87 z88
        have f231 : h229 it54 = some (.inr (2, [.int (nI j65), .int l66, .int (g.1 5), .ref ld_13])) := by rw [eh229, tw_up_n ne89]; exact f225
        have f232 : h229 q84 = some (.inl (d.2 1, 8, .inr (.inl F228))) := by rw [eh229]; exact tw_up_s
        refine tw_astore [(6, .ref q84), (0, .ref x), (1, .int (nI a)), (2, .int w9), (3, .ref r37), (4, .int x62), (5, .int x63)] dX10_ofHouseNow_177 (by decide) rfl ?_
        refine tw_aload 0 dX10_ofHouseNow_179 rfl ?_
        refine tw_iload_n 3 dX10_ofHouseNow_181 rfl rfl ?_
        obtain ⟨v233, ev233⟩ : ∃ y : Int64, F228 (w9).toNatClampNeg = y := ⟨_, rfl⟩
        refine tw_lald (v := v233) dX10_ofHouseNow_182 f232 hw9 ev233 ?_
        refine tw_l2i dX10_ofHouseNow_183 ?_
        refine tw_nmi (fun v234 ev234 => ?_)
        exact tw_iret dX10_ofHouseNow_184 rfl (Or.inl ⟨_, rfl, (sp60.trm n57 sp230)⟩)
      · rw [q80r]
        refine tw_if_eq 106 dX10_ofHouseNow_34 (by decide) (fun c235 => absurd c235 (by decide)) (fun _ => ?_)
        refine tw_aload 6 dX10_ofHouseNow_37 rfl ?_
        have k236 : τ el77 = 29 := k78.resolve_left (fun q => absurd q80j (by rw [q.2.1]; exact Nat.not_lt_zero _))
        obtain ⟨e237, f238, ⟨F239, rfl, hc240, hc241⟩, un242⟩ := sp70.1 el77 29 k236 (by decide)
        obtain ⟨y243, hy244, ky245⟩ := hc241 j65 q80j
        refine tw_br (tw_callF (M := mX10_ofHouseNow) (pc := 39) (n9 := 0) (ci := 2) tw_next ok_itNext w_1425 w_1423 (fun s H z => z.2.2.2.2.2.2.2.2.2) (by decide +kernel) dX10_ofHouseNow_39 w_1420 rfl ft71 [] [] rfl rfl ⟨by decide, by decide⟩ (Nat.le_of_ble_eq_true rfl) (c_next d h69 it54 ld_13 el77 j65 (g.2 5) y243 l66 (g.1 5) F239 ft71 f76 f238 q80j hc240 hy244) 1 8 (Nat.le_of_ble_eq_true rfl) (Nat.le_of_ble_eq_true rfl)) (fun r248 h247 q246 => ?_) (fun E h1 q => q.elim)
        obtain ⟨q246r, q246e⟩ := q246
        rw [q246r]
        have sp249 : tw_sp d τ (tw_rm h59 it54) g τ h247 := by rw [q246e]; exact sp70.wl tw_rm_s zt72
        have f250 : h247 it54 = some (.inr (2, [.int (nI (j65 + 1)), .int (nI j65), .int (g.1 5), .ref ld_13])) := by rw [q246e]; exact tw_up_s
        obtain ⟨e251, f252, v_253, dy_254, pd_255, i_256, j_257, rfl, k258, k259, k260⟩ := sp249.1 y243 22 ky245 (by decide)
        refine tw_castS (ci := 12) rfl dX10_ofHouseNow_44 w_1437 f252 ?_
        refine tw_astore [(7, .ref y243), (0, .ref x), (1, .int (nI a)), (2, .int w9), (3, .ref r37), (4, .int x62), (5, .int x63), (6, .ref it54)] dX10_ofHouseNow_47 (by decide) rfl ?_
        refine tw_iload 5 dX10_ofHouseNow_49 rfl ?_
        refine tw_aload 0 dX10_ofHouseNow_51 rfl ?_
        refine tw_get (v := .int pd_255) rfl in_12 4 dX10_ofHouseNow_53 w_1447 rfl (by decide) f252 rfl ?_
        refine tw_if_ne 72 dX10_ofHouseNow_56 (by decide) (fun c261 => ?_) (fun c261 => ?_)
        · refine tw_iconst (v := 0) dX10_ofHouseNow_72 (by decide) ?_
          refine tw_iadd dX10_ofHouseNow_73 ?_
          refine tw_nmi (fun v262 ev262 => ?_)
          refine tw_istore [(4, .int v262), (7, .ref y243), (0, .ref x), (1, .int (nI a)), (2, .int w9), (3, .ref r37), (5, .int x63), (6, .ref it54)] dX10_ofHouseNow_74 (by decide) rfl ?_
          refine tw_iload 6 dX10_ofHouseNow_76 rfl ?_
          refine tw_aload 1 dX10_ofHouseNow_78 rfl ?_
          refine tw_get (v := .int pd_255) rfl in_12 4 dX10_ofHouseNow_80 w_1447 rfl (by decide) f252 rfl ?_
          refine tw_if_ne 99 dX10_ofHouseNow_83 (by decide) (fun c263 => ?_) (fun c263 => ?_)
          · refine tw_iconst (v := 0) dX10_ofHouseNow_99 (by decide) ?_
            refine tw_iadd dX10_ofHouseNow_100 ?_
            refine tw_nmi (fun v264 ev264 => ?_)
            refine tw_istore [(5, .int v264), (4, .int v262), (7, .ref y243), (0, .ref x), (1, .int (nI a)), (2, .int w9), (3, .ref r37), (6, .ref it54)] dX10_ofHouseNow_101 (by decide) rfl ?_
            refine tw_goto 27 dX10_ofHouseNow_103 (by decide) ?_
            refine tw_lv [3, 4, 5, 6, 1, 0, 7] rfl ?_
            exact ih67 ((j65 + 1)) (nI j65) v262 v264 _ sp249 f250 zt72  (by omega) (by omega)
          · refine tw_aload 1 dX10_ofHouseNow_86 rfl ?_
            refine tw_get (v := .int (nI j_257)) rfl in_12 1 dX10_ofHouseNow_88 w_1444 rfl (by decide) f252 rfl ?_
            refine tw_iload_n 3 dX10_ofHouseNow_91 rfl rfl ?_
            refine tw_icmp_ne 99 dX10_ofHouseNow_92 (by decide) (fun c265 => ?_) (fun c265 => ?_)
            · refine tw_iconst (v := 0) dX10_ofHouseNow_99 (by decide) ?_
              refine tw_iadd dX10_ofHouseNow_100 ?_
              refine tw_nmi (fun v266 ev266 => ?_)
              refine tw_istore [(5, .int v266), (4, .int v262), (7, .ref y243), (0, .ref x), (1, .int (nI a)), (2, .int w9), (3, .ref r37), (6, .ref it54)] dX10_ofHouseNow_101 (by decide) rfl ?_
              refine tw_goto 27 dX10_ofHouseNow_103 (by decide) ?_
              refine tw_lv [3, 4, 5, 6, 1, 0, 7] rfl ?_
              exact ih67 ((j65 + 1)) (nI j65) v262 v266 _ sp249 f250 zt72  (by omega) (by omega)
            · refine tw_iconst (v := 1) dX10_ofHouseNow_95 (by decide) ?_
              refine tw_goto 100 dX10_ofHouseNow_96 (by decide) ?_
              refine tw_iadd dX10_ofHouseNow_100 ?_
              refine tw_nmi (fun v267 ev267 => ?_)
              refine tw_istore [(5, .int v267), (4, .int v262), (7, .ref y243), (0, .ref x), (1, .int (nI a)), (2, .int w9), (3, .ref r37), (6, .ref it54)] dX10_ofHouseNow_101 (by decide) rfl ?_
              refine tw_goto 27 dX10_ofHouseNow_103 (by decide) ?_
              refine tw_lv [3, 4, 5, 6, 1, 0, 7] rfl ?_
              exact ih67 ((j65 + 1)) (nI j65) v262 v267 _ sp249 f250 zt72  (by omega) (by omega)
        · refine tw_aload 0 dX10_ofHouseNow_59 rfl ?_
          refine tw_get (v := .int (nI i_256)) rfl in_12 0 dX10_ofHouseNow_61 w_1443 rfl (by decide) f252 rfl ?_
          refine tw_iload_n 2 dX10_ofHouseNow_64 rfl rfl ?_
          refine tw_icmp_ne 72 dX10_ofHouseNow_65 (by decide) (fun c268 => ?_) (fun c268 => ?_)
          · refine tw_iconst (v := 0) dX10_ofHouseNow_72 (by decide) ?_
            refine tw_iadd dX10_ofHouseNow_73 ?_
            refine tw_nmi (fun v269 ev269 => ?_)
            refine tw_istore [(4, .int v269), (7, .ref y243), (0, .ref x), (1, .int (nI a)), (2, .int w9), (3, .ref r37), (5, .int x63), (6, .ref it54)] dX10_ofHouseNow_74 (by decide) rfl ?_
            refine tw_iload 6 dX10_ofHouseNow_76 rfl ?_
            refine tw_aload 1 dX10_ofHouseNow_78 rfl ?_
            refine tw_get (v := .int pd_255) rfl in_12 4 dX10_ofHouseNow_80 w_1447 rfl (by decide) f252 rfl ?_
            refine tw_if_ne 99 dX10_ofHouseNow_83 (by decide) (fun c270 => ?_) (fun c270 => ?_)
            · refine tw_iconst (v := 0) dX10_ofHouseNow_99 (by decide) ?_
              refine tw_iadd dX10_ofHouseNow_100 ?_
              refine tw_nmi (fun v271 ev271 => ?_)
              refine tw_istore [(5, .int v271), (4, .int v269), (7, .ref y243), (0, .ref x), (1, .int (nI a)), (2, .int w9), (3, .ref r37), (6, .ref it54)] dX10_ofHouseNow_101 (by decide) rfl ?_
              refine tw_goto 27 dX10_ofHouseNow_103 (by decide) ?_
              refine tw_lv [3, 4, 5, 6, 1, 0, 7] rfl ?_
              exact ih67 ((j65 + 1)) (nI j65) v269 v271 _ sp249 f250 zt72  (by omega) (by omega)
            · refine tw_aload 1 dX10_ofHouseNow_86 rfl ?_
              refine tw_get (v := .int (nI j_257)) rfl in_12 1 dX10_ofHouseNow_88 w_1444 rfl (by decide) f252 rfl ?_
              refine tw_iload_n 3 dX10_ofHouseNow_91 rfl rfl ?_
              refine tw_icmp_ne 99 dX10_ofHouseNow_92 (by decide) (fun c272 => ?_) (fun c272 => ?_)
              · refine tw_iconst (v := 0) dX10_ofHouseNow_99 (by decide) ?_
                refine tw_iadd dX10_ofHouseNow_100 ?_
                refine tw_nmi (fun v273 ev273 => ?_)
                refine tw_istore [(5, .int v273), (4, .int v269), (7, .ref y243), (0, .ref x), (1, .int (nI a)), (2, .int w9), (3, .ref r37), (6, .ref it54)] dX10_ofHouseNow_101 (by decide) rfl ?_
                refine tw_goto 27 dX10_ofHouseNow_103 (by decide) ?_
                refine tw_lv [3, 4, 5, 6, 1, 0, 7] rfl ?_
                exact ih67 ((j65 + 1)) (nI j65) v269 v273 _ sp249 f250 zt72  (by omega) (by omega)
              · refine tw_iconst (v := 1) dX10_ofHouseNow_95 (by decide) ?_
                refine tw_goto 100 dX10_ofHouseNow_96 (by decide) ?_
                refine tw_iadd dX10_ofHouseNow_100 ?_
                refine tw_nmi (fun v274 ev274 => ?_)
                refine tw_istore [(5, .int v274), (4, .int v269), (7, .ref y243), (0, .ref x), (1, .int (nI a)), (2, .int w9), (3, .ref r37), (6, .ref it54)] dX10_ofHouseNow_101 (by decide) rfl ?_
                refine tw_goto 27 dX10_ofHouseNow_103 (by decide) ?_
                refine tw_lv [3, 4, 5, 6, 1, 0, 7] rfl ?_
                exact ih67 ((j65 + 1)) (nI j65) v269 v274 _ sp249 f250 zt72  (by omega) (by omega)
          · refine tw_iconst (v := 1) dX10_ofHouseNow_68 (by decide) ?_
            refine tw_goto 73 dX10_ofHouseNow_69 (by decide) ?_
            refine tw_iadd dX10_ofHouseNow_73 ?_
            refine tw_nmi (fun v275 ev275 => ?_)
            refine tw_istore [(4, .int v275), (7, .ref y243), (0, .ref x), (1, .int (nI a)), (2, .int w9), (3, .ref r37), (5, .int x63), (6, .ref it54)] dX10_ofHouseNow_74 (by decide) rfl ?_
            refine tw_iload 6 dX10_ofHouseNow_76 rfl ?_
            refine tw_aload 1 dX10_ofHouseNow_78 rfl ?_
            refine tw_get (v := .int pd_255) rfl in_12 4 dX10_ofHouseNow_80 w_1447 rfl (by decide) f252 rfl ?_
            refine tw_if_ne 99 dX10_ofHouseNow_83 (by decide) (fun c276 => ?_) (fun c276 => ?_)
            · refine tw_iconst (v := 0) dX10_ofHouseNow_99 (by decide) ?_
              refine tw_iadd dX10_ofHouseNow_100 ?_
              refine tw_nmi (fun v277 ev277 => ?_)
              refine tw_istore [(5, .int v277), (4, .int v275), (7, .ref y243), (0, .ref x), (1, .int (nI a)), (2, .int w9), (3, .ref r37), (6, .ref it54)] dX10_ofHouseNow_101 (by decide) rfl ?_
              refine tw_goto 27 dX10_ofHouseNow_103 (by decide) ?_
              refine tw_lv [3, 4, 5, 6, 1, 0, 7] rfl ?_
              exact ih67 ((j65 + 1)) (nI j65) v275 v277 _ sp249 f250 zt72  (by omega) (by omega)
            · refine tw_aload 1 dX10_ofHouseNow_86 rfl ?_
              refine tw_get (v := .int (nI j_257)) rfl in_12 1 dX10_ofHouseNow_88 w_1444 rfl (by decide) f252 rfl ?_
              refine tw_iload_n 3 dX10_ofHouseNow_91 rfl rfl ?_
              refine tw_icmp_ne 99 dX10_ofHouseNow_92 (by decide) (fun c278 => ?_) (fun c278 => ?_)
              · refine tw_iconst (v := 0) dX10_ofHouseNow_99 (by decide) ?_
                refine tw_iadd dX10_ofHouseNow_100 ?_
                refine tw_nmi (fun v279 ev279 => ?_)
                refine tw_istore [(5, .int v279), (4, .int v275), (7, .ref y243), (0, .ref x), (1, .int (nI a)), (2, .int w9), (3, .ref r37), (6, .ref it54)] dX10_ofHouseNow_101 (by decide) rfl ?_
                refine tw_goto 27 dX10_ofHouseNow_103 (by decide) ?_
                refine tw_lv [3, 4, 5, 6, 1, 0, 7] rfl ?_
                exact ih67 ((j65 + 1)) (nI j65) v275 v279 _ sp249 f250 zt72  (by omega) (by omega)
              · refine tw_iconst (v := 1) dX10_ofHouseNow_95 (by decide) ?_
                refine tw_goto 100 dX10_ofHouseNow_96 (by decide) ?_
                refine tw_iadd dX10_ofHouseNow_100 ?_
                refine tw_nmi (fun v280 ev280 => ?_)
                refine tw_istore [(5, .int v280), (4, .int v275), (7, .ref y243), (0, .ref x), (1, .int (nI a)), (2, .int w9), (3, .ref r37), (6, .ref it54)] dX10_ofHouseNow_101 (by decide) rfl ?_
                refine tw_goto 27 dX10_ofHouseNow_103 (by decide) ?_
                refine tw_lv [3, 4, 5, 6, 1, 0, 7] rfl ?_
                exact ih67 ((j65 + 1)) (nI j65) v275 v280 _ sp249 f250 zt72  (by omega) (by omega)
  refine tw_lv [4, 5, 6, 3, 2, 1, 0] rfl ?_
  exact L68 (g.2 5 + 1) 0 (-1) 0 0 _ (tw_sp.rm sp60.1 it54) f61 z58  (by omega) (Nat.zero_le _)

set_option maxHeartbeats 4000000 in
set_option maxRecDepth 100000 in
theorem c_X10_ofHouse (d : tw_D) (g : tw_G) (τ : tw_K) (h : tw_H) (hw : tw_wt d g τ h) (x : Nat) (kx : τ x = 36) (a : Int32) (w9 : Int32) : tw_Ct d mX10_ofHouse 2 12 [.ref x, .int a, .int w9] h (tw_qi (fun r h1 => tw_sp d τ h g τ h1) tw_nx) := by
  refine tw_of (by decide +kernel) (Nat.le_of_ble_eq_true rfl) ?_
  show tw_W d mX10_ofHouse _ 0 [(0, .ref x), (1, .int a), (2, .int w9)] [] h 2 12
  have sp0 := tw_sp.rf hw
  refine tw_aload_n 0 dX10_ofHouse_0 rfl rfl ?_
  refine tw_aload_n 0 dX10_ofHouse_1 rfl rfl ?_
  refine tw_iload_n 1 dX10_ofHouse_2 rfl rfl ?_
  obtain ⟨e1, f2, th_3, td_4, ds_5, fr_6, ca_7, us_8, wo_9, cm_10, lc_11, lh_12, ld_13, rfl, k14, k15, k16, k17, k18, k19, k20, k21, k22, k23, k24, k25, k26, k27, k28, k29⟩ := sp0.1 x 36 kx (by decide)
  refine tw_bi (tw_callV (M := mX10_ofHouse) (pc := 3) okX10_isNoHouse dX10_ofHouse_3 w_1362 rfl f2 [.int a] [.ref x] rfl rfl ⟨by decide, by decide⟩ (Nat.le_of_ble_eq_true rfl) (c_X10_isNoHouse d g τ h sp0.1 x kx a) 2 12 (Nat.le_of_ble_eq_true rfl) (Nat.le_of_ble_eq_true rfl)) (fun r32 h31 q30 => ?_) (fun E h1 q => q.elim)
  obtain ⟨q30e, q30d⟩ := q30
  rw [q30e]
  rcases q30d with q30r | ⟨q30r, j33, q30j, q30k⟩
  · rw [q30r]
    refine tw_iconst (v := 1) dX10_ofHouse_6 (by decide) ?_
    refine tw_bi (tw_callV (M := mX10_ofHouse) (pc := 7) okX10_start dX10_ofHouse_7 w_1200 rfl f2 [.int 1, .int 1] [] rfl rfl ⟨by decide, by decide⟩ (Nat.le_of_ble_eq_true rfl) (c_X10_start d g τ h sp0.1 x kx 1 1 (by decide)) 2 12 (Nat.le_of_ble_eq_true rfl) (Nat.le_of_ble_eq_true rfl)) (fun r36 h35 q34 => ?_) (fun E h1 q => q.elim)
    obtain ⟨e37, he38, hs39, hr40, h341⟩ := q34
    have sp42 : tw_sp d τ h g τ h35 := by rw [he38]; exact sp0.set kx (by decide) hs39
    rcases hr40 with ei43 | ⟨ei43, ei43b⟩
    · rw [ei43]
      refine tw_if_ne 36 dX10_ofHouse_10 (by decide) (fun _ => ?_) (fun c44 => absurd c44 (by decide))
      refine tw_iconst (v := 0) dX10_ofHouse_36 (by decide) ?_
      refine tw_goto 46 dX10_ofHouse_37 (by decide) ?_
      exact tw_iret dX10_ofHouse_46 rfl (Or.inl ⟨_, rfl, sp42⟩)
    · exact absurd ei43b (by decide)
  · rw [q30r]
    subst q30k
    refine tw_iconst (v := 1) dX10_ofHouse_6 (by decide) ?_
    refine tw_bi (tw_callV (M := mX10_ofHouse) (pc := 7) okX10_start dX10_ofHouse_7 w_1200 rfl f2 [.int 0, .int 1] [] rfl rfl ⟨by decide, by decide⟩ (Nat.le_of_ble_eq_true rfl) (c_X10_start d g τ h sp0.1 x kx 0 1 (by decide)) 2 12 (Nat.le_of_ble_eq_true rfl) (Nat.le_of_ble_eq_true rfl)) (fun r47 h46 q45 => ?_) (fun E h1 q => q.elim)
    obtain ⟨e48, he49, hs50, hr51, h352⟩ := q45
    have sp53 : tw_sp d τ h g τ h46 := by rw [he49]; exact sp0.set kx (by decide) hs50
    rcases hr51 with ei54 | ⟨ei54, ei54b⟩
    · rw [ei54]
      refine tw_if_ne 36 dX10_ofHouse_10 (by decide) (fun _ => ?_) (fun c55 => absurd c55 (by decide))
      refine tw_iconst (v := 0) dX10_ofHouse_36 (by decide) ?_
      refine tw_goto 46 dX10_ofHouse_37 (by decide) ?_
      exact tw_iret dX10_ofHouse_46 rfl (Or.inl ⟨_, rfl, sp53⟩)
    · rw [ei54]
      refine tw_if_ne 36 dX10_ofHouse_10 (by decide) (fun c56 => absurd (by decide) c56) (fun _ => ?_)
      refine tw_aload_n 0 dX10_ofHouse_13 rfl rfl ?_
      refine tw_iload_n 2 dX10_ofHouse_14 rfl rfl ?_
      refine tw_iconst (v := 0) dX10_ofHouse_15 (by decide) ?_
      refine tw_bipush (v := 7) dX10_ofHouse_16 (by decide) ?_
      refine tw_bi (tw_callS (M := mX10_ofHouse) (pc := 18) okX10_isIn dX10_ofHouse_18 w_1196 [.int w9, .int 0, .int 7] [.ref x] rfl rfl ⟨by decide, by decide⟩ (Nat.le_of_ble_eq_true rfl) (c_X10_isIn d g τ h46 sp53.1 w9 0 7) 2 12 (Nat.le_of_ble_eq_true rfl) (Nat.le_of_ble_eq_true rfl)) (fun r59 h58 q57 => ?_) (fun E h1 q => q.elim)
      obtain ⟨q57e, q57d⟩ := q57
      rw [q57e]
      rcases q57d with ⟨q57r, q57n⟩ | ⟨q57r, q57a, q57b⟩
      · rw [q57r]
        refine tw_if_ne 28 dX10_ofHouse_21 (by decide) (fun c60 => absurd (by decide) c60) (fun _ => ?_)
        refine tw_iconst (v := 1) dX10_ofHouse_24 (by decide) ?_
        refine tw_goto 29 dX10_ofHouse_25 (by decide) ?_
        refine tw_iconst (v := 2) dX10_ofHouse_29 (by decide) ?_
        obtain ⟨e61, f62, th_63, td_64, ds_65, fr_66, ca_67, us_68, wo_69, cm_70, lc_71, lh_72, ld_73, rfl, k74, k75, k76, k77, k78, k79, k80, k81, k82, k83, k84, k85, k86, k87, k88, k89⟩ := sp53.1 x 36 kx (by decide)
        refine tw_bi (tw_callV (M := mX10_ofHouse) (pc := 30) okX10_refuse dX10_ofHouse_30 w_1204 rfl f62 [.int 1, .int 2] [] rfl rfl ⟨by decide, by decide⟩ (Nat.le_of_ble_eq_true rfl) (c_X10_refuse d g τ h46 sp53.1 x kx 1 2 (by decide)) 2 12 (Nat.le_of_ble_eq_true rfl) (Nat.le_of_ble_eq_true rfl)) (fun r92 h91 q90 => ?_) (fun E h1 q => q.elim)
        obtain ⟨e93, he94, hs95, hr96, h397⟩ := q90
        have sp98 : tw_sp d τ h g τ h91 := by rw [he94]; exact sp53.set kx (by decide) hs95
        rcases hr96 with ei99 | ⟨ei99, ei99b⟩
        · rw [ei99]
          refine tw_if_eq 40 dX10_ofHouse_33 (by decide) (fun c100 => absurd c100 (by decide)) (fun _ => ?_)
          refine tw_iconst (v := 0) dX10_ofHouse_36 (by decide) ?_
          refine tw_goto 46 dX10_ofHouse_37 (by decide) ?_
          exact tw_iret dX10_ofHouse_46 rfl (Or.inl ⟨_, rfl, sp98⟩)
        · exact absurd ei99b (by decide)
      · rw [q57r]
        refine tw_if_ne 28 dX10_ofHouse_21 (by decide) (fun _ => ?_) (fun c101 => absurd c101 (by decide))
        refine tw_iconst (v := 0) dX10_ofHouse_28 (by decide) ?_
        refine tw_iconst (v := 2) dX10_ofHouse_29 (by decide) ?_
        obtain ⟨e102, f103, th_104, td_105, ds_106, fr_107, ca_108, us_109, wo_110, cm_111, lc_112, lh_113, ld_114, rfl, k115, k116, k117, k118, k119, k120, k121, k122, k123, k124, k125, k126, k127, k128, k129, k130⟩ := sp53.1 x 36 kx (by decide)
        refine tw_bi (tw_callV (M := mX10_ofHouse) (pc := 30) okX10_refuse dX10_ofHouse_30 w_1204 rfl f103 [.int 0, .int 2] [] rfl rfl ⟨by decide, by decide⟩ (Nat.le_of_ble_eq_true rfl) (c_X10_refuse d g τ h46 sp53.1 x kx 0 2 (by decide)) 2 12 (Nat.le_of_ble_eq_true rfl) (Nat.le_of_ble_eq_true rfl)) (fun r133 h132 q131 => ?_) (fun E h1 q => q.elim)
        obtain ⟨e134, he135, hs136, hr137, h3138⟩ := q131
        have sp139 : tw_sp d τ h g τ h132 := by rw [he135]; exact sp53.set kx (by decide) hs136
        rcases hr137 with ei140 | ⟨ei140, ei140b⟩
        · rw [ei140]
          refine tw_if_eq 40 dX10_ofHouse_33 (by decide) (fun c141 => absurd c141 (by decide)) (fun _ => ?_)
          refine tw_iconst (v := 0) dX10_ofHouse_36 (by decide) ?_
          refine tw_goto 46 dX10_ofHouse_37 (by decide) ?_
          exact tw_iret dX10_ofHouse_46 rfl (Or.inl ⟨_, rfl, sp139⟩)
        · rw [ei140]
          refine tw_if_eq 40 dX10_ofHouse_33 (by decide) (fun _ => ?_) (fun c142 => absurd (by decide) c142)
          refine tw_aload_n 0 dX10_ofHouse_40 rfl rfl ?_
          refine tw_iload_n 1 dX10_ofHouse_41 rfl rfl ?_
          refine tw_iload_n 2 dX10_ofHouse_42 rfl rfl ?_
          obtain ⟨e143, f144, th_145, td_146, ds_147, fr_148, ca_149, us_150, wo_151, cm_152, lc_153, lh_154, ld_155, rfl, k156, k157, k158, k159, k160, k161, k162, k163, k164, k165, k166, k167, k168, k169, k170, k171⟩ := sp139.1 x 36 kx (by decide)
          refine tw_bi (tw_callV (M := mX10_ofHouse) (pc := 43) okX10_ofHouseNow dX10_ofHouse_43 w_1517 rfl f144 [.int (nI j33), .int w9] [] rfl rfl ⟨by decide, by decide⟩ (Nat.le_of_ble_eq_true rfl) (c_X10_ofHouseNow d g τ h132 sp139.1 x kx w9 j33 (by omega) (tw_irng (N := 8) q57a q57b (by decide) (by decide))) 0 0 (Nat.le_of_ble_eq_true rfl) (Nat.le_of_ble_eq_true rfl)) (fun r174 h173 q172 => ?_) (fun E h1 q => q.elim)
          have sp175 := sp139.tr q172
          exact tw_iret dX10_ofHouse_46 rfl (Or.inl ⟨_, rfl, sp175⟩)

set_option maxHeartbeats 4000000 in
set_option maxRecDepth 100000 in
theorem c_X10_ofDebtNow (d : tw_D) (g : tw_G) (τ : tw_K) (h : tw_H) (hw : tw_wt d g τ h) (x : Nat) (kx : τ x = 36) (y : Nat) (ky : τ y = 22) (w9 : Int32) (hw9 : vp_in w9 7) : tw_Ct d mX10_ofDebtNow 1 7 [.ref x, .ref y, .int w9] h (tw_qi (fun r h1 => tw_sp d τ h g τ h1) tw_nx) := by
  refine tw_of (by decide +kernel) (Nat.le_of_ble_eq_true rfl) ?_
  show tw_W d mX10_ofDebtNow _ 0 [(0, .ref x), (1, .ref y), (2, .int w9)] [] h 1 7
  have sp0 := tw_sp.rf hw
  refine tw_bipush (v := 7) dX10_ofDebtNow_0 (by decide) ?_
  refine tw_newa (a0 := (7, .inl (fun _ => 0))) 0 rfl dX10_ofDebtNow_2 rfl w_500 (fun _ => rfl) (by decide) (by decide) (by decide) 0 0 (Nat.le_of_ble_eq_true rfl) (Nat.le_of_ble_eq_true rfl) (fun q1 hq2 hA3 => ?_)
  have n4 := sp0.nn hq2
  have z5 := sp0.1.none hq2
  obtain ⟨h6, eh6⟩ : ∃ z : tw_H, z = tw_up h q1 (.inl (d.2 0, 7, .inl (fun _ => 0))) := ⟨_, rfl⟩
  rw [← eh6]
  have sp7 : tw_sp d τ h g τ h6 := by rw [eh6]; exact sp0.mk hq2
  have f8 : h6 q1 = some (.inl (d.2 0, 7, .inl (fun _ => 0))) := by rw [eh6]; exact tw_up_s
  refine tw_dup dX10_ofDebtNow_4 rfl ?_
  refine tw_iconst (v := 0) dX10_ofDebtNow_5 (by decide) ?_
  refine tw_aload_n 1 dX10_ofDebtNow_6 rfl rfl ?_
  obtain ⟨e9, f10, v_11, dy_12, pd_13, i_14, j_15, rfl, k16, k17, k18⟩ := sp7.1 y 22 ky (by decide)
  refine tw_get (v := .int (nI i_14)) rfl in_12 0 dX10_ofDebtNow_7 w_1443 rfl (by decide) f10 rfl ?_
  refine tw_iast dX10_ofDebtNow_10 f8 (vp_in_nI (n := 0) (by decide) (by decide)) ?_
  obtain ⟨F19, eF19⟩ : ∃ z : Nat → Int32, z = upd (fun _ => 0) (0 : Int32).toNatClampNeg (nI i_14) := ⟨_, rfl⟩
  rw [← eF19]
  obtain ⟨h20, eh20⟩ : ∃ z : tw_H, z = tw_up h6 q1 (.inl (d.2 0, 7, .inl F19)) := ⟨_, rfl⟩
  rw [← eh20]
  have sp21 : tw_sp d τ h g τ h20 := by rw [eh20]; exact sp7.wl n4 z5
  have f22 : h20 q1 = some (.inl (d.2 0, 7, .inl F19)) := by rw [eh20]; exact tw_up_s
  refine tw_dup dX10_ofDebtNow_11 rfl ?_
  refine tw_iconst (v := 1) dX10_ofDebtNow_12 (by decide) ?_
  refine tw_aload_n 1 dX10_ofDebtNow_13 rfl rfl ?_
  obtain ⟨e23, f24, v_25, dy_26, pd_27, i_28, j_29, rfl, k30, k31, k32⟩ := sp21.1 y 22 ky (by decide)
  refine tw_get (v := .int (nI j_29)) rfl in_12 1 dX10_ofDebtNow_14 w_1444 rfl (by decide) f24 rfl ?_
  refine tw_iast dX10_ofDebtNow_17 f22 (vp_in_nI (n := 1) (by decide) (by decide)) ?_
  obtain ⟨F33, eF33⟩ : ∃ z : Nat → Int32, z = upd F19 (1 : Int32).toNatClampNeg (nI j_29) := ⟨_, rfl⟩
  rw [← eF33]
  obtain ⟨h34, eh34⟩ : ∃ z : tw_H, z = tw_up h20 q1 (.inl (d.2 0, 7, .inl F33)) := ⟨_, rfl⟩
  rw [← eh34]
  have sp35 : tw_sp d τ h g τ h34 := by rw [eh34]; exact sp21.wl n4 z5
  have f36 : h34 q1 = some (.inl (d.2 0, 7, .inl F33)) := by rw [eh34]; exact tw_up_s
  refine tw_dup dX10_ofDebtNow_18 rfl ?_
  refine tw_iconst (v := 2) dX10_ofDebtNow_19 (by decide) ?_
  refine tw_aload_n 1 dX10_ofDebtNow_20 rfl rfl ?_
  obtain ⟨e37, f38, v_39, dy_40, pd_41, i_42, j_43, rfl, k44, k45, k46⟩ := sp35.1 y 22 ky (by decide)
  refine tw_get (v := .int v_39) rfl in_12 2 dX10_ofDebtNow_21 w_1445 rfl (by decide) f38 rfl ?_
  refine tw_iast dX10_ofDebtNow_24 f36 (vp_in_nI (n := 2) (by decide) (by decide)) ?_
  obtain ⟨F47, eF47⟩ : ∃ z : Nat → Int32, z = upd F33 (2 : Int32).toNatClampNeg v_39 := ⟨_, rfl⟩
  rw [← eF47]
  obtain ⟨h48, eh48⟩ : ∃ z : tw_H, z = tw_up h34 q1 (.inl (d.2 0, 7, .inl F47)) := ⟨_, rfl⟩
  rw [← eh48]
  have sp49 : tw_sp d τ h g τ h48 := by rw [eh48]; exact sp35.wl n4 z5
  have f50 : h48 q1 = some (.inl (d.2 0, 7, .inl F47)) := by rw [eh48]; exact tw_up_s
  refine tw_dup dX10_ofDebtNow_25 rfl ?_
  refine tw_iconst (v := 3) dX10_ofDebtNow_26 (by decide) ?_
  refine tw_aload_n 1 dX10_ofDebtNow_27 rfl rfl ?_
  obtain ⟨e51, f52, v_53, dy_54, pd_55, i_56, j_57, rfl, k58, k59, k60⟩ := sp49.1 y 22 ky (by decide)
  refine tw_get (v := .int dy_54) rfl in_12 3 dX10_ofDebtNow_28 w_1446 rfl (by decide) f52 rfl ?_
  refine tw_iast dX10_ofDebtNow_31 f50 (vp_in_nI (n := 3) (by decide) (by decide)) ?_
  obtain ⟨F61, eF61⟩ : ∃ z : Nat → Int32, z = upd F47 (3 : Int32).toNatClampNeg dy_54 := ⟨_, rfl⟩
  rw [← eF61]
  obtain ⟨h62, eh62⟩ : ∃ z : tw_H, z = tw_up h48 q1 (.inl (d.2 0, 7, .inl F61)) := ⟨_, rfl⟩
  rw [← eh62]
  have sp63 : tw_sp d τ h g τ h62 := by rw [eh62]; exact sp49.wl n4 z5
  have f64 : h62 q1 = some (.inl (d.2 0, 7, .inl F61)) := by rw [eh62]; exact tw_up_s
  refine tw_dup dX10_ofDebtNow_32 rfl ?_
  refine tw_iconst (v := 4) dX10_ofDebtNow_33 (by decide) ?_
  refine tw_aload_n 0 dX10_ofDebtNow_34 rfl rfl ?_
  refine tw_aload_n 1 dX10_ofDebtNow_35 rfl rfl ?_
  obtain ⟨e65, f66, th_67, td_68, ds_69, fr_70, ca_71, us_72, wo_73, cm_74, lc_75, lh_76, ld_77, rfl, k78, k79, k80, k81, k82, k83, k84, k85, k86, k87, k88, k89, k90, k91, k92, k93⟩ := sp63.1 x 36 kx (by decide)
  refine tw_bi (tw_callV (M := mX10_ofDebtNow) (pc := 36) okX10_due dX10_ofDebtNow_36 w_1471 rfl f66 [.ref y] [.int 4, .ref q1, .ref q1] rfl rfl ⟨by decide, by decide⟩ (Nat.le_of_ble_eq_true rfl) (c_X10_due d g τ h62 sp63.1 x kx y ky) 0 0 (Nat.le_of_ble_eq_true rfl) (Nat.le_of_ble_eq_true rfl)) (fun r96 h95 q94 => ?_) (fun E h1 q => q.elim)
  rw [q94]
  refine tw_iast dX10_ofDebtNow_39 f64 (vp_in_nI (n := 4) (by decide) (by decide)) ?_
  obtain ⟨F97, eF97⟩ : ∃ z : Nat → Int32, z = upd F61 (4 : Int32).toNatClampNeg r96 := ⟨_, rfl⟩
  rw [← eF97]
  obtain ⟨h98, eh98⟩ : ∃ z : tw_H, z = tw_up h62 q1 (.inl (d.2 0, 7, .inl F97)) := ⟨_, rfl⟩
  rw [← eh98]
  have sp99 : tw_sp d τ h g τ h98 := by rw [eh98]; exact sp63.wl n4 z5
  have f100 : h98 q1 = some (.inl (d.2 0, 7, .inl F97)) := by rw [eh98]; exact tw_up_s
  refine tw_dup dX10_ofDebtNow_40 rfl ?_
  refine tw_iconst (v := 5) dX10_ofDebtNow_41 (by decide) ?_
  refine tw_aload_n 1 dX10_ofDebtNow_42 rfl rfl ?_
  obtain ⟨e101, f102, v_103, dy_104, pd_105, i_106, j_107, rfl, k108, k109, k110⟩ := sp99.1 y 22 ky (by decide)
  refine tw_get (v := .int pd_105) rfl in_12 4 dX10_ofDebtNow_43 w_1447 rfl (by decide) f102 rfl ?_
  refine tw_if_eq 53 dX10_ofDebtNow_46 (by decide) (fun c111 => ?_) (fun c111 => ?_)
  · refine tw_iconst (v := 0) dX10_ofDebtNow_53 (by decide) ?_
    refine tw_iast dX10_ofDebtNow_54 f100 (vp_in_nI (n := 5) (by decide) (by decide)) ?_
    obtain ⟨F112, eF112⟩ : ∃ z : Nat → Int32, z = upd F97 (5 : Int32).toNatClampNeg 0 := ⟨_, rfl⟩
    rw [← eF112]
    obtain ⟨h113, eh113⟩ : ∃ z : tw_H, z = tw_up h98 q1 (.inl (d.2 0, 7, .inl F112)) := ⟨_, rfl⟩
    rw [← eh113]
    have sp114 : tw_sp d τ h g τ h113 := by rw [eh113]; exact sp99.wl n4 z5
    have f115 : h113 q1 = some (.inl (d.2 0, 7, .inl F112)) := by rw [eh113]; exact tw_up_s
    refine tw_dup dX10_ofDebtNow_55 rfl ?_
    refine tw_bipush (v := 6) dX10_ofDebtNow_56 (by decide) ?_
    refine tw_aload_n 0 dX10_ofDebtNow_58 rfl rfl ?_
    refine tw_aload_n 1 dX10_ofDebtNow_59 rfl rfl ?_
    obtain ⟨e116, f117, th_118, td_119, ds_120, fr_121, ca_122, us_123, wo_124, cm_125, lc_126, lh_127, ld_128, rfl, k129, k130, k131, k132, k133, k134, k135, k136, k137, k138, k139, k140, k141, k142, k143, k144⟩ := sp114.1 x 36 kx (by decide)
    refine tw_bi (tw_callV (M := mX10_ofDebtNow) (pc := 60) okX10_cheaper dX10_ofDebtNow_60 w_1529 rfl f117 [.ref y] [.int 6, .ref q1, .ref q1] rfl rfl ⟨by decide, by decide⟩ (Nat.le_of_ble_eq_true rfl) (c_X10_cheaper d g τ h113 sp114.1 x kx y ky) 0 0 (Nat.le_of_ble_eq_true rfl) (Nat.le_of_ble_eq_true rfl)) (fun r147 h146 q145 => ?_) (fun E h1 q => q.elim)
    rw [q145]
    refine tw_iast dX10_ofDebtNow_63 f115 (vp_in_nI (n := 6) (by decide) (by decide)) ?_
    obtain ⟨F148, eF148⟩ : ∃ z : Nat → Int32, z = upd F112 (6 : Int32).toNatClampNeg r147 := ⟨_, rfl⟩
    rw [← eF148]
    obtain ⟨h149, eh149⟩ : ∃ z : tw_H, z = tw_up h113 q1 (.inl (d.2 0, 7, .inl F148)) := ⟨_, rfl⟩
    rw [← eh149]
    have sp150 : tw_sp d τ h g τ h149 := by rw [eh149]; exact sp114.wl n4 z5
    have f151 : h149 q1 = some (.inl (d.2 0, 7, .inl F148)) := by rw [eh149]; exact tw_up_s
    refine tw_astore_n [(3, .ref q1), (0, .ref x), (1, .ref y), (2, .int w9)] dX10_ofDebtNow_64 rfl (by decide) rfl ?_
    refine tw_aload_n 0 dX10_ofDebtNow_65 rfl rfl ?_
    refine tw_iload_n 3 dX10_ofDebtNow_66 rfl rfl ?_
    obtain ⟨v152, ev152⟩ : ∃ y : Int32, F148 (w9).toNatClampNeg = y := ⟨_, rfl⟩
    refine tw_iald (v := v152) dX10_ofDebtNow_67 f151 hw9 ev152 ?_
    exact tw_iret dX10_ofDebtNow_68 rfl (Or.inl ⟨_, rfl, sp150⟩)
  · refine tw_iconst (v := 1) dX10_ofDebtNow_49 (by decide) ?_
    refine tw_goto 54 dX10_ofDebtNow_50 (by decide) ?_
    refine tw_iast dX10_ofDebtNow_54 f100 (vp_in_nI (n := 5) (by decide) (by decide)) ?_
    obtain ⟨F153, eF153⟩ : ∃ z : Nat → Int32, z = upd F97 (5 : Int32).toNatClampNeg 1 := ⟨_, rfl⟩
    rw [← eF153]
    obtain ⟨h154, eh154⟩ : ∃ z : tw_H, z = tw_up h98 q1 (.inl (d.2 0, 7, .inl F153)) := ⟨_, rfl⟩
    rw [← eh154]
    have sp155 : tw_sp d τ h g τ h154 := by rw [eh154]; exact sp99.wl n4 z5
    have f156 : h154 q1 = some (.inl (d.2 0, 7, .inl F153)) := by rw [eh154]; exact tw_up_s
    refine tw_dup dX10_ofDebtNow_55 rfl ?_
    refine tw_bipush (v := 6) dX10_ofDebtNow_56 (by decide) ?_
    refine tw_aload_n 0 dX10_ofDebtNow_58 rfl rfl ?_
    refine tw_aload_n 1 dX10_ofDebtNow_59 rfl rfl ?_
    obtain ⟨e157, f158, th_159, td_160, ds_161, fr_162, ca_163, us_164, wo_165, cm_166, lc_167, lh_168, ld_169, rfl, k170, k171, k172, k173, k174, k175, k176, k177, k178, k179, k180, k181, k182, k183, k184, k185⟩ := sp155.1 x 36 kx (by decide)
    refine tw_bi (tw_callV (M := mX10_ofDebtNow) (pc := 60) okX10_cheaper dX10_ofDebtNow_60 w_1529 rfl f158 [.ref y] [.int 6, .ref q1, .ref q1] rfl rfl ⟨by decide, by decide⟩ (Nat.le_of_ble_eq_true rfl) (c_X10_cheaper d g τ h154 sp155.1 x kx y ky) 0 0 (Nat.le_of_ble_eq_true rfl) (Nat.le_of_ble_eq_true rfl)) (fun r188 h187 q186 => ?_) (fun E h1 q => q.elim)
    rw [q186]
    refine tw_iast dX10_ofDebtNow_63 f156 (vp_in_nI (n := 6) (by decide) (by decide)) ?_
    obtain ⟨F189, eF189⟩ : ∃ z : Nat → Int32, z = upd F153 (6 : Int32).toNatClampNeg r188 := ⟨_, rfl⟩
    rw [← eF189]
    obtain ⟨h190, eh190⟩ : ∃ z : tw_H, z = tw_up h154 q1 (.inl (d.2 0, 7, .inl F189)) := ⟨_, rfl⟩
    rw [← eh190]
    have sp191 : tw_sp d τ h g τ h190 := by rw [eh190]; exact sp155.wl n4 z5
    have f192 : h190 q1 = some (.inl (d.2 0, 7, .inl F189)) := by rw [eh190]; exact tw_up_s
    refine tw_astore_n [(3, .ref q1), (0, .ref x), (1, .ref y), (2, .int w9)] dX10_ofDebtNow_64 rfl (by decide) rfl ?_
    refine tw_aload_n 0 dX10_ofDebtNow_65 rfl rfl ?_
    refine tw_iload_n 3 dX10_ofDebtNow_66 rfl rfl ?_
    obtain ⟨v193, ev193⟩ : ∃ y : Int32, F189 (w9).toNatClampNeg = y := ⟨_, rfl⟩
    refine tw_iald (v := v193) dX10_ofDebtNow_67 f192 hw9 ev193 ?_
    exact tw_iret dX10_ofDebtNow_68 rfl (Or.inl ⟨_, rfl, sp191⟩)

set_option maxHeartbeats 4000000 in
set_option maxRecDepth 100000 in
theorem c_X10_ofDebt (d : tw_D) (g : tw_G) (τ : tw_K) (h : tw_H) (hw : tw_wt d g τ h) (x : Nat) (kx : τ x = 36) (n : Int32) (w9 : Int32) : tw_Ct d mX10_ofDebt 1 7 [.ref x, .int n, .int w9] h (tw_qi (fun r h1 => tw_sp d τ h g τ h1) tw_nx) := by
  refine tw_of (by decide +kernel) (Nat.le_of_ble_eq_true rfl) ?_
  show tw_W d mX10_ofDebt _ 0 [(0, .ref x), (1, .int n), (2, .int w9)] [] h 1 7
  have sp0 := tw_sp.rf hw
  refine tw_aload_n 0 dX10_ofDebt_0 rfl rfl ?_
  refine tw_iload_n 1 dX10_ofDebt_1 rfl rfl ?_
  refine tw_iconst (v := 0) dX10_ofDebt_2 (by decide) ?_
  refine tw_aload_n 0 dX10_ofDebt_3 rfl rfl ?_
  obtain ⟨e1, f2, th_3, td_4, ds_5, fr_6, ca_7, us_8, wo_9, cm_10, lc_11, lh_12, ld_13, rfl, k14, k15, k16, k17, k18, k19, k20, k21, k22, k23, k24, k25, k26, k27, k28, k29⟩ := sp0.1 x 36 kx (by decide)
  refine tw_get (v := .ref ld_13) rfl in_14 11 dX10_ofDebt_4 w_1162 rfl (by decide) f2 rfl ?_
  obtain ⟨e30, f31, ⟨el32, rfl, k33⟩, k34⟩ := sp0.1 ld_13 26 k22 (by decide)
  refine tw_bi (tw_callV (M := mX10_ofDebt) (pc := 7) okJx4a65c_size_8abf5 dX10_ofDebt_7 w_1208 rfl f31 [] [.int 0, .int n, .ref x] rfl rfl ⟨by decide, by decide⟩ (Nat.le_of_ble_eq_true rfl) (c26_size d g τ h sp0.1 ld_13 k22) 1 7 (Nat.le_of_ble_eq_true rfl) (Nat.le_of_ble_eq_true rfl)) (fun r37 h36 q35 => ?_) (fun E h1 q => q.elim)
  obtain ⟨q35e, q35r⟩ := q35
  rw [q35e, q35r]
  refine tw_iconst (v := 1) dX10_ofDebt_10 (by decide) ?_
  refine tw_isub dX10_ofDebt_11 ?_
  refine tw_nmi (fun v38 ev38 => ?_)
  refine tw_bi (tw_callS (M := mX10_ofDebt) (pc := 12) okX10_isIn dX10_ofDebt_12 w_1196 [.int n, .int 0, .int v38] [.ref x] rfl rfl ⟨by decide, by decide⟩ (Nat.le_of_ble_eq_true rfl) (c_X10_isIn d g τ h sp0.1 n 0 v38) 1 7 (Nat.le_of_ble_eq_true rfl) (Nat.le_of_ble_eq_true rfl)) (fun r41 h40 q39 => ?_) (fun E h1 q => q.elim)
  obtain ⟨q39e, q39d⟩ := q39
  rw [q39e]
  rcases q39d with ⟨q39r, q39n⟩ | ⟨q39r, q39a, q39b⟩
  · rw [q39r]
    refine tw_if_ne 22 dX10_ofDebt_15 (by decide) (fun c42 => absurd (by decide) c42) (fun _ => ?_)
    refine tw_iconst (v := 1) dX10_ofDebt_18 (by decide) ?_
    refine tw_goto 23 dX10_ofDebt_19 (by decide) ?_
    refine tw_iconst (v := 1) dX10_ofDebt_23 (by decide) ?_
    refine tw_bi (tw_callV (M := mX10_ofDebt) (pc := 24) okX10_start dX10_ofDebt_24 w_1200 rfl f2 [.int 1, .int 1] [] rfl rfl ⟨by decide, by decide⟩ (Nat.le_of_ble_eq_true rfl) (c_X10_start d g τ h sp0.1 x kx 1 1 (by decide)) 1 7 (Nat.le_of_ble_eq_true rfl) (Nat.le_of_ble_eq_true rfl)) (fun r45 h44 q43 => ?_) (fun E h1 q => q.elim)
    obtain ⟨e46, he47, hs48, hr49, h350⟩ := q43
    have sp51 : tw_sp d τ h g τ h44 := by rw [he47]; exact sp0.set kx (by decide) hs48
    have f52 : h44 ld_13 = some (.inr (3, [.int (g.1 5), .ref el32, .int (nI (g.2 5))])) := by rw [he47, tw_up_n (fun q => absurd (k22) (by rw [q, kx]; decide))]; exact f31
    rcases hr49 with ei53 | ⟨ei53, ei53b⟩
    · rw [ei53]
      refine tw_if_ne 53 dX10_ofDebt_27 (by decide) (fun _ => ?_) (fun c54 => absurd c54 (by decide))
      refine tw_iconst (v := 0) dX10_ofDebt_53 (by decide) ?_
      refine tw_goto 73 dX10_ofDebt_54 (by decide) ?_
      exact tw_iret dX10_ofDebt_73 rfl (Or.inl ⟨_, rfl, sp51⟩)
    · exact absurd ei53b (by decide)
  · rw [q39r]
    refine tw_if_ne 22 dX10_ofDebt_15 (by decide) (fun _ => ?_) (fun c55 => absurd c55 (by decide))
    refine tw_iconst (v := 0) dX10_ofDebt_22 (by decide) ?_
    refine tw_iconst (v := 1) dX10_ofDebt_23 (by decide) ?_
    refine tw_bi (tw_callV (M := mX10_ofDebt) (pc := 24) okX10_start dX10_ofDebt_24 w_1200 rfl f2 [.int 0, .int 1] [] rfl rfl ⟨by decide, by decide⟩ (Nat.le_of_ble_eq_true rfl) (c_X10_start d g τ h sp0.1 x kx 0 1 (by decide)) 1 7 (Nat.le_of_ble_eq_true rfl) (Nat.le_of_ble_eq_true rfl)) (fun r58 h57 q56 => ?_) (fun E h1 q => q.elim)
    obtain ⟨e59, he60, hs61, hr62, h363⟩ := q56
    have sp64 : tw_sp d τ h g τ h57 := by rw [he60]; exact sp0.set kx (by decide) hs61
    have f65 : h57 ld_13 = some (.inr (3, [.int (g.1 5), .ref el32, .int (nI (g.2 5))])) := by rw [he60, tw_up_n (fun q => absurd (k22) (by rw [q, kx]; decide))]; exact f31
    rcases hr62 with ei66 | ⟨ei66, ei66b⟩
    · rw [ei66]
      refine tw_if_ne 53 dX10_ofDebt_27 (by decide) (fun _ => ?_) (fun c67 => absurd c67 (by decide))
      refine tw_iconst (v := 0) dX10_ofDebt_53 (by decide) ?_
      refine tw_goto 73 dX10_ofDebt_54 (by decide) ?_
      exact tw_iret dX10_ofDebt_73 rfl (Or.inl ⟨_, rfl, sp64⟩)
    · rw [ei66]
      refine tw_if_ne 53 dX10_ofDebt_27 (by decide) (fun c68 => absurd (by decide) c68) (fun _ => ?_)
      refine tw_aload_n 0 dX10_ofDebt_30 rfl rfl ?_
      refine tw_iload_n 2 dX10_ofDebt_31 rfl rfl ?_
      refine tw_iconst (v := 0) dX10_ofDebt_32 (by decide) ?_
      refine tw_bipush (v := 6) dX10_ofDebt_33 (by decide) ?_
      refine tw_bi (tw_callS (M := mX10_ofDebt) (pc := 35) okX10_isIn dX10_ofDebt_35 w_1196 [.int w9, .int 0, .int 6] [.ref x] rfl rfl ⟨by decide, by decide⟩ (Nat.le_of_ble_eq_true rfl) (c_X10_isIn d g τ h57 sp64.1 w9 0 6) 1 7 (Nat.le_of_ble_eq_true rfl) (Nat.le_of_ble_eq_true rfl)) (fun r71 h70 q69 => ?_) (fun E h1 q => q.elim)
      obtain ⟨q69e, q69d⟩ := q69
      rw [q69e]
      rcases q69d with ⟨q69r, q69n⟩ | ⟨q69r, q69a, q69b⟩
      · rw [q69r]
        refine tw_if_ne 45 dX10_ofDebt_38 (by decide) (fun c72 => absurd (by decide) c72) (fun _ => ?_)
        refine tw_iconst (v := 1) dX10_ofDebt_41 (by decide) ?_
        refine tw_goto 46 dX10_ofDebt_42 (by decide) ?_
        refine tw_iconst (v := 2) dX10_ofDebt_46 (by decide) ?_
        obtain ⟨e73, f74, th_75, td_76, ds_77, fr_78, ca_79, us_80, wo_81, cm_82, lc_83, lh_84, ld_85, rfl, k86, k87, k88, k89, k90, k91, k92, k93, k94, k95, k96, k97, k98, k99, k100, k101⟩ := sp64.1 x 36 kx (by decide)
        refine tw_bi (tw_callV (M := mX10_ofDebt) (pc := 47) okX10_refuse dX10_ofDebt_47 w_1204 rfl f74 [.int 1, .int 2] [] rfl rfl ⟨by decide, by decide⟩ (Nat.le_of_ble_eq_true rfl) (c_X10_refuse d g τ h57 sp64.1 x kx 1 2 (by decide)) 1 7 (Nat.le_of_ble_eq_true rfl) (Nat.le_of_ble_eq_true rfl)) (fun r104 h103 q102 => ?_) (fun E h1 q => q.elim)
        obtain ⟨e105, he106, hs107, hr108, h3109⟩ := q102
        have sp110 : tw_sp d τ h g τ h103 := by rw [he106]; exact sp64.set kx (by decide) hs107
        have f111 : h103 ld_13 = some (.inr (3, [.int (g.1 5), .ref el32, .int (nI (g.2 5))])) := by rw [he106, tw_up_n (fun q => absurd (k22) (by rw [q, kx]; decide))]; exact f65
        rcases hr108 with ei112 | ⟨ei112, ei112b⟩
        · rw [ei112]
          refine tw_if_eq 57 dX10_ofDebt_50 (by decide) (fun c113 => absurd c113 (by decide)) (fun _ => ?_)
          refine tw_iconst (v := 0) dX10_ofDebt_53 (by decide) ?_
          refine tw_goto 73 dX10_ofDebt_54 (by decide) ?_
          exact tw_iret dX10_ofDebt_73 rfl (Or.inl ⟨_, rfl, sp110⟩)
        · exact absurd ei112b (by decide)
      · rw [q69r]
        refine tw_if_ne 45 dX10_ofDebt_38 (by decide) (fun _ => ?_) (fun c114 => absurd c114 (by decide))
        refine tw_iconst (v := 0) dX10_ofDebt_45 (by decide) ?_
        refine tw_iconst (v := 2) dX10_ofDebt_46 (by decide) ?_
        obtain ⟨e115, f116, th_117, td_118, ds_119, fr_120, ca_121, us_122, wo_123, cm_124, lc_125, lh_126, ld_127, rfl, k128, k129, k130, k131, k132, k133, k134, k135, k136, k137, k138, k139, k140, k141, k142, k143⟩ := sp64.1 x 36 kx (by decide)
        refine tw_bi (tw_callV (M := mX10_ofDebt) (pc := 47) okX10_refuse dX10_ofDebt_47 w_1204 rfl f116 [.int 0, .int 2] [] rfl rfl ⟨by decide, by decide⟩ (Nat.le_of_ble_eq_true rfl) (c_X10_refuse d g τ h57 sp64.1 x kx 0 2 (by decide)) 1 7 (Nat.le_of_ble_eq_true rfl) (Nat.le_of_ble_eq_true rfl)) (fun r146 h145 q144 => ?_) (fun E h1 q => q.elim)
        obtain ⟨e147, he148, hs149, hr150, h3151⟩ := q144
        have sp152 : tw_sp d τ h g τ h145 := by rw [he148]; exact sp64.set kx (by decide) hs149
        have f153 : h145 ld_13 = some (.inr (3, [.int (g.1 5), .ref el32, .int (nI (g.2 5))])) := by rw [he148, tw_up_n (fun q => absurd (k22) (by rw [q, kx]; decide))]; exact f65
        rcases hr150 with ei154 | ⟨ei154, ei154b⟩
        · rw [ei154]
          refine tw_if_eq 57 dX10_ofDebt_50 (by decide) (fun c155 => absurd c155 (by decide)) (fun _ => ?_)
          refine tw_iconst (v := 0) dX10_ofDebt_53 (by decide) ?_
          refine tw_goto 73 dX10_ofDebt_54 (by decide) ?_
          exact tw_iret dX10_ofDebt_73 rfl (Or.inl ⟨_, rfl, sp152⟩)
        · rw [ei154]
          refine tw_if_eq 57 dX10_ofDebt_50 (by decide) (fun _ => ?_) (fun c156 => absurd (by decide) c156)
          refine tw_aload_n 0 dX10_ofDebt_57 rfl rfl ?_
          refine tw_aload_n 0 dX10_ofDebt_58 rfl rfl ?_
          obtain ⟨e157, f158, th_159, td_160, ds_161, fr_162, ca_163, us_164, wo_165, cm_166, lc_167, lh_168, ld_169, rfl, k170, k171, k172, k173, k174, k175, k176, k177, k178, k179, k180, k181, k182, k183, k184, k185⟩ := sp152.1 x 36 kx (by decide)
          refine tw_get (v := .ref ld_169) rfl in_14 11 dX10_ofDebt_59 w_1162 rfl (by decide) f158 rfl ?_
          refine tw_iload_n 1 dX10_ofDebt_62 rfl rfl ?_
          obtain ⟨j186, hj187, ej188⟩ := tw_isc q39a q39b ev38 (by omega)
          subst ej188
          obtain ⟨e189, f190, ⟨el191, rfl, k192⟩, k193⟩ := sp152.1 ld_169 26 k178 (by decide)
          refine tw_br (tw_callV (M := mX10_ofDebt) (pc := 63) okJx4a65c_get_915e3 dX10_ofDebt_63 w_1296 rfl f190 [.int (nI j186)] [.ref x] rfl rfl ⟨by decide, by decide⟩ (Nat.le_of_ble_eq_true rfl) (c26_get d g τ h145 sp152.1 ld_169 k178 j186 (by omega) (by omega)) 1 7 (Nat.le_of_ble_eq_true rfl) (Nat.le_of_ble_eq_true rfl)) (fun r196 h195 q194 => ?_) (fun E h1 q => q.elim)
          obtain ⟨q194e, q194k⟩ := q194
          rw [q194e]
          have el197 : tw_el h145 (g.2 14) j186 = r196 := by rw [← k193]; exact q194k.2.symm
          have kl198 : τ (g.2 14) = 26 := by rw [← k193]; exact k178
          obtain ⟨e199, f200, v_201, dy_202, pd_203, i_204, j_205, rfl, k206, k207, k208⟩ := sp152.1 r196 22 q194k.1 (by decide)
          refine tw_castS (ci := 12) rfl dX10_ofDebt_66 w_1437 f200 ?_
          refine tw_iload_n 2 dX10_ofDebt_69 rfl rfl ?_
          refine tw_bi (tw_callV (M := mX10_ofDebt) (pc := 70) okX10_ofDebtNow dX10_ofDebt_70 w_1525 rfl f158 [.ref r196, .int w9] [] rfl rfl ⟨by decide, by decide⟩ (Nat.le_of_ble_eq_true rfl) (c_X10_ofDebtNow d g τ h145 sp152.1 x kx r196 q194k.1 w9 (tw_irng (N := 7) q69a q69b (by decide) (by decide))) 0 0 (Nat.le_of_ble_eq_true rfl) (Nat.le_of_ble_eq_true rfl)) (fun r211 h210 q209 => ?_) (fun E h1 q => q.elim)
          have sp212 := sp152.tr q209
          exact tw_iret dX10_ofDebt_73 rfl (Or.inl ⟨_, rfl, sp212⟩)

set_option maxHeartbeats 4000000 in
set_option maxRecDepth 100000 in
theorem c_X10_isSoundNow (d : tw_D) (g : tw_G) (τ : tw_K) (h : tw_H) (hw : tw_wt d g τ h) (x : Nat) (kx : τ x = 36) : tw_Ct d mX10_isSoundNow 62 284 [.ref x] h (tw_qi (fun r h1 => tw_sp d τ h g τ h1 ∧ tw_01 r) tw_nx) := by
  refine tw_of (by decide +kernel) (Nat.le_of_ble_eq_true rfl) ?_
  show tw_W d mX10_isSoundNow _ 0 [(0, .ref x)] [] h 62 284
  have sp0 := tw_sp.rf hw
  refine tw_iconst (v := 0) dX10_isSoundNow_0 (by decide) ?_
  refine tw_istore_n [(1, .int 0), (0, .ref x)] dX10_isSoundNow_1 rfl (by decide) rfl ?_
  have L4 : ∀ (r2 k1 : Nat) (h5 : tw_H) (sp6 : tw_sp d τ h g τ h5), 2 + 1 ≤ k1 + r2 → k1 ≤ 2 → tw_W d mX10_isSoundNow (tw_qi (fun r h1 => tw_sp d τ h g τ h1 ∧ tw_01 r) tw_nx) 2 [(0, .ref x), (1, .int (nI k1))] [] h5 (2 + 20 * r2) (8 + 92 * r2) := by
    intro r2
    induction r2 with
    | zero => intro k1 h5 sp6 hk8 hk9; exact absurd hk8 (by omega)
    | succ r2 ih3 =>
      intro k1 h5 sp6 hk8 hk9
      refine tw_iload_n 1 dX10_isSoundNow_2 rfl rfl ?_
      refine tw_iconst (v := 2) dX10_isSoundNow_3 (by decide) ?_
      refine tw_icmp_ge 163 dX10_isSoundNow_4 (by decide) (fun c10 => ?_) (fun c10 => ?_)
      · refine tw_aload_n 0 dX10_isSoundNow_163 rfl rfl ?_
        obtain ⟨e11, f12, th_13, td_14, ds_15, fr_16, ca_17, us_18, wo_19, cm_20, lc_21, lh_22, ld_23, rfl, k24, k25, k26, k27, k28, k29, k30, k31, k32, k33, k34, k35, k36, k37, k38, k39⟩ := sp6.1 x 36 kx (by decide)
        refine tw_get (v := .ref lc_21) rfl in_14 9 dX10_isSoundNow_164 w_1160 rfl (by decide) f12 rfl ?_
        obtain ⟨e40, f41, ⟨el42, rfl, k43⟩, k44⟩ := sp6.1 lc_21 24 k30 (by decide)
        refine tw_br (tw_callV (M := mX10_isSoundNow) (pc := 167) okJx4a65c_iterator_32c93 dX10_isSoundNow_167 w_1386 rfl f41 [] [] rfl rfl ⟨by decide, by decide⟩ (Nat.le_of_ble_eq_true rfl) (c_iterator d h5 lc_21 el42 (g.1 3) (nI (g.2 3)) f41) ((2 + 20 * (r2 + 1)) - 1) ((8 + 92 * (r2 + 1)) - 4) (by omega) (by omega)) (fun it45 h46 q47 => ?_) (fun E h1 q => q.elim)
        obtain ⟨q47n, q47e⟩ := q47
        rw [q47e]
        have n48 := sp6.nn q47n
        have z49 := sp6.1.none q47n
        obtain ⟨h50, eh50⟩ : ∃ z : tw_H, z = tw_up h5 it45 (.inr (2, [.int 0, .int (-1), .int (g.1 3), .ref lc_21])) := ⟨_, rfl⟩
        rw [← eh50]
        have sp51 : tw_sp d τ h g τ h50 := by rw [eh50]; exact sp6.mk q47n
        have f52 : h50 it45 = some (.inr (2, [.int 0, .int (-1), .int (g.1 3), .ref lc_21])) := by rw [eh50]; exact tw_up_s
        refine tw_astore_n [(1, .ref it45), (0, .ref x)] dX10_isSoundNow_170 rfl (by decide) rfl ?_
        have L57 : ∀ (r53 j54 : Nat) (l55 : Int32) (h58 : tw_H) (sp59 : tw_sp d τ (tw_rm h50 it45) g τ h58) (ft60 : h58 it45 = some (.inr (2, [.int (nI j54), .int l55, .int (g.1 3), .ref lc_21]))) (zt61 : τ it45 = 0), g.2 3 + 1 ≤ j54 + r53 → j54 ≤ g.2 3 → tw_W d mX10_isSoundNow (tw_qi (fun r h1 => tw_sp d τ h g τ h1 ∧ tw_01 r) tw_nx) 171 [(0, .ref x), (1, .ref it45)] [] h58 ((2 + 20 * (r2 + 1)) - 1) ((8 + 92 * (r2 + 1)) - 4) := by
          intro r53
          induction r53 with
          | zero => intro j54 l55 h58 sp59 ft60 zt61 hk62 hk63; exact absurd hk62 (by omega)
          | succ r53 ih56 =>
            intro j54 l55 h58 sp59 ft60 zt61 hk62 hk63
            refine tw_aload_n 1 dX10_isSoundNow_171 rfl rfl ?_
            obtain ⟨e64, f65, ⟨el66, rfl, k67⟩, k68⟩ := sp59.1 lc_21 24 k30 (by decide)
            refine tw_bi (tw_callF (M := mX10_isSoundNow) (pc := 172) (n9 := 0) (ci := 2) tw_hasNext ok_itHas w_1416 w_1414 (fun s H z => z.2.2.2.2.2.2.2.2.1) (by decide +kernel) dX10_isSoundNow_172 w_1410 rfl ft60 [] [] rfl rfl ⟨by decide, by decide⟩ (Nat.le_of_ble_eq_true rfl) (c_hasNext d h58 it45 lc_21 el66 j54 (g.2 3) l55 (g.1 3) (g.1 3) ft60 f65 (by omega) (tw_lim24 sp59.1 k30)) ((2 + 20 * (r2 + 1)) - 1) ((8 + 92 * (r2 + 1)) - 4) (by omega) (by omega)) (fun r71 h70 q69 => ?_) (fun E h1 q => q.elim)
            obtain ⟨q69e, q69q⟩ := q69
            rw [q69e]
            rcases q69q with ⟨q69r, q69j⟩ | ⟨q69r, q69j⟩
            · rw [q69r]
              refine tw_if_eq 231 dX10_isSoundNow_177 (by decide) (fun _ => ?_) (fun c72 => absurd (by decide) c72)
              refine tw_iconst (v := 0) dX10_isSoundNow_231 (by decide) ?_
              refine tw_istore_n [(1, .int 0), (0, .ref x)] dX10_isSoundNow_232 rfl (by decide) rfl ?_
              have L76 : ∀ (r74 k73 : Nat), 4 + 1 ≤ k73 + r74 → k73 ≤ 4 → tw_W d mX10_isSoundNow (tw_qi (fun r h1 => tw_sp d τ h g τ h1 ∧ tw_01 r) tw_nx) 233 [(0, .ref x), (1, .int (nI k73))] [] h58 ((2 + 20 * (r2 + 1)) - 1) ((8 + 92 * (r2 + 1)) - 4) := by
                intro r74
                induction r74 with
                | zero => intro k73  hk80 hk81; exact absurd hk80 (by omega)
                | succ r74 ih75 =>
                  intro k73  hk80 hk81
                  refine tw_iload_n 1 dX10_isSoundNow_233 rfl rfl ?_
                  refine tw_iconst (v := 4) dX10_isSoundNow_234 (by decide) ?_
                  refine tw_icmp_ge 297 dX10_isSoundNow_235 (by decide) (fun c82 => ?_) (fun c82 => ?_)
                  · refine tw_iconst (v := 1) dX10_isSoundNow_297 (by decide) ?_
                    exact tw_zret dX10_isSoundNow_298 rfl rfl (Or.inl ⟨_, rfl, ⟨(sp0.tr (sp51.trm n48 sp59)), (by unfold tw_01; decide)⟩⟩)
                  · have kl83 := tw_klt (N := 4) c82 hk81 (by decide)
                    refine tw_iconst (v := 0) dX10_isSoundNow_238 (by decide) ?_
                    refine tw_istore_n [(2, .int 0), (0, .ref x), (1, .int (nI k73))] dX10_isSoundNow_239 rfl (by decide) rfl ?_
                    have L87 : ∀ (r85 k84 : Nat), 4 + 1 ≤ k84 + r85 → k84 ≤ 4 → tw_W d mX10_isSoundNow (tw_qi (fun r h1 => tw_sp d τ h g τ h1 ∧ tw_01 r) tw_nx) 240 [(0, .ref x), (1, .int (nI k73)), (2, .int (nI k84))] [] h58 ((2 + 20 * (r2 + 1)) - 1) ((8 + 92 * (r2 + 1)) - 4) := by
                      intro r85
                      induction r85 with
                      | zero => intro k84  hk91 hk92; exact absurd hk91 (by omega)
                      | succ r85 ih86 =>
                        intro k84  hk91 hk92
                        refine tw_iload_n 2 dX10_isSoundNow_240 rfl rfl ?_
                        refine tw_iconst (v := 4) dX10_isSoundNow_241 (by decide) ?_
                        refine tw_icmp_ge 291 dX10_isSoundNow_242 (by decide) (fun c93 => ?_) (fun c93 => ?_)
                        · obtain ⟨v94, ev94⟩ : ∃ y : Int32, y = (nI k73) + 1 := ⟨_, rfl⟩
                          refine tw_iinc [(1, .int v94), (0, .ref x), (2, .int (nI k84))] 1 dX10_isSoundNow_291 rfl (by rw [ev94]; rfl) (by decide) rfl ?_
                          refine tw_goto 233 dX10_isSoundNow_294 (by decide) ?_
                          have qv94 := tw_nI3 ev94
                          rw [qv94]
                          refine tw_lv [1, 0] rfl ?_
                          exact ih75 (k73 + 1)  (by omega) (by omega)
                        · have kl95 := tw_klt (N := 4) c93 hk92 (by decide)
                          refine tw_aload_n 0 dX10_isSoundNow_245 rfl rfl ?_
                          obtain ⟨e96, f97, th_98, td_99, ds_100, fr_101, ca_102, us_103, wo_104, cm_105, lc_106, lh_107, ld_108, rfl, k109, k110, k111, k112, k113, k114, k115, k116, k117, k118, k119, k120, k121, k122, k123, k124⟩ := sp59.1 x 36 kx (by decide)
                          refine tw_get (v := .ref ds_100) rfl in_14 3 dX10_isSoundNow_246 w_1154 rfl (by decide) f97 rfl ?_
                          refine tw_iload_n 1 dX10_isSoundNow_249 rfl rfl ?_
                          obtain ⟨e125, f126, F127, rfl, k128⟩ := sp59.1 ds_100 34 k109 (by decide)
                          obtain ⟨q129, k130, k131⟩ := k128 ((nI k73)).toNatClampNeg (by rw [nI_clamp (by omega)]; omega)
                          refine tw_aald (v := .ref q129) 8 rfl rfl dX10_isSoundNow_250 f126 (vp_in_nI (by omega) (by decide)) (by rw [k130]; rfl) ?_
                          refine tw_iload_n 2 dX10_isSoundNow_251 rfl rfl ?_
                          obtain ⟨e132, f133, F134, rfl⟩ := sp59.1 q129 6 k131 (by decide)
                          obtain ⟨v135, ev135⟩ : ∃ y : Int32, F134 ((nI k84)).toNatClampNeg = y := ⟨_, rfl⟩
                          refine tw_iald (v := v135) dX10_isSoundNow_252 f133 (vp_in_nI (by omega) (by decide)) ev135 ?_
                          refine tw_aload_n 0 dX10_isSoundNow_253 rfl rfl ?_
                          refine tw_get (v := .ref ds_100) rfl in_14 3 dX10_isSoundNow_254 w_1154 rfl (by decide) f97 rfl ?_
                          refine tw_iload_n 2 dX10_isSoundNow_257 rfl rfl ?_
                          obtain ⟨q136, k137, k138⟩ := k128 ((nI k84)).toNatClampNeg (by rw [nI_clamp (by omega)]; omega)
                          refine tw_aald (v := .ref q136) 8 rfl rfl dX10_isSoundNow_258 f126 (vp_in_nI (by omega) (by decide)) (by rw [k137]; rfl) ?_
                          refine tw_iload_n 1 dX10_isSoundNow_259 rfl rfl ?_
                          obtain ⟨e139, f140, F141, rfl⟩ := sp59.1 q136 6 k138 (by decide)
                          obtain ⟨v142, ev142⟩ : ∃ y : Int32, F141 ((nI k73)).toNatClampNeg = y := ⟨_, rfl⟩
                          refine tw_iald (v := v142) dX10_isSoundNow_260 f140 (vp_in_nI (by omega) (by decide)) ev142 ?_
                          refine tw_icmp_ne 283 dX10_isSoundNow_261 (by decide) (fun c143 => ?_) (fun c143 => ?_)
                          · refine tw_iconst (v := 0) dX10_isSoundNow_283 (by decide) ?_
                            exact tw_zret dX10_isSoundNow_284 rfl rfl (Or.inl ⟨_, rfl, ⟨(sp0.tr (sp51.trm n48 sp59)), (by unfold tw_01; decide)⟩⟩)
                          · refine tw_aload_n 0 dX10_isSoundNow_264 rfl rfl ?_
                            refine tw_get (v := .ref fr_101) rfl in_14 4 dX10_isSoundNow_265 w_1155 rfl (by decide) f97 rfl ?_
                            refine tw_iload_n 1 dX10_isSoundNow_268 rfl rfl ?_
                            obtain ⟨e144, f145, F146, rfl, k147⟩ := sp59.1 fr_101 34 k110 (by decide)
                            obtain ⟨q148, k149, k150⟩ := k147 ((nI k73)).toNatClampNeg (by rw [nI_clamp (by omega)]; omega)
                            refine tw_aald (v := .ref q148) 8 rfl rfl dX10_isSoundNow_269 f145 (vp_in_nI (by omega) (by decide)) (by rw [k149]; rfl) ?_
                            refine tw_iload_n 2 dX10_isSoundNow_270 rfl rfl ?_
                            obtain ⟨e151, f152, F153, rfl⟩ := sp59.1 q148 6 k150 (by decide)
                            obtain ⟨v154, ev154⟩ : ∃ y : Int32, F153 ((nI k84)).toNatClampNeg = y := ⟨_, rfl⟩
                            refine tw_iald (v := v154) dX10_isSoundNow_271 f152 (vp_in_nI (by omega) (by decide)) ev154 ?_
                            refine tw_aload_n 0 dX10_isSoundNow_272 rfl rfl ?_
                            refine tw_get (v := .ref fr_101) rfl in_14 4 dX10_isSoundNow_273 w_1155 rfl (by decide) f97 rfl ?_
                            refine tw_iload_n 2 dX10_isSoundNow_276 rfl rfl ?_
                            obtain ⟨q155, k156, k157⟩ := k147 ((nI k84)).toNatClampNeg (by rw [nI_clamp (by omega)]; omega)
                            refine tw_aald (v := .ref q155) 8 rfl rfl dX10_isSoundNow_277 f145 (vp_in_nI (by omega) (by decide)) (by rw [k156]; rfl) ?_
                            refine tw_iload_n 1 dX10_isSoundNow_278 rfl rfl ?_
                            obtain ⟨e158, f159, F160, rfl⟩ := sp59.1 q155 6 k157 (by decide)
                            obtain ⟨v161, ev161⟩ : ∃ y : Int32, F160 ((nI k73)).toNatClampNeg = y := ⟨_, rfl⟩
                            refine tw_iald (v := v161) dX10_isSoundNow_279 f159 (vp_in_nI (by omega) (by decide)) ev161 ?_
                            refine tw_icmp_eq 285 dX10_isSoundNow_280 (by decide) (fun c162 => ?_) (fun c162 => ?_)
                            · obtain ⟨v163, ev163⟩ : ∃ y : Int32, y = (nI k84) + 1 := ⟨_, rfl⟩
                              refine tw_iinc [(2, .int v163), (0, .ref x), (1, .int (nI k73))] 2 dX10_isSoundNow_285 rfl (by rw [ev163]; rfl) (by decide) rfl ?_
                              refine tw_goto 240 dX10_isSoundNow_288 (by decide) ?_
                              have qv163 := tw_nI3 ev163
                              rw [qv163]
                              refine tw_lv [1, 2, 0] rfl ?_
                              exact ih86 (k84 + 1)  (by omega) (by omega)
                            · refine tw_iconst (v := 0) dX10_isSoundNow_283 (by decide) ?_
                              exact tw_zret dX10_isSoundNow_284 rfl rfl (Or.inl ⟨_, rfl, ⟨(sp0.tr (sp51.trm n48 sp59)), (by unfold tw_01; decide)⟩⟩)
                    refine tw_lv [1, 2, 0] rfl ?_
                    exact L87 (4 + 1) 0  (by omega) (by omega)
              refine tw_lv [1, 0] rfl ?_
              exact L76 (4 + 1) 0  (by omega) (by omega)
            · rw [q69r]
              refine tw_if_eq 231 dX10_isSoundNow_177 (by decide) (fun c164 => absurd c164 (by decide)) (fun _ => ?_)
              refine tw_aload_n 1 dX10_isSoundNow_180 rfl rfl ?_
              have k165 : τ el66 = 27 := k67.resolve_left (fun q => absurd q69j (by rw [q.2.1]; exact Nat.not_lt_zero _))
              obtain ⟨e166, f167, ⟨F168, rfl, hc169, hc170⟩, un171⟩ := sp59.1 el66 27 k165 (by decide)
              obtain ⟨y172, hy173, ky174⟩ := hc170 j54 q69j
              refine tw_br (tw_callF (M := mX10_isSoundNow) (pc := 181) (n9 := 0) (ci := 2) tw_next ok_itNext w_1425 w_1423 (fun s H z => z.2.2.2.2.2.2.2.2.2) (by decide +kernel) dX10_isSoundNow_181 w_1420 rfl ft60 [] [] rfl rfl ⟨by decide, by decide⟩ (Nat.le_of_ble_eq_true rfl) (c_next d h58 it45 lc_21 el66 j54 (g.2 3) y172 l55 (g.1 3) F168 ft60 f65 f167 q69j hc169 hy173) ((2 + 20 * (r2 + 1)) - 1) ((8 + 92 * (r2 + 1)) - 4) (by omega) (by omega)) (fun r177 h176 q175 => ?_) (fun E h1 q => q.elim)
              obtain ⟨q175r, q175e⟩ := q175
              rw [q175r]
              have sp178 : tw_sp d τ (tw_rm h50 it45) g τ h176 := by rw [q175e]; exact sp59.wl tw_rm_s zt61
              have f179 : h176 it45 = some (.inr (2, [.int (nI (j54 + 1)), .int (nI j54), .int (g.1 3), .ref lc_21])) := by rw [q175e]; exact tw_up_s
              obtain ⟨e180, f181, r_182, c_183, v_184, o_185, t_186, rfl, k187, k188, k189, k190, k191⟩ := sp178.1 y172 21 ky174 (by decide)
              refine tw_castS (ci := 11) rfl dX10_isSoundNow_186 w_1212 f181 ?_
              refine tw_astore_n [(2, .ref y172), (0, .ref x), (1, .ref it45)] dX10_isSoundNow_189 rfl (by decide) rfl ?_
              refine tw_aload_n 0 dX10_isSoundNow_190 rfl rfl ?_
              refine tw_get (v := .ref t_186) rfl in_11 4 dX10_isSoundNow_191 w_1225 rfl (by decide) f181 rfl ?_
              refine tw_astore_n [(3, .ref t_186), (2, .ref y172), (0, .ref x), (1, .ref it45)] dX10_isSoundNow_194 rfl (by decide) rfl ?_
              refine tw_aload_n 0 dX10_isSoundNow_195 rfl rfl ?_
              obtain ⟨e192, f193, F194, rfl, k195⟩ := sp178.1 t_186 33 k189 (by decide)
              refine tw_alen (v := nI 5) 0 rfl dX10_isSoundNow_196 f193 rfl ?_
              refine tw_istore [(4, .int (nI 5)), (3, .ref t_186), (2, .ref y172), (0, .ref x), (1, .ref it45)] dX10_isSoundNow_197 (by decide) rfl ?_
              refine tw_iconst (v := 0) dX10_isSoundNow_199 (by decide) ?_
              refine tw_istore [(5, .int 0), (4, .int (nI 5)), (3, .ref t_186), (2, .ref y172), (0, .ref x), (1, .ref it45)] dX10_isSoundNow_200 (by decide) rfl ?_
              have L199 : ∀ (r197 k196 : Nat), 5 + 1 ≤ k196 + r197 → k196 ≤ 5 → tw_W d mX10_isSoundNow (tw_qi (fun r h1 => tw_sp d τ h g τ h1 ∧ tw_01 r) tw_nx) 202 [(0, .ref x), (1, .ref it45), (2, .ref y172), (3, .ref t_186), (4, .int (nI 5)), (5, .int (nI k196))] [] h176 ((2 + 20 * (r2 + 1)) - 1) ((8 + 92 * (r2 + 1)) - 4) := by
                intro r197
                induction r197 with
                | zero => intro k196  hk203 hk204; exact absurd hk203 (by omega)
                | succ r197 ih198 =>
                  intro k196  hk203 hk204
                  refine tw_iload 5 dX10_isSoundNow_202 rfl ?_
                  refine tw_iload 4 dX10_isSoundNow_204 rfl ?_
                  refine tw_icmp_ge 228 dX10_isSoundNow_206 (by decide) (fun c205 => ?_) (fun c205 => ?_)
                  · refine tw_goto 171 dX10_isSoundNow_228 (by decide) ?_
                    refine tw_lv [0, 1] rfl ?_
                    exact ih56 ((j54 + 1)) (nI j54)  _ sp178 f179 zt61  (by omega) (by omega)
                  · have kl206 := tw_klt (N := 5) c205 hk204 (by decide)
                    refine tw_aload_n 3 dX10_isSoundNow_209 rfl rfl ?_
                    refine tw_iload 5 dX10_isSoundNow_210 rfl ?_
                    obtain ⟨v207, ev207⟩ : ∃ y : Int32, F194 ((nI k196)).toNatClampNeg = y := ⟨_, rfl⟩
                    refine tw_iald (v := v207) dX10_isSoundNow_212 f193 (vp_in_nI (by omega) (by decide)) ev207 ?_
                    refine tw_istore [(6, .int v207), (0, .ref x), (1, .ref it45), (2, .ref y172), (3, .ref t_186), (4, .int (nI 5)), (5, .int (nI k196))] dX10_isSoundNow_213 (by decide) rfl ?_
                    refine tw_iload 0 dX10_isSoundNow_215 rfl ?_
                    refine tw_if_ge 222 dX10_isSoundNow_217 (by decide) (fun c208 => ?_) (fun c208 => ?_)
                    · obtain ⟨v209, ev209⟩ : ∃ y : Int32, y = (nI k196) + 1 := ⟨_, rfl⟩
                      refine tw_iinc [(5, .int v209), (6, .int v207), (0, .ref x), (1, .ref it45), (2, .ref y172), (3, .ref t_186), (4, .int (nI 5))] 6 dX10_isSoundNow_222 rfl (by rw [ev209]; rfl) (by decide) rfl ?_
                      refine tw_goto 202 dX10_isSoundNow_225 (by decide) ?_
                      have qv209 := tw_nI3 ev209
                      rw [qv209]
                      refine tw_lv [2, 3, 4, 5, 6, 0] rfl ?_
                      exact ih198 (k196 + 1)  (by omega) (by omega)
                    · refine tw_iconst (v := 0) dX10_isSoundNow_220 (by decide) ?_
                      exact tw_zret dX10_isSoundNow_221 rfl rfl (Or.inl ⟨_, rfl, ⟨(sp0.tr (sp51.trm n48 sp178)), (by unfold tw_01; decide)⟩⟩)
              refine tw_lv [4, 5, 3, 2, 1, 0] rfl ?_
              exact L199 (5 + 1) 0  (by omega) (by omega)
        refine tw_lv [1, 0] rfl ?_
        exact L57 (g.2 3 + 1) 0 (-1)  _ (tw_sp.rm sp51.1 it45) f52 z49  (by omega) (Nat.zero_le _)
      · have kl210 := tw_klt (N := 2) c10 hk9 (by decide)
        refine tw_aload_n 0 dX10_isSoundNow_7 rfl rfl ?_
        refine tw_iload_n 1 dX10_isSoundNow_8 rfl rfl ?_
        refine tw_iconst (v := 0) dX10_isSoundNow_9 (by decide) ?_
        obtain ⟨e211, f212, th_213, td_214, ds_215, fr_216, ca_217, us_218, wo_219, cm_220, lc_221, lh_222, ld_223, rfl, k224, k225, k226, k227, k228, k229, k230, k231, k232, k233, k234, k235, k236, k237, k238, k239⟩ := sp6.1 x 36 kx (by decide)
        refine tw_bi (tw_callV (M := mX10_isSoundNow) (pc := 10) okX10_worldNow dX10_isSoundNow_10 w_1537 rfl f212 [.int (nI k1), .int 0] [] rfl rfl ⟨by decide, by decide⟩ (Nat.le_of_ble_eq_true rfl) (c_X10_worldNow d g τ h5 sp6.1 x kx (nI k1) 0 (vp_in_nI (by omega) (by decide)) (vp_in_nI (n := 0) (by decide) (by decide))) ((2 + 20 * (r2 + 1)) - 3) ((8 + 92 * (r2 + 1)) - 14) (by omega) (by omega)) (fun r242 h241 q240 => ?_) (fun E h1 q => q.elim)
        have sp243 := sp6.tr q240
        refine tw_aload_n 0 dX10_isSoundNow_13 rfl rfl ?_
        refine tw_iload_n 1 dX10_isSoundNow_14 rfl rfl ?_
        refine tw_iconst (v := 1) dX10_isSoundNow_15 (by decide) ?_
        obtain ⟨e244, f245, th_246, td_247, ds_248, fr_249, ca_250, us_251, wo_252, cm_253, lc_254, lh_255, ld_256, rfl, k257, k258, k259, k260, k261, k262, k263, k264, k265, k266, k267, k268, k269, k270, k271, k272⟩ := sp243.1 x 36 kx (by decide)
        refine tw_bi (tw_callV (M := mX10_isSoundNow) (pc := 16) okX10_worldNow dX10_isSoundNow_16 w_1537 rfl f245 [.int (nI k1), .int 1] [.int r242] rfl rfl ⟨by decide, by decide⟩ (Nat.le_of_ble_eq_true rfl) (c_X10_worldNow d g τ h241 sp243.1 x kx (nI k1) 1 (vp_in_nI (by omega) (by decide)) (vp_in_nI (n := 1) (by decide) (by decide))) (((2 + 20 * (r2 + 1)) - 3) - 3) (((8 + 92 * (r2 + 1)) - 14) - 14) (by omega) (by omega)) (fun r275 h274 q273 => ?_) (fun E h1 q => q.elim)
        have sp276 := sp243.tr q273
        refine tw_iadd dX10_isSoundNow_19 ?_
        refine tw_nmi (fun v277 ev277 => ?_)
        refine tw_aload_n 0 dX10_isSoundNow_20 rfl rfl ?_
        refine tw_iload_n 1 dX10_isSoundNow_21 rfl rfl ?_
        refine tw_iconst (v := 2) dX10_isSoundNow_22 (by decide) ?_
        obtain ⟨e278, f279, th_280, td_281, ds_282, fr_283, ca_284, us_285, wo_286, cm_287, lc_288, lh_289, ld_290, rfl, k291, k292, k293, k294, k295, k296, k297, k298, k299, k300, k301, k302, k303, k304, k305, k306⟩ := sp276.1 x 36 kx (by decide)
        refine tw_bi (tw_callV (M := mX10_isSoundNow) (pc := 23) okX10_worldNow dX10_isSoundNow_23 w_1537 rfl f279 [.int (nI k1), .int 2] [.int v277] rfl rfl ⟨by decide, by decide⟩ (Nat.le_of_ble_eq_true rfl) (c_X10_worldNow d g τ h274 sp276.1 x kx (nI k1) 2 (vp_in_nI (by omega) (by decide)) (vp_in_nI (n := 2) (by decide) (by decide))) ((((2 + 20 * (r2 + 1)) - 3) - 3) - 3) ((((8 + 92 * (r2 + 1)) - 14) - 14) - 14) (by omega) (by omega)) (fun r309 h308 q307 => ?_) (fun E h1 q => q.elim)
        have sp310 := sp276.tr q307
        refine tw_iadd dX10_isSoundNow_26 ?_
        refine tw_nmi (fun v311 ev311 => ?_)
        refine tw_aload_n 0 dX10_isSoundNow_27 rfl rfl ?_
        refine tw_iload_n 1 dX10_isSoundNow_28 rfl rfl ?_
        refine tw_iconst (v := 3) dX10_isSoundNow_29 (by decide) ?_
        obtain ⟨e312, f313, th_314, td_315, ds_316, fr_317, ca_318, us_319, wo_320, cm_321, lc_322, lh_323, ld_324, rfl, k325, k326, k327, k328, k329, k330, k331, k332, k333, k334, k335, k336, k337, k338, k339, k340⟩ := sp310.1 x 36 kx (by decide)
        refine tw_bi (tw_callV (M := mX10_isSoundNow) (pc := 30) okX10_worldNow dX10_isSoundNow_30 w_1537 rfl f313 [.int (nI k1), .int 3] [.int v311] rfl rfl ⟨by decide, by decide⟩ (Nat.le_of_ble_eq_true rfl) (c_X10_worldNow d g τ h308 sp310.1 x kx (nI k1) 3 (vp_in_nI (by omega) (by decide)) (vp_in_nI (n := 3) (by decide) (by decide))) (((((2 + 20 * (r2 + 1)) - 3) - 3) - 3) - 3) (((((8 + 92 * (r2 + 1)) - 14) - 14) - 14) - 14) (by omega) (by omega)) (fun r343 h342 q341 => ?_) (fun E h1 q => q.elim)
        have sp344 := sp310.tr q341
        refine tw_iadd dX10_isSoundNow_33 ?_
        refine tw_nmi (fun v345 ev345 => ?_)
        refine tw_aload_n 0 dX10_isSoundNow_34 rfl rfl ?_
        refine tw_iload_n 1 dX10_isSoundNow_35 rfl rfl ?_
        refine tw_iconst (v := 4) dX10_isSoundNow_36 (by decide) ?_
        obtain ⟨e346, f347, th_348, td_349, ds_350, fr_351, ca_352, us_353, wo_354, cm_355, lc_356, lh_357, ld_358, rfl, k359, k360, k361, k362, k363, k364, k365, k366, k367, k368, k369, k370, k371, k372, k373, k374⟩ := sp344.1 x 36 kx (by decide)
        refine tw_bi (tw_callV (M := mX10_isSoundNow) (pc := 37) okX10_worldNow dX10_isSoundNow_37 w_1537 rfl f347 [.int (nI k1), .int 4] [.int v345] rfl rfl ⟨by decide, by decide⟩ (Nat.le_of_ble_eq_true rfl) (c_X10_worldNow d g τ h342 sp344.1 x kx (nI k1) 4 (vp_in_nI (by omega) (by decide)) (vp_in_nI (n := 4) (by decide) (by decide))) ((((((2 + 20 * (r2 + 1)) - 3) - 3) - 3) - 3) - 3) ((((((8 + 92 * (r2 + 1)) - 14) - 14) - 14) - 14) - 14) (by omega) (by omega)) (fun r377 h376 q375 => ?_) (fun E h1 q => q.elim)
        have sp378 := sp344.tr q375
        refine tw_iadd dX10_isSoundNow_40 ?_
        refine tw_nmi (fun v379 ev379 => ?_)
        refine tw_aload_n 0 dX10_isSoundNow_41 rfl rfl ?_
        refine tw_iload_n 1 dX10_isSoundNow_42 rfl rfl ?_
        refine tw_iconst (v := 5) dX10_isSoundNow_43 (by decide) ?_
        obtain ⟨e380, f381, th_382, td_383, ds_384, fr_385, ca_386, us_387, wo_388, cm_389, lc_390, lh_391, ld_392, rfl, k393, k394, k395, k396, k397, k398, k399, k400, k401, k402, k403, k404, k405, k406, k407, k408⟩ := sp378.1 x 36 kx (by decide)
        refine tw_bi (tw_callV (M := mX10_isSoundNow) (pc := 44) okX10_worldNow dX10_isSoundNow_44 w_1537 rfl f381 [.int (nI k1), .int 5] [.int v379] rfl rfl ⟨by decide, by decide⟩ (Nat.le_of_ble_eq_true rfl) (c_X10_worldNow d g τ h376 sp378.1 x kx (nI k1) 5 (vp_in_nI (by omega) (by decide)) (vp_in_nI (n := 5) (by decide) (by decide))) (((((((2 + 20 * (r2 + 1)) - 3) - 3) - 3) - 3) - 3) - 3) (((((((8 + 92 * (r2 + 1)) - 14) - 14) - 14) - 14) - 14) - 14) (by omega) (by omega)) (fun r411 h410 q409 => ?_) (fun E h1 q => q.elim)
        have sp412 := sp378.tr q409
        refine tw_icmp_eq 52 dX10_isSoundNow_47 (by decide) (fun c413 => ?_) (fun c413 => ?_)
        · refine tw_aload_n 0 dX10_isSoundNow_52 rfl rfl ?_
          obtain ⟨e414, f415, th_416, td_417, ds_418, fr_419, ca_420, us_421, wo_422, cm_423, lc_424, lh_425, ld_426, rfl, k427, k428, k429, k430, k431, k432, k433, k434, k435, k436, k437, k438, k439, k440, k441, k442⟩ := sp412.1 x 36 kx (by decide)
          refine tw_get (v := .ref lc_424) rfl in_14 9 dX10_isSoundNow_53 w_1160 rfl (by decide) f415 rfl ?_
          obtain ⟨e443, f444, ⟨el445, rfl, k446⟩, k447⟩ := sp412.1 lc_424 24 k433 (by decide)
          refine tw_br (tw_callV (M := mX10_isSoundNow) (pc := 56) okJx4a65c_iterator_32c93 dX10_isSoundNow_56 w_1386 rfl f444 [] [] rfl rfl ⟨by decide, by decide⟩ (Nat.le_of_ble_eq_true rfl) (c_iterator d h410 lc_424 el445 (g.1 3) (nI (g.2 3)) f444) ((((((((2 + 20 * (r2 + 1)) - 3) - 3) - 3) - 3) - 3) - 3) - 1) ((((((((8 + 92 * (r2 + 1)) - 14) - 14) - 14) - 14) - 14) - 14) - 4) (by omega) (by omega)) (fun it448 h449 q450 => ?_) (fun E h1 q => q.elim)
          obtain ⟨q450n, q450e⟩ := q450
          rw [q450e]
          have n451 := sp412.nn q450n
          have z452 := sp412.1.none q450n
          obtain ⟨h453, eh453⟩ : ∃ z : tw_H, z = tw_up h410 it448 (.inr (2, [.int 0, .int (-1), .int (g.1 3), .ref lc_424])) := ⟨_, rfl⟩
          rw [← eh453]
          have sp454 : tw_sp d τ h g τ h453 := by rw [eh453]; exact sp412.mk q450n
          have f455 : h453 it448 = some (.inr (2, [.int 0, .int (-1), .int (g.1 3), .ref lc_424])) := by rw [eh453]; exact tw_up_s
          refine tw_astore_n [(2, .ref it448), (0, .ref x), (1, .int (nI k1))] dX10_isSoundNow_59 rfl (by decide) rfl ?_
          have L460 : ∀ (r456 j457 : Nat) (l458 : Int32) (h461 : tw_H) (sp462 : tw_sp d τ (tw_rm h453 it448) g τ h461) (ft463 : h461 it448 = some (.inr (2, [.int (nI j457), .int l458, .int (g.1 3), .ref lc_424]))) (zt464 : τ it448 = 0), g.2 3 + 1 ≤ j457 + r456 → j457 ≤ g.2 3 → tw_W d mX10_isSoundNow (tw_qi (fun r h1 => tw_sp d τ h g τ h1 ∧ tw_01 r) tw_nx) 60 [(0, .ref x), (1, .int (nI k1)), (2, .ref it448)] [] h461 ((((((((2 + 20 * (r2 + 1)) - 3) - 3) - 3) - 3) - 3) - 3) - 1) ((((((((8 + 92 * (r2 + 1)) - 14) - 14) - 14) - 14) - 14) - 14) - 4) := by
            intro r456
            induction r456 with
            | zero => intro j457 l458 h461 sp462 ft463 zt464 hk465 hk466; exact absurd hk465 (by omega)
            | succ r456 ih459 =>
              intro j457 l458 h461 sp462 ft463 zt464 hk465 hk466
              refine tw_aload_n 2 dX10_isSoundNow_60 rfl rfl ?_
              obtain ⟨e467, f468, ⟨el469, rfl, k470⟩, k471⟩ := sp462.1 lc_424 24 k433 (by decide)
              refine tw_bi (tw_callF (M := mX10_isSoundNow) (pc := 61) (n9 := 0) (ci := 2) tw_hasNext ok_itHas w_1416 w_1414 (fun s H z => z.2.2.2.2.2.2.2.2.1) (by decide +kernel) dX10_isSoundNow_61 w_1410 rfl ft463 [] [] rfl rfl ⟨by decide, by decide⟩ (Nat.le_of_ble_eq_true rfl) (c_hasNext d h461 it448 lc_424 el469 j457 (g.2 3) l458 (g.1 3) (g.1 3) ft463 f468 (by omega) (tw_lim24 sp462.1 k433)) ((((((((2 + 20 * (r2 + 1)) - 3) - 3) - 3) - 3) - 3) - 3) - 1) ((((((((8 + 92 * (r2 + 1)) - 14) - 14) - 14) - 14) - 14) - 14) - 4) (by omega) (by omega)) (fun r474 h473 q472 => ?_) (fun E h1 q => q.elim)
              obtain ⟨q472e, q472q⟩ := q472
              rw [q472e]
              rcases q472q with ⟨q472r, q472j⟩ | ⟨q472r, q472j⟩
              · rw [q472r]
                refine tw_if_eq 95 dX10_isSoundNow_66 (by decide) (fun _ => ?_) (fun c475 => absurd (by decide) c475)
                refine tw_aload_n 0 dX10_isSoundNow_95 rfl rfl ?_
                obtain ⟨e476, f477, th_478, td_479, ds_480, fr_481, ca_482, us_483, wo_484, cm_485, lc_486, lh_487, ld_488, rfl, k489, k490, k491, k492, k493, k494, k495, k496, k497, k498, k499, k500, k501, k502, k503, k504⟩ := sp462.1 x 36 kx (by decide)
                refine tw_get (v := .ref lh_487) rfl in_14 10 dX10_isSoundNow_96 w_1161 rfl (by decide) f477 rfl ?_
                obtain ⟨e505, f506, ⟨el507, rfl, k508⟩, k509⟩ := sp462.1 lh_487 25 k496 (by decide)
                refine tw_br (tw_callV (M := mX10_isSoundNow) (pc := 99) okJx4a65c_iterator_32c93 dX10_isSoundNow_99 w_1386 rfl f506 [] [] rfl rfl ⟨by decide, by decide⟩ (Nat.le_of_ble_eq_true rfl) (c_iterator d h461 lh_487 el507 (g.1 4) (nI (g.2 4)) f506) (((((((((2 + 20 * (r2 + 1)) - 3) - 3) - 3) - 3) - 3) - 3) - 1) - 1) (((((((((8 + 92 * (r2 + 1)) - 14) - 14) - 14) - 14) - 14) - 14) - 4) - 4) (by omega) (by omega)) (fun it510 h511 q512 => ?_) (fun E h1 q => q.elim)
                obtain ⟨q512n, q512e⟩ := q512
                rw [q512e]
                have n513 := sp462.nn q512n
                have z514 := sp462.1.none q512n
                have ne515 := tw_neF ft463 q512n
                obtain ⟨h516, eh516⟩ : ∃ z : tw_H, z = tw_up h461 it510 (.inr (2, [.int 0, .int (-1), .int (g.1 4), .ref lh_487])) := ⟨_, rfl⟩
                rw [← eh516]
                have sp517 : tw_sp d τ (tw_rm h453 it448) g τ h516 := by rw [eh516]; exact sp462.mk q512n
                have f518 : h516 it448 = some (.inr (2, [.int (nI j457), .int l458, .int (g.1 3), .ref lc_424])) := by rw [eh516, tw_up_n ne515]; exact ft463
                have f519 : h516 it510 = some (.inr (2, [.int 0, .int (-1), .int (g.1 4), .ref lh_487])) := by rw [eh516]; exact tw_up_s
                refine tw_astore_n [(2, .ref it510), (0, .ref x), (1, .int (nI k1))] dX10_isSoundNow_102 rfl (by decide) rfl ?_
                have L524 : ∀ (r520 j521 : Nat) (l522 : Int32) (h525 : tw_H) (sp526 : tw_sp d τ (tw_rm h516 it510) g τ h525) (ft527 : h525 it510 = some (.inr (2, [.int (nI j521), .int l522, .int (g.1 4), .ref lh_487]))) (zt528 : τ it510 = 0), g.2 4 + 1 ≤ j521 + r520 → j521 ≤ g.2 4 → tw_W d mX10_isSoundNow (tw_qi (fun r h1 => tw_sp d τ h g τ h1 ∧ tw_01 r) tw_nx) 103 [(0, .ref x), (1, .int (nI k1)), (2, .ref it510)] [] h525 (((((((((2 + 20 * (r2 + 1)) - 3) - 3) - 3) - 3) - 3) - 3) - 1) - 1) (((((((((8 + 92 * (r2 + 1)) - 14) - 14) - 14) - 14) - 14) - 14) - 4) - 4) := by
                  intro r520
                  induction r520 with
                  | zero => intro j521 l522 h525 sp526 ft527 zt528 hk529 hk530; exact absurd hk529 (by omega)
                  | succ r520 ih523 =>
                    intro j521 l522 h525 sp526 ft527 zt528 hk529 hk530
                    have f531 := (sp526.2.2 _ _ (by unfold tw_rm; rw [if_neg ne515]; exact f518) zt464).1
                    have z532 := (sp526.2.2 _ _ (by unfold tw_rm; rw [if_neg ne515]; exact f518) zt464).2
                    refine tw_aload_n 2 dX10_isSoundNow_103 rfl rfl ?_
                    obtain ⟨e533, f534, ⟨el535, rfl, k536⟩, k537⟩ := sp526.1 lh_487 25 k496 (by decide)
                    refine tw_bi (tw_callF (M := mX10_isSoundNow) (pc := 104) (n9 := 0) (ci := 2) tw_hasNext ok_itHas w_1416 w_1414 (fun s H z => z.2.2.2.2.2.2.2.2.1) (by decide +kernel) dX10_isSoundNow_104 w_1410 rfl ft527 [] [] rfl rfl ⟨by decide, by decide⟩ (Nat.le_of_ble_eq_true rfl) (c_hasNext d h525 it510 lh_487 el535 j521 (g.2 4) l522 (g.1 4) (g.1 4) ft527 f534 (by omega) (tw_lim25 sp526.1 k496)) (((((((((2 + 20 * (r2 + 1)) - 3) - 3) - 3) - 3) - 3) - 3) - 1) - 1) (((((((((8 + 92 * (r2 + 1)) - 14) - 14) - 14) - 14) - 14) - 14) - 4) - 4) (by omega) (by omega)) (fun r540 h539 q538 => ?_) (fun E h1 q => q.elim)
                    obtain ⟨q538e, q538q⟩ := q538
                    rw [q538e]
                    rcases q538q with ⟨q538r, q538j⟩ | ⟨q538r, q538j⟩
                    · rw [q538r]
                      refine tw_if_eq 157 dX10_isSoundNow_109 (by decide) (fun _ => ?_) (fun c541 => absurd (by decide) c541)
                      obtain ⟨v542, ev542⟩ : ∃ y : Int32, y = (nI k1) + 1 := ⟨_, rfl⟩
                      refine tw_iinc [(1, .int v542), (0, .ref x), (2, .ref it510)] 1 dX10_isSoundNow_157 rfl (by rw [ev542]; rfl) (by decide) rfl ?_
                      refine tw_goto 2 dX10_isSoundNow_160 (by decide) ?_
                      have qv542 := tw_nI3 ev542
                      rw [qv542]
                      refine tw_lv [1, 0] rfl ?_
                      refine tw_less (c2 := 2 + 20 * r2) (n2 := 8 + 92 * r2) (by omega) (by omega) ?_
                      exact ih3 (k1 + 1)  _ (sp454.trm n451 (sp517.trm n513 sp526)) (by omega) (by omega)
                    · rw [q538r]
                      refine tw_if_eq 157 dX10_isSoundNow_109 (by decide) (fun c543 => absurd c543 (by decide)) (fun _ => ?_)
                      refine tw_aload_n 2 dX10_isSoundNow_112 rfl rfl ?_
                      have k544 : τ el535 = 28 := k536.resolve_left (fun q => absurd q538j (by rw [q.2.1]; exact Nat.not_lt_zero _))
                      obtain ⟨e545, f546, ⟨F547, rfl, hc548, hc549⟩, un550⟩ := sp526.1 el535 28 k544 (by decide)
                      obtain ⟨y551, hy552, ky553⟩ := hc549 j521 q538j
                      refine tw_br (tw_callF (M := mX10_isSoundNow) (pc := 113) (n9 := 0) (ci := 2) tw_next ok_itNext w_1425 w_1423 (fun s H z => z.2.2.2.2.2.2.2.2.2) (by decide +kernel) dX10_isSoundNow_113 w_1420 rfl ft527 [] [] rfl rfl ⟨by decide, by decide⟩ (Nat.le_of_ble_eq_true rfl) (c_next d h525 it510 lh_487 el535 j521 (g.2 4) y551 l522 (g.1 4) F547 ft527 f534 f546 q538j hc548 hy552) (((((((((2 + 20 * (r2 + 1)) - 3) - 3) - 3) - 3) - 3) - 3) - 1) - 1) (((((((((8 + 92 * (r2 + 1)) - 14) - 14) - 14) - 14) - 14) - 14) - 4) - 4) (by omega) (by omega)) (fun r556 h555 q554 => ?_) (fun E h1 q => q.elim)
                      obtain ⟨q554r, q554e⟩ := q554
                      rw [q554r]
                      have sp557 : tw_sp d τ (tw_rm h516 it510) g τ h555 := by rw [q554e]; exact sp526.wl tw_rm_s zt528
                      have f558 : h555 it448 = some (.inr (2, [.int (nI j457), .int l458, .int (g.1 3), .ref lc_424])) := by rw [q554e, tw_up_n ne515]; exact f531
                      have f559 : h555 it510 = some (.inr (2, [.int (nI (j521 + 1)), .int (nI j521), .int (g.1 4), .ref lh_487])) := by rw [q554e]; exact tw_up_s
                      obtain ⟨e560, f561, x_562, y_563, dy_564, p_565, rfl, k566, k567, k568⟩ := sp557.1 y551 23 ky553 (by decide)
                      refine tw_castS (ci := 13) rfl dX10_isSoundNow_118 w_1336 f561 ?_
                      refine tw_astore_n [(3, .ref y551), (0, .ref x), (1, .int (nI k1)), (2, .ref it510)] dX10_isSoundNow_121 rfl (by decide) rfl ?_
                      refine tw_aload_n 0 dX10_isSoundNow_122 rfl rfl ?_
                      refine tw_get (v := .ref p_565) rfl in_13 3 dX10_isSoundNow_123 w_1348 rfl (by decide) f561 rfl ?_
                      refine tw_iload_n 2 dX10_isSoundNow_126 rfl rfl ?_
                      obtain ⟨e569, f570, F571, rfl⟩ := sp557.1 p_565 31 k566 (by decide)
                      obtain ⟨v572, ev572⟩ : ∃ y : Int64, F571 ((nI k1)).toNatClampNeg = y := ⟨_, rfl⟩
                      refine tw_lald (v := v572) dX10_isSoundNow_127 f570 (vp_in_nI (by omega) (by decide)) ev572 ?_
                      refine tw_lconst (v := 0) dX10_isSoundNow_128 (by decide) ?_
                      refine tw_lcmp dX10_isSoundNow_129 ?_
                      refine tw_nmi (fun v573 ev573 => ?_)
                      refine tw_if_lt 152 dX10_isSoundNow_130 (by decide) (fun c574 => ?_) (fun c574 => ?_)
                      · refine tw_iconst (v := 0) dX10_isSoundNow_152 (by decide) ?_
                        exact tw_zret dX10_isSoundNow_153 rfl rfl (Or.inl ⟨_, rfl, ⟨(sp0.tr (sp454.trm n451 (sp517.trm n513 sp557))), (by unfold tw_01; decide)⟩⟩)
                      · refine tw_aload_n 0 dX10_isSoundNow_133 rfl rfl ?_
                        refine tw_get (v := .int x_562) rfl in_13 0 dX10_isSoundNow_134 w_1342 rfl (by decide) f561 rfl ?_
                        refine tw_iconst (v := -1) dX10_isSoundNow_137 (by decide) ?_
                        refine tw_icmp_ne 154 dX10_isSoundNow_138 (by decide) (fun c575 => ?_) (fun c575 => ?_)
                        · refine tw_goto 103 dX10_isSoundNow_154 (by decide) ?_
                          refine tw_lv [1, 2, 3] rfl ?_
                          exact ih523 ((j521 + 1)) (nI j521)  _ sp557 f559 zt528  (by omega) (by omega)
                        · refine tw_aload_n 0 dX10_isSoundNow_141 rfl rfl ?_
                          refine tw_get (v := .int dy_564) rfl in_13 2 dX10_isSoundNow_142 w_1346 rfl (by decide) f561 rfl ?_
                          refine tw_aload_n 1 dX10_isSoundNow_145 rfl rfl ?_
                          obtain ⟨e576, f577, th_578, td_579, ds_580, fr_581, ca_582, us_583, wo_584, cm_585, lc_586, lh_587, ld_588, rfl, k589, k590, k591, k592, k593, k594, k595, k596, k597, k598, k599, k600, k601, k602, k603, k604⟩ := sp557.1 x 36 kx (by decide)
                          refine tw_get (v := .int td_579) rfl in_14 1 dX10_isSoundNow_146 w_1152 rfl (by decide) f577 rfl ?_
                          refine tw_icmp_gt 154 dX10_isSoundNow_149 (by decide) (fun c605 => ?_) (fun c605 => ?_)
                          · refine tw_goto 103 dX10_isSoundNow_154 (by decide) ?_
                            refine tw_lv [1, 2, 3] rfl ?_
                            exact ih523 ((j521 + 1)) (nI j521)  _ sp557 f559 zt528  (by omega) (by omega)
                          · refine tw_iconst (v := 0) dX10_isSoundNow_152 (by decide) ?_
                            exact tw_zret dX10_isSoundNow_153 rfl rfl (Or.inl ⟨_, rfl, ⟨(sp0.tr (sp454.trm n451 (sp517.trm n513 sp557))), (by unfold tw_01; decide)⟩⟩)
                refine tw_lv [1, 2, 0] rfl ?_
                exact L524 (g.2 4 + 1) 0 (-1)  _ (tw_sp.rm sp517.1 it510) f519 z514  (by omega) (Nat.zero_le _)
              · rw [q472r]
                refine tw_if_eq 95 dX10_isSoundNow_66 (by decide) (fun c606 => absurd c606 (by decide)) (fun _ => ?_)
                refine tw_aload_n 2 dX10_isSoundNow_69 rfl rfl ?_
                have k607 : τ el469 = 27 := k470.resolve_left (fun q => absurd q472j (by rw [q.2.1]; exact Nat.not_lt_zero _))
                obtain ⟨e608, f609, ⟨F610, rfl, hc611, hc612⟩, un613⟩ := sp462.1 el469 27 k607 (by decide)
                obtain ⟨y614, hy615, ky616⟩ := hc612 j457 q472j
                refine tw_br (tw_callF (M := mX10_isSoundNow) (pc := 70) (n9 := 0) (ci := 2) tw_next ok_itNext w_1425 w_1423 (fun s H z => z.2.2.2.2.2.2.2.2.2) (by decide +kernel) dX10_isSoundNow_70 w_1420 rfl ft463 [] [] rfl rfl ⟨by decide, by decide⟩ (Nat.le_of_ble_eq_true rfl) (c_next d h461 it448 lc_424 el469 j457 (g.2 3) y614 l458 (g.1 3) F610 ft463 f468 f609 q472j hc611 hy615) ((((((((2 + 20 * (r2 + 1)) - 3) - 3) - 3) - 3) - 3) - 3) - 1) ((((((((8 + 92 * (r2 + 1)) - 14) - 14) - 14) - 14) - 14) - 14) - 4) (by omega) (by omega)) (fun r619 h618 q617 => ?_) (fun E h1 q => q.elim)
                obtain ⟨q617r, q617e⟩ := q617
                rw [q617r]
                have sp620 : tw_sp d τ (tw_rm h453 it448) g τ h618 := by rw [q617e]; exact sp462.wl tw_rm_s zt464
                have f621 : h618 it448 = some (.inr (2, [.int (nI (j457 + 1)), .int (nI j457), .int (g.1 3), .ref lc_424])) := by rw [q617e]; exact tw_up_s
                obtain ⟨e622, f623, r_624, c_625, v_626, o_627, t_628, rfl, k629, k630, k631, k632, k633⟩ := sp620.1 y614 21 ky616 (by decide)
                refine tw_castS (ci := 11) rfl dX10_isSoundNow_75 w_1212 f623 ?_
                refine tw_astore_n [(3, .ref y614), (0, .ref x), (1, .int (nI k1)), (2, .ref it448)] dX10_isSoundNow_78 rfl (by decide) rfl ?_
                refine tw_aload_n 0 dX10_isSoundNow_79 rfl rfl ?_
                refine tw_get (v := .ref v_626) rfl in_11 2 dX10_isSoundNow_80 w_1221 rfl (by decide) f623 rfl ?_
                refine tw_iload_n 2 dX10_isSoundNow_83 rfl rfl ?_
                obtain ⟨e634, f635, F636, rfl⟩ := sp620.1 v_626 31 k629 (by decide)
                obtain ⟨v637, ev637⟩ : ∃ y : Int64, F636 ((nI k1)).toNatClampNeg = y := ⟨_, rfl⟩
                refine tw_lald (v := v637) dX10_isSoundNow_84 f635 (vp_in_nI (by omega) (by decide)) ev637 ?_
                refine tw_lconst (v := 0) dX10_isSoundNow_85 (by decide) ?_
                refine tw_lcmp dX10_isSoundNow_86 ?_
                refine tw_nmi (fun v638 ev638 => ?_)
                refine tw_if_ge 92 dX10_isSoundNow_87 (by decide) (fun c639 => ?_) (fun c639 => ?_)
                · refine tw_goto 60 dX10_isSoundNow_92 (by decide) ?_
                  refine tw_lv [1, 2, 3] rfl ?_
                  exact ih459 ((j457 + 1)) (nI j457)  _ sp620 f621 zt464  (by omega) (by omega)
                · refine tw_iconst (v := 0) dX10_isSoundNow_90 (by decide) ?_
                  exact tw_zret dX10_isSoundNow_91 rfl rfl (Or.inl ⟨_, rfl, ⟨(sp0.tr (sp454.trm n451 sp620)), (by unfold tw_01; decide)⟩⟩)
          refine tw_lv [1, 2, 0] rfl ?_
          exact L460 (g.2 3 + 1) 0 (-1)  _ (tw_sp.rm sp454.1 it448) f455 z452  (by omega) (Nat.zero_le _)
        · refine tw_iconst (v := 0) dX10_isSoundNow_50 (by decide) ?_
          exact tw_zret dX10_isSoundNow_51 rfl rfl (Or.inl ⟨_, rfl, ⟨(sp0.tr sp412), (by unfold tw_01; decide)⟩⟩)
  refine tw_lv [1, 0] rfl ?_
  refine tw_less (c2 := 2 + 20 * 3) (n2 := 8 + 92 * 3) (by omega) (by omega) ?_
  exact L4 3 0  _ (tw_sp.rf sp0.1) (by omega) (by omega)

set_option maxHeartbeats 4000000 in
set_option maxRecDepth 100000 in
theorem c_X10_isSound (d : tw_D) (g : tw_G) (τ : tw_K) (h : tw_H) (hw : tw_wt d g τ h) (x : Nat) (kx : τ x = 36) : tw_Ct d mX10_isSound 62 284 [.ref x] h (tw_qi (fun r h1 => tw_sp d τ h g τ h1 ∧ tw_01 r) tw_nx) := by
  refine tw_of (by decide +kernel) (Nat.le_of_ble_eq_true rfl) ?_
  show tw_W d mX10_isSound _ 0 [(0, .ref x)] [] h 62 284
  have sp0 := tw_sp.rf hw
  refine tw_aload_n 0 dX10_isSound_0 rfl rfl ?_
  refine tw_iconst (v := 0) dX10_isSound_1 (by decide) ?_
  obtain ⟨e1, f2, th_3, td_4, ds_5, fr_6, ca_7, us_8, wo_9, cm_10, lc_11, lh_12, ld_13, rfl, k14, k15, k16, k17, k18, k19, k20, k21, k22, k23, k24, k25, k26, k27, k28, k29⟩ := sp0.1 x 36 kx (by decide)
  refine tw_put rfl in_14 tyX10 tyX10_ok nmX10 0 dX10_isSound_2 w_1151 rfl (by decide) f2 rfl rfl rfl rfl (Nat.le_of_ble_eq_true rfl) [.int 0, .int td_4, .int (g.1 1), .ref ds_5, .ref fr_6, .ref ca_7, .ref us_8, .ref wo_9, .ref cm_10, .ref lc_11, .ref lh_12, .ref ld_13] rfl ?_
  obtain ⟨h30, eh30⟩ : ∃ z : tw_H, z = tw_up h x (.inr (14, [.int 0, .int td_4, .int (g.1 1), .ref ds_5, .ref fr_6, .ref ca_7, .ref us_8, .ref wo_9, .ref cm_10, .ref lc_11, .ref lh_12, .ref ld_13])) := ⟨_, rfl⟩
  rw [← eh30]
  have sp31 : tw_sp d τ h g τ h30 := by rw [eh30]; exact sp0.set kx (by decide) ⟨0, td_4, ds_5, fr_6, ca_7, us_8, wo_9, cm_10, lc_11, lh_12, ld_13, rfl, k14, k15, k16, k17, k18, k19, k20, k21, k22, k23, k24, k25, k26, (by decide), k28, k29⟩
  have f32 : h30 x = some (.inr (14, [.int 0, .int td_4, .int (g.1 1), .ref ds_5, .ref fr_6, .ref ca_7, .ref us_8, .ref wo_9, .ref cm_10, .ref lc_11, .ref lh_12, .ref ld_13])) := by rw [eh30]; exact tw_up_s
  refine tw_aload_n 0 dX10_isSound_5 rfl rfl ?_
  refine tw_bi (tw_callV (M := mX10_isSound) (pc := 6) okX10_isSoundNow dX10_isSound_6 w_1589 rfl f32 [] [] rfl rfl ⟨by decide, by decide⟩ (Nat.le_of_ble_eq_true rfl) (c_X10_isSoundNow d g τ h30 sp31.1 x kx) 0 0 (Nat.le_of_ble_eq_true rfl) (Nat.le_of_ble_eq_true rfl)) (fun r35 h34 q33 => ?_) (fun E h1 q => q.elim)
  obtain ⟨q33s, p37⟩ := q33
  have sp36 := sp31.tr q33s
  exact tw_zret dX10_isSound_9 rfl (tw_nar01 p37) (Or.inl ⟨_, rfl, ⟨sp36, p37⟩⟩)

/-! the class's methods over the typed heap. Laid by wip/p5/mkclass.py. -/
set_option maxHeartbeats 4000000 in
set_option maxRecDepth 100000 in
theorem c_X10_trip (d : tw_D) (g : tw_G) (τ : tw_K) (h : tw_H) (hw : tw_wt d g τ h) (x : Nat) (kx : τ x = 36) (a : Int32) (b : Int32) (m : Int32) (gr : Int32) : tw_Ct d mX10_trip 0 0 [.ref x, .int a, .int b, .int m, .int gr] h (tw_qi (fun r h1 => tw_sp d τ h g τ h1) tw_nx) := by
  refine tw_of (by decide +kernel) (Nat.le_of_ble_eq_true rfl) ?_
  show tw_W d mX10_trip _ 0 [(0, .ref x), (1, .int a), (2, .int b), (3, .int m), (4, .int gr)] [] h 0 0
  have sp0 := tw_sp.rf hw
  refine tw_aload_n 0 dX10_trip_0 rfl rfl ?_
  refine tw_aload_n 0 dX10_trip_1 rfl rfl ?_
  refine tw_iload_n 1 dX10_trip_2 rfl rfl ?_
  obtain ⟨e1, f2, th_3, td_4, ds_5, fr_6, ca_7, us_8, wo_9, cm_10, lc_11, lh_12, ld_13, rfl, k14, k15, k16, k17, k18, k19, k20, k21, k22, k23, k24, k25, k26, k27⟩ := sp0.1 x 36 kx (by decide)
  refine tw_bi (tw_callV (M := mX10_trip) (pc := 3) okX10_isNoCountry dX10_trip_3 w_1292 rfl f2 [.int a] [.ref x] rfl rfl ⟨by decide, by decide⟩ (Nat.le_of_ble_eq_true rfl) (c_X10_isNoCountry d g τ h sp0.1 x kx a) 0 0 (Nat.le_of_ble_eq_true rfl) (Nat.le_of_ble_eq_true rfl)) (fun r30 h29 q28 => ?_) (fun E h1 q => q.elim)
  obtain ⟨q28e, q28d⟩ := q28
  rw [q28e]
  rcases q28d with q28r | ⟨q28r, j31, q28j, q28k⟩
  · rw [q28r]
    refine tw_if_ne 17 dX10_trip_6 (by decide) (fun _ => ?_) (fun c32 => absurd c32 (by decide))
    refine tw_iconst (v := 1) dX10_trip_17 (by decide) ?_
    refine tw_goto 22 dX10_trip_18 (by decide) ?_
    refine tw_iconst (v := 1) dX10_trip_22 (by decide) ?_
    refine tw_bi (tw_callV (M := mX10_trip) (pc := 23) okX10_start dX10_trip_23 w_1200 rfl f2 [.int 1, .int 1] [] rfl rfl ⟨by decide, by decide⟩ (Nat.le_of_ble_eq_true rfl) (c_X10_start d g τ h sp0.1 x kx 1 1 (by decide)) 0 0 (Nat.le_of_ble_eq_true rfl) (Nat.le_of_ble_eq_true rfl)) (fun r35 h34 q33 => ?_) (fun E h1 q => q.elim)
    obtain ⟨e36, he37, hs38, hr39, h340⟩ := q33
    have sp41 : tw_sp d τ h g τ h34 := by rw [he37]; exact sp0.set kx (by decide) hs38
    rcases hr39 with ei42 | ⟨ei42, ei42b⟩
    · rw [ei42]
      refine tw_if_ne 65 dX10_trip_26 (by decide) (fun _ => ?_) (fun c43 => absurd c43 (by decide))
      refine tw_iconst (v := 0) dX10_trip_65 (by decide) ?_
      refine tw_goto 80 dX10_trip_66 (by decide) ?_
      exact tw_iret dX10_trip_80 rfl (Or.inl ⟨_, rfl, sp41⟩)
    · exact absurd ei42b (by decide)
  · rw [q28r]
    subst q28k
    refine tw_if_ne 17 dX10_trip_6 (by decide) (fun c44 => absurd (by decide) c44) (fun _ => ?_)
    refine tw_aload_n 0 dX10_trip_9 rfl rfl ?_
    refine tw_iload_n 2 dX10_trip_10 rfl rfl ?_
    refine tw_bi (tw_callV (M := mX10_trip) (pc := 11) okX10_isNoCountry dX10_trip_11 w_1292 rfl f2 [.int b] [.ref x] rfl rfl ⟨by decide, by decide⟩ (Nat.le_of_ble_eq_true rfl) (c_X10_isNoCountry d g τ h sp0.1 x kx b) 0 0 (Nat.le_of_ble_eq_true rfl) (Nat.le_of_ble_eq_true rfl)) (fun r47 h46 q45 => ?_) (fun E h1 q => q.elim)
    obtain ⟨q45e, q45d⟩ := q45
    rw [q45e]
    rcases q45d with q45r | ⟨q45r, j48, q45j, q45k⟩
    · rw [q45r]
      refine tw_if_eq 21 dX10_trip_14 (by decide) (fun c49 => absurd c49 (by decide)) (fun _ => ?_)
      refine tw_iconst (v := 1) dX10_trip_17 (by decide) ?_
      refine tw_goto 22 dX10_trip_18 (by decide) ?_
      refine tw_iconst (v := 1) dX10_trip_22 (by decide) ?_
      refine tw_bi (tw_callV (M := mX10_trip) (pc := 23) okX10_start dX10_trip_23 w_1200 rfl f2 [.int 1, .int 1] [] rfl rfl ⟨by decide, by decide⟩ (Nat.le_of_ble_eq_true rfl) (c_X10_start d g τ h sp0.1 x kx 1 1 (by decide)) 0 0 (Nat.le_of_ble_eq_true rfl) (Nat.le_of_ble_eq_true rfl)) (fun r52 h51 q50 => ?_) (fun E h1 q => q.elim)
      obtain ⟨e53, he54, hs55, hr56, h357⟩ := q50
      have sp58 : tw_sp d τ h g τ h51 := by rw [he54]; exact sp0.set kx (by decide) hs55
      rcases hr56 with ei59 | ⟨ei59, ei59b⟩
      · rw [ei59]
        refine tw_if_ne 65 dX10_trip_26 (by decide) (fun _ => ?_) (fun c60 => absurd c60 (by decide))
        refine tw_iconst (v := 0) dX10_trip_65 (by decide) ?_
        refine tw_goto 80 dX10_trip_66 (by decide) ?_
        exact tw_iret dX10_trip_80 rfl (Or.inl ⟨_, rfl, sp58⟩)
      · exact absurd ei59b (by decide)
    · rw [q45r]
      subst q45k
      refine tw_if_eq 21 dX10_trip_14 (by decide) (fun _ => ?_) (fun c61 => absurd (by decide) c61)
      refine tw_iconst (v := 0) dX10_trip_21 (by decide) ?_
      refine tw_iconst (v := 1) dX10_trip_22 (by decide) ?_
      refine tw_bi (tw_callV (M := mX10_trip) (pc := 23) okX10_start dX10_trip_23 w_1200 rfl f2 [.int 0, .int 1] [] rfl rfl ⟨by decide, by decide⟩ (Nat.le_of_ble_eq_true rfl) (c_X10_start d g τ h sp0.1 x kx 0 1 (by decide)) 0 0 (Nat.le_of_ble_eq_true rfl) (Nat.le_of_ble_eq_true rfl)) (fun r64 h63 q62 => ?_) (fun E h1 q => q.elim)
      obtain ⟨e65, he66, hs67, hr68, h369⟩ := q62
      have sp70 : tw_sp d τ h g τ h63 := by rw [he66]; exact sp0.set kx (by decide) hs67
      rcases hr68 with ei71 | ⟨ei71, ei71b⟩
      · rw [ei71]
        refine tw_if_ne 65 dX10_trip_26 (by decide) (fun _ => ?_) (fun c72 => absurd c72 (by decide))
        refine tw_iconst (v := 0) dX10_trip_65 (by decide) ?_
        refine tw_goto 80 dX10_trip_66 (by decide) ?_
        exact tw_iret dX10_trip_80 rfl (Or.inl ⟨_, rfl, sp70⟩)
      · rw [ei71]
        refine tw_if_ne 65 dX10_trip_26 (by decide) (fun c73 => absurd (by decide) c73) (fun _ => ?_)
        refine tw_aload_n 0 dX10_trip_29 rfl rfl ?_
        refine tw_iload_n 1 dX10_trip_30 rfl rfl ?_
        refine tw_iload_n 2 dX10_trip_31 rfl rfl ?_
        refine tw_icmp_eq 53 dX10_trip_32 (by decide) (fun c74 => ?_) (fun c74 => ?_)
        · refine tw_iconst (v := 1) dX10_trip_53 (by decide) ?_
          refine tw_goto 58 dX10_trip_54 (by decide) ?_
          refine tw_iconst (v := 2) dX10_trip_58 (by decide) ?_
          obtain ⟨e75, f76, th_77, td_78, ds_79, fr_80, ca_81, us_82, wo_83, cm_84, lc_85, lh_86, ld_87, rfl, k88, k89, k90, k91, k92, k93, k94, k95, k96, k97, k98, k99, k100, k101⟩ := sp70.1 x 36 kx (by decide)
          refine tw_bi (tw_callV (M := mX10_trip) (pc := 59) okX10_refuse dX10_trip_59 w_1204 rfl f76 [.int 1, .int 2] [] rfl rfl ⟨by decide, by decide⟩ (Nat.le_of_ble_eq_true rfl) (c_X10_refuse d g τ h63 sp70.1 x kx 1 2 (by decide)) 0 0 (Nat.le_of_ble_eq_true rfl) (Nat.le_of_ble_eq_true rfl)) (fun r104 h103 q102 => ?_) (fun E h1 q => q.elim)
          obtain ⟨e105, he106, hs107, hr108, h3109⟩ := q102
          have sp110 : tw_sp d τ h g τ h103 := by rw [he106]; exact sp70.set kx (by decide) hs107
          rcases hr108 with ei111 | ⟨ei111, ei111b⟩
          · rw [ei111]
            refine tw_if_eq 69 dX10_trip_62 (by decide) (fun c112 => absurd c112 (by decide)) (fun _ => ?_)
            refine tw_iconst (v := 0) dX10_trip_65 (by decide) ?_
            refine tw_goto 80 dX10_trip_66 (by decide) ?_
            exact tw_iret dX10_trip_80 rfl (Or.inl ⟨_, rfl, sp110⟩)
          · exact absurd ei111b (by decide)
        · refine tw_iload_n 3 dX10_trip_35 rfl rfl ?_
          refine tw_bi (tw_callS (M := mX10_trip) (pc := 36) okX10_isNoMetal dX10_trip_36 w_1312 [.int m] [.ref x] rfl rfl ⟨by decide, by decide⟩ (Nat.le_of_ble_eq_true rfl) (c_X10_isNoMetal d g τ h63 sp70.1 m) 0 0 (Nat.le_of_ble_eq_true rfl) (Nat.le_of_ble_eq_true rfl)) (fun r115 h114 q113 => ?_) (fun E h1 q => q.elim)
          obtain ⟨q113e, q113d⟩ := q113
          rw [q113e]
          rcases q113d with q113r | ⟨q113r, q113m⟩
          · rw [q113r]
            refine tw_if_ne 53 dX10_trip_39 (by decide) (fun _ => ?_) (fun c116 => absurd c116 (by decide))
            refine tw_iconst (v := 1) dX10_trip_53 (by decide) ?_
            refine tw_goto 58 dX10_trip_54 (by decide) ?_
            refine tw_iconst (v := 2) dX10_trip_58 (by decide) ?_
            obtain ⟨e117, f118, th_119, td_120, ds_121, fr_122, ca_123, us_124, wo_125, cm_126, lc_127, lh_128, ld_129, rfl, k130, k131, k132, k133, k134, k135, k136, k137, k138, k139, k140, k141, k142, k143⟩ := sp70.1 x 36 kx (by decide)
            refine tw_bi (tw_callV (M := mX10_trip) (pc := 59) okX10_refuse dX10_trip_59 w_1204 rfl f118 [.int 1, .int 2] [] rfl rfl ⟨by decide, by decide⟩ (Nat.le_of_ble_eq_true rfl) (c_X10_refuse d g τ h63 sp70.1 x kx 1 2 (by decide)) 0 0 (Nat.le_of_ble_eq_true rfl) (Nat.le_of_ble_eq_true rfl)) (fun r146 h145 q144 => ?_) (fun E h1 q => q.elim)
            obtain ⟨e147, he148, hs149, hr150, h3151⟩ := q144
            have sp152 : tw_sp d τ h g τ h145 := by rw [he148]; exact sp70.set kx (by decide) hs149
            rcases hr150 with ei153 | ⟨ei153, ei153b⟩
            · rw [ei153]
              refine tw_if_eq 69 dX10_trip_62 (by decide) (fun c154 => absurd c154 (by decide)) (fun _ => ?_)
              refine tw_iconst (v := 0) dX10_trip_65 (by decide) ?_
              refine tw_goto 80 dX10_trip_66 (by decide) ?_
              exact tw_iret dX10_trip_80 rfl (Or.inl ⟨_, rfl, sp152⟩)
            · exact absurd ei153b (by decide)
          · rw [q113r]
            refine tw_if_ne 53 dX10_trip_39 (by decide) (fun c155 => absurd (by decide) c155) (fun _ => ?_)
            refine tw_iload 4 dX10_trip_42 rfl ?_
            refine tw_iconst (v := 0) dX10_trip_44 (by decide) ?_
            refine tw_ldc (v := 99999) dX10_trip_45 w_1199 ?_
            refine tw_bi (tw_callS (M := mX10_trip) (pc := 47) okX10_isIn dX10_trip_47 w_1196 [.int gr, .int 0, .int 99999] [.ref x] rfl rfl ⟨by decide, by decide⟩ (Nat.le_of_ble_eq_true rfl) (c_X10_isIn d g τ h63 sp70.1 gr 0 99999) 0 0 (Nat.le_of_ble_eq_true rfl) (Nat.le_of_ble_eq_true rfl)) (fun r158 h157 q156 => ?_) (fun E h1 q => q.elim)
            obtain ⟨q156e, q156d⟩ := q156
            rw [q156e]
            rcases q156d with ⟨q156r, q156n⟩ | ⟨q156r, q156a, q156b⟩
            · rw [q156r]
              refine tw_if_ne 57 dX10_trip_50 (by decide) (fun c159 => absurd (by decide) c159) (fun _ => ?_)
              refine tw_iconst (v := 1) dX10_trip_53 (by decide) ?_
              refine tw_goto 58 dX10_trip_54 (by decide) ?_
              refine tw_iconst (v := 2) dX10_trip_58 (by decide) ?_
              obtain ⟨e160, f161, th_162, td_163, ds_164, fr_165, ca_166, us_167, wo_168, cm_169, lc_170, lh_171, ld_172, rfl, k173, k174, k175, k176, k177, k178, k179, k180, k181, k182, k183, k184, k185, k186⟩ := sp70.1 x 36 kx (by decide)
              refine tw_bi (tw_callV (M := mX10_trip) (pc := 59) okX10_refuse dX10_trip_59 w_1204 rfl f161 [.int 1, .int 2] [] rfl rfl ⟨by decide, by decide⟩ (Nat.le_of_ble_eq_true rfl) (c_X10_refuse d g τ h63 sp70.1 x kx 1 2 (by decide)) 0 0 (Nat.le_of_ble_eq_true rfl) (Nat.le_of_ble_eq_true rfl)) (fun r189 h188 q187 => ?_) (fun E h1 q => q.elim)
              obtain ⟨e190, he191, hs192, hr193, h3194⟩ := q187
              have sp195 : tw_sp d τ h g τ h188 := by rw [he191]; exact sp70.set kx (by decide) hs192
              rcases hr193 with ei196 | ⟨ei196, ei196b⟩
              · rw [ei196]
                refine tw_if_eq 69 dX10_trip_62 (by decide) (fun c197 => absurd c197 (by decide)) (fun _ => ?_)
                refine tw_iconst (v := 0) dX10_trip_65 (by decide) ?_
                refine tw_goto 80 dX10_trip_66 (by decide) ?_
                exact tw_iret dX10_trip_80 rfl (Or.inl ⟨_, rfl, sp195⟩)
              · exact absurd ei196b (by decide)
            · rw [q156r]
              refine tw_if_ne 57 dX10_trip_50 (by decide) (fun _ => ?_) (fun c198 => absurd c198 (by decide))
              refine tw_iconst (v := 0) dX10_trip_57 (by decide) ?_
              refine tw_iconst (v := 2) dX10_trip_58 (by decide) ?_
              obtain ⟨e199, f200, th_201, td_202, ds_203, fr_204, ca_205, us_206, wo_207, cm_208, lc_209, lh_210, ld_211, rfl, k212, k213, k214, k215, k216, k217, k218, k219, k220, k221, k222, k223, k224, k225⟩ := sp70.1 x 36 kx (by decide)
              refine tw_bi (tw_callV (M := mX10_trip) (pc := 59) okX10_refuse dX10_trip_59 w_1204 rfl f200 [.int 0, .int 2] [] rfl rfl ⟨by decide, by decide⟩ (Nat.le_of_ble_eq_true rfl) (c_X10_refuse d g τ h63 sp70.1 x kx 0 2 (by decide)) 0 0 (Nat.le_of_ble_eq_true rfl) (Nat.le_of_ble_eq_true rfl)) (fun r228 h227 q226 => ?_) (fun E h1 q => q.elim)
              obtain ⟨e229, he230, hs231, hr232, h3233⟩ := q226
              have sp234 : tw_sp d τ h g τ h227 := by rw [he230]; exact sp70.set kx (by decide) hs231
              rcases hr232 with ei235 | ⟨ei235, ei235b⟩
              · rw [ei235]
                refine tw_if_eq 69 dX10_trip_62 (by decide) (fun c236 => absurd c236 (by decide)) (fun _ => ?_)
                refine tw_iconst (v := 0) dX10_trip_65 (by decide) ?_
                refine tw_goto 80 dX10_trip_66 (by decide) ?_
                exact tw_iret dX10_trip_80 rfl (Or.inl ⟨_, rfl, sp234⟩)
              · rw [ei235]
                refine tw_if_eq 69 dX10_trip_62 (by decide) (fun _ => ?_) (fun c237 => absurd (by decide) c237)
                refine tw_aload_n 0 dX10_trip_69 rfl rfl ?_
                refine tw_iload_n 1 dX10_trip_70 rfl rfl ?_
                refine tw_iload_n 2 dX10_trip_71 rfl rfl ?_
                refine tw_iload_n 3 dX10_trip_72 rfl rfl ?_
                refine tw_iload 4 dX10_trip_73 rfl ?_
                refine tw_i2l dX10_trip_75 ?_
                refine tw_nml (fun v238 ev238 => ?_)
                obtain ⟨e239, f240, th_241, td_242, ds_243, fr_244, ca_245, us_246, wo_247, cm_248, lc_249, lh_250, ld_251, rfl, k252, k253, k254, k255, k256, k257, k258, k259, k260, k261, k262, k263, k264, k265⟩ := sp234.1 x 36 kx (by decide)
                refine tw_bl (tw_callV (M := mX10_trip) (pc := 76) okX10_tripNow dX10_trip_76 w_1557 rfl f240 [.int (nI j31), .int (nI j48), .int m, .long v238] [] rfl rfl ⟨by decide, by decide⟩ (Nat.le_of_ble_eq_true rfl) (c_X10_tripNow d g τ h227 sp234.1 x kx m v238 j31 j48 (by omega) (by omega)) 0 0 (Nat.le_of_ble_eq_true rfl) (Nat.le_of_ble_eq_true rfl)) (fun r268 h267 q266 => ?_) (fun E h1 q => q.elim)
                rw [q266]
                refine tw_l2i dX10_trip_79 ?_
                refine tw_nmi (fun v269 ev269 => ?_)
                exact tw_iret dX10_trip_80 rfl (Or.inl ⟨_, rfl, sp234⟩)

set_option maxHeartbeats 4000000 in
set_option maxRecDepth 100000 in
theorem c_X10_bestTripNow (d : tw_D) (g : tw_G) (τ : tw_K) (h : tw_H) (hw : tw_wt d g τ h) (x : Nat) (kx : τ x = 36) (m : Int32) (gr : Int32) (a : Nat) (ha : a < g.2 3) : tw_Ct d mX10_bestTripNow 0 0 [.ref x, .int (nI a), .int m, .int gr] h (tw_qi (fun r h1 => h1 = h) tw_nx) := by
  refine tw_of (by decide +kernel) (Nat.le_of_ble_eq_true rfl) ?_
  show tw_W d mX10_bestTripNow _ 0 [(0, .ref x), (1, .int (nI a)), (2, .int m), (3, .int gr)] [] h 0 0
  have sp0 := tw_sp.rf hw
  refine tw_iconst (v := -1) dX10_bestTripNow_0 (by decide) ?_
  refine tw_istore [(4, .int (-1)), (0, .ref x), (1, .int (nI a)), (2, .int m), (3, .int gr)] dX10_bestTripNow_1 (by decide) rfl ?_
  refine tw_iconst (v := 0) dX10_bestTripNow_3 (by decide) ?_
  refine tw_istore [(5, .int 0), (4, .int (-1)), (0, .ref x), (1, .int (nI a)), (2, .int m), (3, .int gr)] dX10_bestTripNow_4 (by decide) rfl ?_
  have L5 : ∀ (r3 k2 : Nat) (x1 : Int32) (li8 : (x1 = -1 ∨ ∃ i, i < g.2 3 ∧ x1 = nI i)), (g.2 3) + 1 ≤ k2 + r3 → k2 ≤ (g.2 3) → tw_W d mX10_bestTripNow (tw_qi (fun r h1 => h1 = h) tw_nx) 6 [(0, .ref x), (1, .int (nI a)), (2, .int m), (3, .int gr), (4, .int x1), (5, .int (nI k2))] [] h 0 0 := by
    intro r3
    induction r3 with
    | zero => intro k2 x1 li8 hk9 hk10; exact absurd hk9 (by omega)
    | succ r3 ih4 =>
      intro k2 x1 li8 hk9 hk10
      refine tw_iload 5 dX10_bestTripNow_6 rfl ?_
      refine tw_aload_n 0 dX10_bestTripNow_8 rfl rfl ?_
      obtain ⟨e11, f12, th_13, td_14, ds_15, fr_16, ca_17, us_18, wo_19, cm_20, lc_21, lh_22, ld_23, rfl, k24, k25, k26, k27, k28, k29, k30, k31, k32, k33, k34, k35, k36, k37⟩ := sp0.1 x 36 kx (by decide)
      refine tw_get (v := .ref lc_21) rfl in_14 9 dX10_bestTripNow_9 w_1160 rfl (by decide) f12 rfl ?_
      obtain ⟨e38, f39, ⟨el40, rfl, k41⟩, k42⟩ := sp0.1 lc_21 24 k30 (by decide)
      refine tw_bi (tw_callV (M := mX10_bestTripNow) (pc := 12) okJx4a65c_size_8abf5 dX10_bestTripNow_12 w_1208 rfl f39 [] [.int (nI k2)] rfl rfl ⟨by decide, by decide⟩ (Nat.le_of_ble_eq_true rfl) (c24_size d g τ h sp0.1 lc_21 k30) 0 0 (Nat.le_of_ble_eq_true rfl) (Nat.le_of_ble_eq_true rfl)) (fun r45 h44 q43 => ?_) (fun E h1 q => q.elim)
      obtain ⟨q43e, q43r⟩ := q43
      rw [q43e, q43r]
      refine tw_icmp_ge 83 dX10_bestTripNow_15 (by decide) (fun c46 => ?_) (fun c46 => ?_)
      · refine tw_iload 4 dX10_bestTripNow_83 rfl ?_
        exact tw_iret dX10_bestTripNow_85 rfl (Or.inl ⟨_, rfl, rfl⟩)
      · have kl47 : k2 < (g.2 3) := tw_klt (N := (g.2 3)) c46 hk10 (by omega)
        refine tw_iload 5 dX10_bestTripNow_18 rfl ?_
        refine tw_iload_n 1 dX10_bestTripNow_20 rfl rfl ?_
        refine tw_icmp_eq 77 dX10_bestTripNow_21 (by decide) (fun c48 => ?_) (fun c48 => ?_)
        · obtain ⟨v49, ev49⟩ : ∃ y : Int32, y = (nI k2) + 1 := ⟨_, rfl⟩
          refine tw_iinc [(5, .int v49), (0, .ref x), (1, .int (nI a)), (2, .int m), (3, .int gr), (4, .int x1)] 5 dX10_bestTripNow_77 rfl (by rw [ev49]; rfl) (by decide) rfl ?_
          refine tw_goto 6 dX10_bestTripNow_80 (by decide) ?_
          have qv49 := tw_nI3 ev49
          rw [qv49]
          refine tw_lv [1, 2, 3, 4, 5, 0] rfl ?_
          exact ih4 (k2 + 1) x1 (li8) (by omega) (by omega)
        · refine tw_aload_n 0 dX10_bestTripNow_24 rfl rfl ?_
          refine tw_iload_n 1 dX10_bestTripNow_25 rfl rfl ?_
          refine tw_iload 5 dX10_bestTripNow_26 rfl ?_
          refine tw_iload_n 2 dX10_bestTripNow_28 rfl rfl ?_
          refine tw_iload_n 3 dX10_bestTripNow_29 rfl rfl ?_
          refine tw_i2l dX10_bestTripNow_30 ?_
          refine tw_nml (fun v50 ev50 => ?_)
          refine tw_bl (tw_callV (M := mX10_bestTripNow) (pc := 31) okX10_tripNow dX10_bestTripNow_31 w_1557 rfl f12 [.int (nI a), .int (nI k2), .int m, .long v50] [] rfl rfl ⟨by decide, by decide⟩ (Nat.le_of_ble_eq_true rfl) (c_X10_tripNow d g τ h sp0.1 x kx m v50 a k2 (by omega) (by omega)) 0 0 (Nat.le_of_ble_eq_true rfl) (Nat.le_of_ble_eq_true rfl)) (fun r53 h52 q51 => ?_) (fun E h1 q => q.elim)
          rw [q51]
          refine tw_iload_n 3 dX10_bestTripNow_34 rfl rfl ?_
          refine tw_i2l dX10_bestTripNow_35 ?_
          refine tw_nml (fun v54 ev54 => ?_)
          refine tw_lcmp dX10_bestTripNow_36 ?_
          refine tw_nmi (fun v55 ev55 => ?_)
          refine tw_if_gt 43 dX10_bestTripNow_37 (by decide) (fun c56 => ?_) (fun c56 => ?_)
          · refine tw_iload 4 dX10_bestTripNow_43 rfl ?_
            refine tw_iconst (v := -1) dX10_bestTripNow_45 (by decide) ?_
            refine tw_icmp_eq 73 dX10_bestTripNow_46 (by decide) (fun c57 => ?_) (fun c57 => ?_)
            · refine tw_iload 5 dX10_bestTripNow_73 rfl ?_
              refine tw_istore [(4, .int (nI k2)), (0, .ref x), (1, .int (nI a)), (2, .int m), (3, .int gr), (5, .int (nI k2))] dX10_bestTripNow_75 (by decide) rfl ?_
              obtain ⟨v58, ev58⟩ : ∃ y : Int32, y = (nI k2) + 1 := ⟨_, rfl⟩
              refine tw_iinc [(5, .int v58), (4, .int (nI k2)), (0, .ref x), (1, .int (nI a)), (2, .int m), (3, .int gr)] 5 dX10_bestTripNow_77 rfl (by rw [ev58]; rfl) (by decide) rfl ?_
              refine tw_goto 6 dX10_bestTripNow_80 (by decide) ?_
              have qv58 := tw_nI3 ev58
              rw [qv58]
              refine tw_lv [2, 3, 4, 5, 1, 0] rfl ?_
              exact ih4 (k2 + 1) (nI k2) (Or.inr ⟨_, by omega, rfl⟩) (by omega) (by omega)
            · refine tw_aload_n 0 dX10_bestTripNow_49 rfl rfl ?_
              refine tw_iload_n 1 dX10_bestTripNow_50 rfl rfl ?_
              refine tw_iload 5 dX10_bestTripNow_51 rfl ?_
              refine tw_iload_n 2 dX10_bestTripNow_53 rfl rfl ?_
              refine tw_iload_n 3 dX10_bestTripNow_54 rfl rfl ?_
              refine tw_i2l dX10_bestTripNow_55 ?_
              refine tw_nml (fun v59 ev59 => ?_)
              refine tw_bl (tw_callV (M := mX10_bestTripNow) (pc := 56) okX10_tripNow dX10_bestTripNow_56 w_1557 rfl f12 [.int (nI a), .int (nI k2), .int m, .long v59] [] rfl rfl ⟨by decide, by decide⟩ (Nat.le_of_ble_eq_true rfl) (c_X10_tripNow d g τ h sp0.1 x kx m v59 a k2 (by omega) (by omega)) 0 0 (Nat.le_of_ble_eq_true rfl) (Nat.le_of_ble_eq_true rfl)) (fun r62 h61 q60 => ?_) (fun E h1 q => q.elim)
              rw [q60]
              refine tw_aload_n 0 dX10_bestTripNow_59 rfl rfl ?_
              refine tw_iload_n 1 dX10_bestTripNow_60 rfl rfl ?_
              refine tw_iload 4 dX10_bestTripNow_61 rfl ?_
              refine tw_iload_n 2 dX10_bestTripNow_63 rfl rfl ?_
              refine tw_iload_n 3 dX10_bestTripNow_64 rfl rfl ?_
              refine tw_i2l dX10_bestTripNow_65 ?_
              refine tw_nml (fun v63 ev63 => ?_)
              obtain ⟨j64, hj65, ej66⟩ := li8.resolve_left c57
              subst ej66
              refine tw_bl (tw_callV (M := mX10_bestTripNow) (pc := 66) okX10_tripNow dX10_bestTripNow_66 w_1557 rfl f12 [.int (nI a), .int (nI j64), .int m, .long v63] [.long r62] rfl rfl ⟨by decide, by decide⟩ (Nat.le_of_ble_eq_true rfl) (c_X10_tripNow d g τ h sp0.1 x kx m v63 a j64 (by omega) (by omega)) 0 0 (Nat.le_of_ble_eq_true rfl) (Nat.le_of_ble_eq_true rfl)) (fun r69 h68 q67 => ?_) (fun E h1 q => q.elim)
              rw [q67]
              refine tw_lcmp dX10_bestTripNow_69 ?_
              refine tw_nmi (fun v70 ev70 => ?_)
              refine tw_if_le 77 dX10_bestTripNow_70 (by decide) (fun c71 => ?_) (fun c71 => ?_)
              · obtain ⟨v72, ev72⟩ : ∃ y : Int32, y = (nI k2) + 1 := ⟨_, rfl⟩
                refine tw_iinc [(5, .int v72), (0, .ref x), (1, .int (nI a)), (2, .int m), (3, .int gr), (4, .int (nI j64))] 5 dX10_bestTripNow_77 rfl (by rw [ev72]; rfl) (by decide) rfl ?_
                refine tw_goto 6 dX10_bestTripNow_80 (by decide) ?_
                have qv72 := tw_nI3 ev72
                rw [qv72]
                refine tw_lv [1, 2, 3, 4, 5, 0] rfl ?_
                exact ih4 (k2 + 1) (nI j64) (Or.inr ⟨_, by omega, rfl⟩) (by omega) (by omega)
              · refine tw_iload 5 dX10_bestTripNow_73 rfl ?_
                refine tw_istore [(4, .int (nI k2)), (0, .ref x), (1, .int (nI a)), (2, .int m), (3, .int gr), (5, .int (nI k2))] dX10_bestTripNow_75 (by decide) rfl ?_
                obtain ⟨v73, ev73⟩ : ∃ y : Int32, y = (nI k2) + 1 := ⟨_, rfl⟩
                refine tw_iinc [(5, .int v73), (4, .int (nI k2)), (0, .ref x), (1, .int (nI a)), (2, .int m), (3, .int gr)] 5 dX10_bestTripNow_77 rfl (by rw [ev73]; rfl) (by decide) rfl ?_
                refine tw_goto 6 dX10_bestTripNow_80 (by decide) ?_
                have qv73 := tw_nI3 ev73
                rw [qv73]
                refine tw_lv [2, 3, 4, 5, 1, 0] rfl ?_
                exact ih4 (k2 + 1) (nI k2) (Or.inr ⟨_, by omega, rfl⟩) (by omega) (by omega)
          · refine tw_goto 77 dX10_bestTripNow_40 (by decide) ?_
            obtain ⟨v74, ev74⟩ : ∃ y : Int32, y = (nI k2) + 1 := ⟨_, rfl⟩
            refine tw_iinc [(5, .int v74), (0, .ref x), (1, .int (nI a)), (2, .int m), (3, .int gr), (4, .int x1)] 5 dX10_bestTripNow_77 rfl (by rw [ev74]; rfl) (by decide) rfl ?_
            refine tw_goto 6 dX10_bestTripNow_80 (by decide) ?_
            have qv74 := tw_nI3 ev74
            rw [qv74]
            refine tw_lv [1, 2, 3, 4, 5, 0] rfl ?_
            exact ih4 (k2 + 1) x1 (li8) (by omega) (by omega)
  refine tw_lv [2, 3, 4, 5, 1, 0] rfl ?_
  exact L5 ((g.2 3) + 1) 0 (-1) (Or.inl rfl) (by omega) (by omega)

set_option maxHeartbeats 4000000 in
set_option maxRecDepth 100000 in
theorem c_X10_bestTrip (d : tw_D) (g : tw_G) (τ : tw_K) (h : tw_H) (hw : tw_wt d g τ h) (x : Nat) (kx : τ x = 36) (a : Int32) (m : Int32) (gr : Int32) : tw_Ct d mX10_bestTrip 0 0 [.ref x, .int a, .int m, .int gr] h (tw_qi (fun r h1 => tw_sp d τ h g τ h1) tw_nx) := by
  refine tw_of (by decide +kernel) (Nat.le_of_ble_eq_true rfl) ?_
  show tw_W d mX10_bestTrip _ 0 [(0, .ref x), (1, .int a), (2, .int m), (3, .int gr)] [] h 0 0
  have sp0 := tw_sp.rf hw
  refine tw_aload_n 0 dX10_bestTrip_0 rfl rfl ?_
  refine tw_aload_n 0 dX10_bestTrip_1 rfl rfl ?_
  refine tw_iload_n 1 dX10_bestTrip_2 rfl rfl ?_
  obtain ⟨e1, f2, th_3, td_4, ds_5, fr_6, ca_7, us_8, wo_9, cm_10, lc_11, lh_12, ld_13, rfl, k14, k15, k16, k17, k18, k19, k20, k21, k22, k23, k24, k25, k26, k27⟩ := sp0.1 x 36 kx (by decide)
  refine tw_bi (tw_callV (M := mX10_bestTrip) (pc := 3) okX10_isNoCountry dX10_bestTrip_3 w_1292 rfl f2 [.int a] [.ref x] rfl rfl ⟨by decide, by decide⟩ (Nat.le_of_ble_eq_true rfl) (c_X10_isNoCountry d g τ h sp0.1 x kx a) 0 0 (Nat.le_of_ble_eq_true rfl) (Nat.le_of_ble_eq_true rfl)) (fun r30 h29 q28 => ?_) (fun E h1 q => q.elim)
  obtain ⟨q28e, q28d⟩ := q28
  rw [q28e]
  rcases q28d with q28r | ⟨q28r, j31, q28j, q28k⟩
  · rw [q28r]
    refine tw_iconst (v := 1) dX10_bestTrip_6 (by decide) ?_
    refine tw_bi (tw_callV (M := mX10_bestTrip) (pc := 7) okX10_start dX10_bestTrip_7 w_1200 rfl f2 [.int 1, .int 1] [] rfl rfl ⟨by decide, by decide⟩ (Nat.le_of_ble_eq_true rfl) (c_X10_start d g τ h sp0.1 x kx 1 1 (by decide)) 0 0 (Nat.le_of_ble_eq_true rfl) (Nat.le_of_ble_eq_true rfl)) (fun r34 h33 q32 => ?_) (fun E h1 q => q.elim)
    obtain ⟨e35, he36, hs37, hr38, h339⟩ := q32
    have sp40 : tw_sp d τ h g τ h33 := by rw [he36]; exact sp0.set kx (by decide) hs37
    rcases hr38 with ei41 | ⟨ei41, ei41b⟩
    · rw [ei41]
      refine tw_if_ne 43 dX10_bestTrip_10 (by decide) (fun _ => ?_) (fun c42 => absurd c42 (by decide))
      refine tw_iconst (v := 0) dX10_bestTrip_43 (by decide) ?_
      refine tw_goto 54 dX10_bestTrip_44 (by decide) ?_
      exact tw_iret dX10_bestTrip_54 rfl (Or.inl ⟨_, rfl, sp40⟩)
    · exact absurd ei41b (by decide)
  · rw [q28r]
    subst q28k
    refine tw_iconst (v := 1) dX10_bestTrip_6 (by decide) ?_
    refine tw_bi (tw_callV (M := mX10_bestTrip) (pc := 7) okX10_start dX10_bestTrip_7 w_1200 rfl f2 [.int 0, .int 1] [] rfl rfl ⟨by decide, by decide⟩ (Nat.le_of_ble_eq_true rfl) (c_X10_start d g τ h sp0.1 x kx 0 1 (by decide)) 0 0 (Nat.le_of_ble_eq_true rfl) (Nat.le_of_ble_eq_true rfl)) (fun r45 h44 q43 => ?_) (fun E h1 q => q.elim)
    obtain ⟨e46, he47, hs48, hr49, h350⟩ := q43
    have sp51 : tw_sp d τ h g τ h44 := by rw [he47]; exact sp0.set kx (by decide) hs48
    rcases hr49 with ei52 | ⟨ei52, ei52b⟩
    · rw [ei52]
      refine tw_if_ne 43 dX10_bestTrip_10 (by decide) (fun _ => ?_) (fun c53 => absurd c53 (by decide))
      refine tw_iconst (v := 0) dX10_bestTrip_43 (by decide) ?_
      refine tw_goto 54 dX10_bestTrip_44 (by decide) ?_
      exact tw_iret dX10_bestTrip_54 rfl (Or.inl ⟨_, rfl, sp51⟩)
    · rw [ei52]
      refine tw_if_ne 43 dX10_bestTrip_10 (by decide) (fun c54 => absurd (by decide) c54) (fun _ => ?_)
      refine tw_aload_n 0 dX10_bestTrip_13 rfl rfl ?_
      refine tw_iload_n 2 dX10_bestTrip_14 rfl rfl ?_
      refine tw_bi (tw_callS (M := mX10_bestTrip) (pc := 15) okX10_isNoMetal dX10_bestTrip_15 w_1312 [.int m] [.ref x] rfl rfl ⟨by decide, by decide⟩ (Nat.le_of_ble_eq_true rfl) (c_X10_isNoMetal d g τ h44 sp51.1 m) 0 0 (Nat.le_of_ble_eq_true rfl) (Nat.le_of_ble_eq_true rfl)) (fun r57 h56 q55 => ?_) (fun E h1 q => q.elim)
      obtain ⟨q55e, q55d⟩ := q55
      rw [q55e]
      rcases q55d with q55r | ⟨q55r, q55m⟩
      · rw [q55r]
        refine tw_if_ne 31 dX10_bestTrip_18 (by decide) (fun _ => ?_) (fun c58 => absurd c58 (by decide))
        refine tw_iconst (v := 1) dX10_bestTrip_31 (by decide) ?_
        refine tw_goto 36 dX10_bestTrip_32 (by decide) ?_
        refine tw_iconst (v := 2) dX10_bestTrip_36 (by decide) ?_
        obtain ⟨e59, f60, th_61, td_62, ds_63, fr_64, ca_65, us_66, wo_67, cm_68, lc_69, lh_70, ld_71, rfl, k72, k73, k74, k75, k76, k77, k78, k79, k80, k81, k82, k83, k84, k85⟩ := sp51.1 x 36 kx (by decide)
        refine tw_bi (tw_callV (M := mX10_bestTrip) (pc := 37) okX10_refuse dX10_bestTrip_37 w_1204 rfl f60 [.int 1, .int 2] [] rfl rfl ⟨by decide, by decide⟩ (Nat.le_of_ble_eq_true rfl) (c_X10_refuse d g τ h44 sp51.1 x kx 1 2 (by decide)) 0 0 (Nat.le_of_ble_eq_true rfl) (Nat.le_of_ble_eq_true rfl)) (fun r88 h87 q86 => ?_) (fun E h1 q => q.elim)
        obtain ⟨e89, he90, hs91, hr92, h393⟩ := q86
        have sp94 : tw_sp d τ h g τ h87 := by rw [he90]; exact sp51.set kx (by decide) hs91
        rcases hr92 with ei95 | ⟨ei95, ei95b⟩
        · rw [ei95]
          refine tw_if_eq 47 dX10_bestTrip_40 (by decide) (fun c96 => absurd c96 (by decide)) (fun _ => ?_)
          refine tw_iconst (v := 0) dX10_bestTrip_43 (by decide) ?_
          refine tw_goto 54 dX10_bestTrip_44 (by decide) ?_
          exact tw_iret dX10_bestTrip_54 rfl (Or.inl ⟨_, rfl, sp94⟩)
        · exact absurd ei95b (by decide)
      · rw [q55r]
        refine tw_if_ne 31 dX10_bestTrip_18 (by decide) (fun c97 => absurd (by decide) c97) (fun _ => ?_)
        refine tw_iload_n 3 dX10_bestTrip_21 rfl rfl ?_
        refine tw_iconst (v := 0) dX10_bestTrip_22 (by decide) ?_
        refine tw_ldc (v := 99999) dX10_bestTrip_23 w_1199 ?_
        refine tw_bi (tw_callS (M := mX10_bestTrip) (pc := 25) okX10_isIn dX10_bestTrip_25 w_1196 [.int gr, .int 0, .int 99999] [.ref x] rfl rfl ⟨by decide, by decide⟩ (Nat.le_of_ble_eq_true rfl) (c_X10_isIn d g τ h44 sp51.1 gr 0 99999) 0 0 (Nat.le_of_ble_eq_true rfl) (Nat.le_of_ble_eq_true rfl)) (fun r100 h99 q98 => ?_) (fun E h1 q => q.elim)
        obtain ⟨q98e, q98d⟩ := q98
        rw [q98e]
        rcases q98d with ⟨q98r, q98n⟩ | ⟨q98r, q98a, q98b⟩
        · rw [q98r]
          refine tw_if_ne 35 dX10_bestTrip_28 (by decide) (fun c101 => absurd (by decide) c101) (fun _ => ?_)
          refine tw_iconst (v := 1) dX10_bestTrip_31 (by decide) ?_
          refine tw_goto 36 dX10_bestTrip_32 (by decide) ?_
          refine tw_iconst (v := 2) dX10_bestTrip_36 (by decide) ?_
          obtain ⟨e102, f103, th_104, td_105, ds_106, fr_107, ca_108, us_109, wo_110, cm_111, lc_112, lh_113, ld_114, rfl, k115, k116, k117, k118, k119, k120, k121, k122, k123, k124, k125, k126, k127, k128⟩ := sp51.1 x 36 kx (by decide)
          refine tw_bi (tw_callV (M := mX10_bestTrip) (pc := 37) okX10_refuse dX10_bestTrip_37 w_1204 rfl f103 [.int 1, .int 2] [] rfl rfl ⟨by decide, by decide⟩ (Nat.le_of_ble_eq_true rfl) (c_X10_refuse d g τ h44 sp51.1 x kx 1 2 (by decide)) 0 0 (Nat.le_of_ble_eq_true rfl) (Nat.le_of_ble_eq_true rfl)) (fun r131 h130 q129 => ?_) (fun E h1 q => q.elim)
          obtain ⟨e132, he133, hs134, hr135, h3136⟩ := q129
          have sp137 : tw_sp d τ h g τ h130 := by rw [he133]; exact sp51.set kx (by decide) hs134
          rcases hr135 with ei138 | ⟨ei138, ei138b⟩
          · rw [ei138]
            refine tw_if_eq 47 dX10_bestTrip_40 (by decide) (fun c139 => absurd c139 (by decide)) (fun _ => ?_)
            refine tw_iconst (v := 0) dX10_bestTrip_43 (by decide) ?_
            refine tw_goto 54 dX10_bestTrip_44 (by decide) ?_
            exact tw_iret dX10_bestTrip_54 rfl (Or.inl ⟨_, rfl, sp137⟩)
          · exact absurd ei138b (by decide)
        · rw [q98r]
          refine tw_if_ne 35 dX10_bestTrip_28 (by decide) (fun _ => ?_) (fun c140 => absurd c140 (by decide))
          refine tw_iconst (v := 0) dX10_bestTrip_35 (by decide) ?_
          refine tw_iconst (v := 2) dX10_bestTrip_36 (by decide) ?_
          obtain ⟨e141, f142, th_143, td_144, ds_145, fr_146, ca_147, us_148, wo_149, cm_150, lc_151, lh_152, ld_153, rfl, k154, k155, k156, k157, k158, k159, k160, k161, k162, k163, k164, k165, k166, k167⟩ := sp51.1 x 36 kx (by decide)
          refine tw_bi (tw_callV (M := mX10_bestTrip) (pc := 37) okX10_refuse dX10_bestTrip_37 w_1204 rfl f142 [.int 0, .int 2] [] rfl rfl ⟨by decide, by decide⟩ (Nat.le_of_ble_eq_true rfl) (c_X10_refuse d g τ h44 sp51.1 x kx 0 2 (by decide)) 0 0 (Nat.le_of_ble_eq_true rfl) (Nat.le_of_ble_eq_true rfl)) (fun r170 h169 q168 => ?_) (fun E h1 q => q.elim)
          obtain ⟨e171, he172, hs173, hr174, h3175⟩ := q168
          have sp176 : tw_sp d τ h g τ h169 := by rw [he172]; exact sp51.set kx (by decide) hs173
          rcases hr174 with ei177 | ⟨ei177, ei177b⟩
          · rw [ei177]
            refine tw_if_eq 47 dX10_bestTrip_40 (by decide) (fun c178 => absurd c178 (by decide)) (fun _ => ?_)
            refine tw_iconst (v := 0) dX10_bestTrip_43 (by decide) ?_
            refine tw_goto 54 dX10_bestTrip_44 (by decide) ?_
            exact tw_iret dX10_bestTrip_54 rfl (Or.inl ⟨_, rfl, sp176⟩)
          · rw [ei177]
            refine tw_if_eq 47 dX10_bestTrip_40 (by decide) (fun _ => ?_) (fun c179 => absurd (by decide) c179)
            refine tw_aload_n 0 dX10_bestTrip_47 rfl rfl ?_
            refine tw_iload_n 1 dX10_bestTrip_48 rfl rfl ?_
            refine tw_iload_n 2 dX10_bestTrip_49 rfl rfl ?_
            refine tw_iload_n 3 dX10_bestTrip_50 rfl rfl ?_
            obtain ⟨e180, f181, th_182, td_183, ds_184, fr_185, ca_186, us_187, wo_188, cm_189, lc_190, lh_191, ld_192, rfl, k193, k194, k195, k196, k197, k198, k199, k200, k201, k202, k203, k204, k205, k206⟩ := sp176.1 x 36 kx (by decide)
            refine tw_bi (tw_callV (M := mX10_bestTrip) (pc := 51) okX10_bestTripNow dX10_bestTrip_51 w_1565 rfl f181 [.int (nI j31), .int m, .int gr] [] rfl rfl ⟨by decide, by decide⟩ (Nat.le_of_ble_eq_true rfl) (c_X10_bestTripNow d g τ h169 sp176.1 x kx m gr j31 (by omega) ) 0 0 (Nat.le_of_ble_eq_true rfl) (Nat.le_of_ble_eq_true rfl)) (fun r209 h208 q207 => ?_) (fun E h1 q => q.elim)
            rw [q207]
            exact tw_iret dX10_bestTrip_54 rfl (Or.inl ⟨_, rfl, sp176⟩)

set_option maxHeartbeats 4000000 in
set_option maxRecDepth 100000 in
theorem c_X10_restNow (d : tw_D) (g : tw_G) (τ : tw_K) (h : tw_H) (hw : tw_wt d g τ h) (x : Nat) (kx : τ x = 36) (gr : Int32) : tw_Ct d mX10_restNow 0 0 [.ref x, .int gr] h (tw_qi (fun r h1 => h1 = h ∧ tw_01 r) tw_nx) := by
  refine tw_of (by decide +kernel) (Nat.le_of_ble_eq_true rfl) ?_
  show tw_W d mX10_restNow _ 0 [(0, .ref x), (1, .int gr)] [] h 0 0
  have sp0 := tw_sp.rf hw
  refine tw_iconst (v := 0) dX10_restNow_0 (by decide) ?_
  refine tw_istore_n [(2, .int 0), (0, .ref x), (1, .int gr)] dX10_restNow_1 rfl (by decide) rfl ?_
  have L4 : ∀ (r2 k1 : Nat), (g.2 3) + 1 ≤ k1 + r2 → k1 ≤ (g.2 3) → tw_W d mX10_restNow (tw_qi (fun r h1 => h1 = h ∧ tw_01 r) tw_nx) 2 [(0, .ref x), (1, .int gr), (2, .int (nI k1))] [] h 0 0 := by
    intro r2
    induction r2 with
    | zero => intro k1  hk8 hk9; exact absurd hk8 (by omega)
    | succ r2 ih3 =>
      intro k1  hk8 hk9
      refine tw_iload_n 2 dX10_restNow_2 rfl rfl ?_
      refine tw_aload_n 0 dX10_restNow_3 rfl rfl ?_
      obtain ⟨e10, f11, th_12, td_13, ds_14, fr_15, ca_16, us_17, wo_18, cm_19, lc_20, lh_21, ld_22, rfl, k23, k24, k25, k26, k27, k28, k29, k30, k31, k32, k33, k34, k35, k36⟩ := sp0.1 x 36 kx (by decide)
      refine tw_get (v := .ref lc_20) rfl in_14 9 dX10_restNow_4 w_1160 rfl (by decide) f11 rfl ?_
      obtain ⟨e37, f38, ⟨el39, rfl, k40⟩, k41⟩ := sp0.1 lc_20 24 k29 (by decide)
      refine tw_bi (tw_callV (M := mX10_restNow) (pc := 7) okJx4a65c_size_8abf5 dX10_restNow_7 w_1208 rfl f38 [] [.int (nI k1)] rfl rfl ⟨by decide, by decide⟩ (Nat.le_of_ble_eq_true rfl) (c24_size d g τ h sp0.1 lc_20 k29) 0 0 (Nat.le_of_ble_eq_true rfl) (Nat.le_of_ble_eq_true rfl)) (fun r44 h43 q42 => ?_) (fun E h1 q => q.elim)
      obtain ⟨q42e, q42r⟩ := q42
      rw [q42e, q42r]
      refine tw_icmp_ge 45 dX10_restNow_10 (by decide) (fun c45 => ?_) (fun c45 => ?_)
      · refine tw_iconst (v := 1) dX10_restNow_45 (by decide) ?_
        exact tw_zret dX10_restNow_46 rfl rfl (Or.inl ⟨_, rfl, ⟨rfl, (by unfold tw_01; decide)⟩⟩)
      · have kl46 : k1 < (g.2 3) := tw_klt (N := (g.2 3)) c45 hk9 (by omega)
        refine tw_iconst (v := 0) dX10_restNow_13 (by decide) ?_
        refine tw_istore_n [(3, .int 0), (0, .ref x), (1, .int gr), (2, .int (nI k1))] dX10_restNow_14 rfl (by decide) rfl ?_
        have L50 : ∀ (r48 k47 : Nat), 2 + 1 ≤ k47 + r48 → k47 ≤ 2 → tw_W d mX10_restNow (tw_qi (fun r h1 => h1 = h ∧ tw_01 r) tw_nx) 15 [(0, .ref x), (1, .int gr), (2, .int (nI k1)), (3, .int (nI k47))] [] h 0 0 := by
          intro r48
          induction r48 with
          | zero => intro k47  hk54 hk55; exact absurd hk54 (by omega)
          | succ r48 ih49 =>
            intro k47  hk54 hk55
            refine tw_iload_n 3 dX10_restNow_15 rfl rfl ?_
            refine tw_iconst (v := 2) dX10_restNow_16 (by decide) ?_
            refine tw_icmp_ge 39 dX10_restNow_17 (by decide) (fun c56 => ?_) (fun c56 => ?_)
            · obtain ⟨v57, ev57⟩ : ∃ y : Int32, y = (nI k1) + 1 := ⟨_, rfl⟩
              refine tw_iinc [(2, .int v57), (0, .ref x), (1, .int gr), (3, .int (nI k47))] 2 dX10_restNow_39 rfl (by rw [ev57]; rfl) (by decide) rfl ?_
              refine tw_goto 2 dX10_restNow_42 (by decide) ?_
              have qv57 := tw_nI3 ev57
              rw [qv57]
              refine tw_lv [1, 2, 0] rfl ?_
              exact ih3 (k1 + 1)  (by omega) (by omega)
            · have kl58 := tw_klt (N := 2) c56 hk55 (by decide)
              refine tw_aload_n 0 dX10_restNow_20 rfl rfl ?_
              refine tw_iload_n 2 dX10_restNow_21 rfl rfl ?_
              refine tw_iload_n 3 dX10_restNow_22 rfl rfl ?_
              refine tw_iload_n 1 dX10_restNow_23 rfl rfl ?_
              refine tw_bi (tw_callV (M := mX10_restNow) (pc := 24) okX10_bestTripNow dX10_restNow_24 w_1565 rfl f11 [.int (nI k1), .int (nI k47), .int gr] [] rfl rfl ⟨by decide, by decide⟩ (Nat.le_of_ble_eq_true rfl) (c_X10_bestTripNow d g τ h sp0.1 x kx (nI k47) gr k1 (by omega) ) 0 0 (Nat.le_of_ble_eq_true rfl) (Nat.le_of_ble_eq_true rfl)) (fun r61 h60 q59 => ?_) (fun E h1 q => q.elim)
              rw [q59]
              refine tw_iconst (v := -1) dX10_restNow_27 (by decide) ?_
              refine tw_icmp_eq 33 dX10_restNow_28 (by decide) (fun c62 => ?_) (fun c62 => ?_)
              · obtain ⟨v63, ev63⟩ : ∃ y : Int32, y = (nI k47) + 1 := ⟨_, rfl⟩
                refine tw_iinc [(3, .int v63), (0, .ref x), (1, .int gr), (2, .int (nI k1))] 3 dX10_restNow_33 rfl (by rw [ev63]; rfl) (by decide) rfl ?_
                refine tw_goto 15 dX10_restNow_36 (by decide) ?_
                have qv63 := tw_nI3 ev63
                rw [qv63]
                refine tw_lv [1, 2, 3, 0] rfl ?_
                exact ih49 (k47 + 1)  (by omega) (by omega)
              · refine tw_iconst (v := 0) dX10_restNow_31 (by decide) ?_
                exact tw_zret dX10_restNow_32 rfl rfl (Or.inl ⟨_, rfl, ⟨rfl, (by unfold tw_01; decide)⟩⟩)
        refine tw_lv [1, 2, 3, 0] rfl ?_
        exact L50 (2 + 1) 0  (by omega) (by omega)
  refine tw_lv [1, 2, 0] rfl ?_
  exact L4 ((g.2 3) + 1) 0  (by omega) (by omega)

set_option maxHeartbeats 4000000 in
set_option maxRecDepth 100000 in
theorem c_X10_rest (d : tw_D) (g : tw_G) (τ : tw_K) (h : tw_H) (hw : tw_wt d g τ h) (x : Nat) (kx : τ x = 36) (gr : Int32) : tw_Ct d mX10_rest 0 0 [.ref x, .int gr] h (tw_qi (fun r h1 => tw_sp d τ h g τ h1 ∧ tw_01 r) tw_nx) := by
  refine tw_of (by decide +kernel) (Nat.le_of_ble_eq_true rfl) ?_
  show tw_W d mX10_rest _ 0 [(0, .ref x), (1, .int gr)] [] h 0 0
  have sp0 := tw_sp.rf hw
  refine tw_aload_n 0 dX10_rest_0 rfl rfl ?_
  refine tw_iload_n 1 dX10_rest_1 rfl rfl ?_
  refine tw_iconst (v := 0) dX10_rest_2 (by decide) ?_
  refine tw_ldc (v := 99999) dX10_rest_3 w_1199 ?_
  refine tw_bi (tw_callS (M := mX10_rest) (pc := 5) okX10_isIn dX10_rest_5 w_1196 [.int gr, .int 0, .int 99999] [.ref x] rfl rfl ⟨by decide, by decide⟩ (Nat.le_of_ble_eq_true rfl) (c_X10_isIn d g τ h sp0.1 gr 0 99999) 0 0 (Nat.le_of_ble_eq_true rfl) (Nat.le_of_ble_eq_true rfl)) (fun r3 h2 q1 => ?_) (fun E h1 q => q.elim)
  obtain ⟨q1e, q1d⟩ := q1
  rw [q1e]
  rcases q1d with ⟨q1r, q1n⟩ | ⟨q1r, q1a, q1b⟩
  · rw [q1r]
    refine tw_if_ne 15 dX10_rest_8 (by decide) (fun c4 => absurd (by decide) c4) (fun _ => ?_)
    refine tw_iconst (v := 1) dX10_rest_11 (by decide) ?_
    refine tw_goto 16 dX10_rest_12 (by decide) ?_
    refine tw_iconst (v := 1) dX10_rest_16 (by decide) ?_
    obtain ⟨e5, f6, th_7, td_8, ds_9, fr_10, ca_11, us_12, wo_13, cm_14, lc_15, lh_16, ld_17, rfl, k18, k19, k20, k21, k22, k23, k24, k25, k26, k27, k28, k29, k30, k31⟩ := sp0.1 x 36 kx (by decide)
    refine tw_bi (tw_callV (M := mX10_rest) (pc := 17) okX10_start dX10_rest_17 w_1200 rfl f6 [.int 1, .int 1] [] rfl rfl ⟨by decide, by decide⟩ (Nat.le_of_ble_eq_true rfl) (c_X10_start d g τ h sp0.1 x kx 1 1 (by decide)) 0 0 (Nat.le_of_ble_eq_true rfl) (Nat.le_of_ble_eq_true rfl)) (fun r34 h33 q32 => ?_) (fun E h1 q => q.elim)
    obtain ⟨e35, he36, hs37, hr38, h339⟩ := q32
    have sp40 : tw_sp d τ h g τ h33 := by rw [he36]; exact sp0.set kx (by decide) hs37
    rcases hr38 with ei41 | ⟨ei41, ei41b⟩
    · rw [ei41]
      refine tw_if_ne 35 dX10_rest_20 (by decide) (fun _ => ?_) (fun c42 => absurd c42 (by decide))
      refine tw_iconst (v := 0) dX10_rest_35 (by decide) ?_
      exact tw_zret dX10_rest_36 rfl rfl (Or.inl ⟨_, rfl, ⟨sp40, (by unfold tw_01; decide)⟩⟩)
    · exact absurd ei41b (by decide)
  · rw [q1r]
    refine tw_if_ne 15 dX10_rest_8 (by decide) (fun _ => ?_) (fun c43 => absurd c43 (by decide))
    refine tw_iconst (v := 0) dX10_rest_15 (by decide) ?_
    refine tw_iconst (v := 1) dX10_rest_16 (by decide) ?_
    obtain ⟨e44, f45, th_46, td_47, ds_48, fr_49, ca_50, us_51, wo_52, cm_53, lc_54, lh_55, ld_56, rfl, k57, k58, k59, k60, k61, k62, k63, k64, k65, k66, k67, k68, k69, k70⟩ := sp0.1 x 36 kx (by decide)
    refine tw_bi (tw_callV (M := mX10_rest) (pc := 17) okX10_start dX10_rest_17 w_1200 rfl f45 [.int 0, .int 1] [] rfl rfl ⟨by decide, by decide⟩ (Nat.le_of_ble_eq_true rfl) (c_X10_start d g τ h sp0.1 x kx 0 1 (by decide)) 0 0 (Nat.le_of_ble_eq_true rfl) (Nat.le_of_ble_eq_true rfl)) (fun r73 h72 q71 => ?_) (fun E h1 q => q.elim)
    obtain ⟨e74, he75, hs76, hr77, h378⟩ := q71
    have sp79 : tw_sp d τ h g τ h72 := by rw [he75]; exact sp0.set kx (by decide) hs76
    rcases hr77 with ei80 | ⟨ei80, ei80b⟩
    · rw [ei80]
      refine tw_if_ne 35 dX10_rest_20 (by decide) (fun _ => ?_) (fun c81 => absurd c81 (by decide))
      refine tw_iconst (v := 0) dX10_rest_35 (by decide) ?_
      exact tw_zret dX10_rest_36 rfl rfl (Or.inl ⟨_, rfl, ⟨sp79, (by unfold tw_01; decide)⟩⟩)
    · rw [ei80]
      refine tw_if_ne 35 dX10_rest_20 (by decide) (fun c82 => absurd (by decide) c82) (fun _ => ?_)
      refine tw_aload_n 0 dX10_rest_23 rfl rfl ?_
      refine tw_iload_n 1 dX10_rest_24 rfl rfl ?_
      obtain ⟨e83, f84, th_85, td_86, ds_87, fr_88, ca_89, us_90, wo_91, cm_92, lc_93, lh_94, ld_95, rfl, k96, k97, k98, k99, k100, k101, k102, k103, k104, k105, k106, k107, k108, k109⟩ := sp79.1 x 36 kx (by decide)
      refine tw_bi (tw_callV (M := mX10_rest) (pc := 25) okX10_restNow dX10_rest_25 w_1573 rfl f84 [.int gr] [] rfl rfl ⟨by decide, by decide⟩ (Nat.le_of_ble_eq_true rfl) (c_X10_restNow d g τ h72 sp79.1 x kx gr) 0 0 (Nat.le_of_ble_eq_true rfl) (Nat.le_of_ble_eq_true rfl)) (fun r112 h111 q110 => ?_) (fun E h1 q => q.elim)
      obtain ⟨q110e, p113⟩ := q110
      rw [q110e]
      refine tw_if_eq 35 dX10_rest_28 (by decide) (fun c114 => ?_) (fun c114 => ?_)
      · refine tw_iconst (v := 0) dX10_rest_35 (by decide) ?_
        exact tw_zret dX10_rest_36 rfl rfl (Or.inl ⟨_, rfl, ⟨sp79, (by unfold tw_01; decide)⟩⟩)
      · refine tw_iconst (v := 1) dX10_rest_31 (by decide) ?_
        refine tw_goto 36 dX10_rest_32 (by decide) ?_
        exact tw_zret dX10_rest_36 rfl rfl (Or.inl ⟨_, rfl, ⟨sp79, (by unfold tw_01; decide)⟩⟩)

set_option maxHeartbeats 4000000 in
set_option maxRecDepth 100000 in
theorem c_X10_lastNow (d : tw_D) (g : tw_G) (τ : tw_K) (h : tw_H) (hw : tw_wt d g τ h) (x : Nat) (kx : τ x = 36) (m : Int32) (gr : Int32) (a : Nat) (ha : a < g.2 3) (hm : m = 0 ∨ m = 1) : tw_Ct d mX10_lastNow 0 0 [.ref x, .int (nI a), .int m, .int gr] h (tw_qi (fun r h1 => h1 = h) tw_nx) := by
  refine tw_of (by decide +kernel) (Nat.le_of_ble_eq_true rfl) ?_
  show tw_W d mX10_lastNow _ 0 [(0, .ref x), (1, .int (nI a)), (2, .int m), (3, .int gr)] [] h 0 0
  have sp0 := tw_sp.rf hw
  refine tw_aload_n 0 dX10_lastNow_0 rfl rfl ?_
  obtain ⟨e1, f2, th_3, td_4, ds_5, fr_6, ca_7, us_8, wo_9, cm_10, lc_11, lh_12, ld_13, rfl, k14, k15, k16, k17, k18, k19, k20, k21, k22, k23, k24, k25, k26, k27⟩ := sp0.1 x 36 kx (by decide)
  refine tw_get (v := .ref lc_11) rfl in_14 9 dX10_lastNow_1 w_1160 rfl (by decide) f2 rfl ?_
  refine tw_iload_n 1 dX10_lastNow_4 rfl rfl ?_
  obtain ⟨e28, f29, ⟨el30, rfl, k31⟩, k32⟩ := sp0.1 lc_11 24 k20 (by decide)
  refine tw_br (tw_callV (M := mX10_lastNow) (pc := 5) okJx4a65c_get_915e3 dX10_lastNow_5 w_1296 rfl f29 [.int (nI a)] [] rfl rfl ⟨by decide, by decide⟩ (Nat.le_of_ble_eq_true rfl) (c24_get d g τ h sp0.1 lc_11 k20 a (by omega) (by omega)) 0 0 (Nat.le_of_ble_eq_true rfl) (Nat.le_of_ble_eq_true rfl)) (fun r35 h34 q33 => ?_) (fun E h1 q => q.elim)
  obtain ⟨q33e, q33k⟩ := q33
  rw [q33e]
  have el36 : tw_el h (g.2 12) a = r35 := by rw [← k32]; exact q33k.2.symm
  have kl37 : τ (g.2 12) = 24 := by rw [← k32]; exact k20
  obtain ⟨e38, f39, r_40, c_41, v_42, o_43, t_44, rfl, k45, k46, k47, k48, k49⟩ := sp0.1 r35 21 q33k.1 (by decide)
  refine tw_castS (ci := 11) rfl dX10_lastNow_8 w_1212 f39 ?_
  refine tw_get (v := .ref v_42) rfl in_11 2 dX10_lastNow_11 w_1221 rfl (by decide) f39 rfl ?_
  refine tw_iload_n 2 dX10_lastNow_14 rfl rfl ?_
  obtain ⟨e50, f51, F52, rfl⟩ := sp0.1 v_42 31 k45 (by decide)
  obtain ⟨v53, ev53⟩ : ∃ y : Int64, F52 (m).toNatClampNeg = y := ⟨_, rfl⟩
  refine tw_lald (v := v53) dX10_lastNow_15 f51 (tw_in01 hm (by decide)) ev53 ?_
  refine tw_lstore [(4, .long v53), (0, .ref x), (1, .int (nI a)), (2, .int m), (3, .int gr)] dX10_lastNow_16 (by decide) rfl ?_
  refine tw_aload_n 1 dX10_lastNow_18 rfl rfl ?_
  refine tw_get (v := .int td_4) rfl in_14 1 dX10_lastNow_19 w_1152 rfl (by decide) f2 rfl ?_
  refine tw_istore [(6, .int td_4), (4, .long v53), (0, .ref x), (1, .int (nI a)), (2, .int m), (3, .int gr)] dX10_lastNow_22 (by decide) rfl ?_
  have L58 : ∀ (r56 : Nat) (x54 : Int64) (x55 : Int32), ((3001 : Int) - x55.toInt).toNat < r56 → tw_W d mX10_lastNow (tw_qi (fun r h1 => h1 = h) tw_nx) 24 [(0, .ref x), (1, .int (nI a)), (2, .int m), (3, .int gr), (4, .long x54), (6, .int x55)] [] h 0 0 := by
    intro r56
    induction r56 with
    | zero => intro x54 x55 hk62; exact absurd hk62 (Nat.not_lt_zero _)
    | succ r56 ih57 =>
      intro x54 x55 hk62
      refine tw_iload 5 dX10_lastNow_24 rfl ?_
      refine tw_sipush (v := 3000) dX10_lastNow_26 (by decide) ?_
      refine tw_icmp_gt 89 dX10_lastNow_29 (by decide) (fun c64 => ?_) (fun c64 => ?_)
      · refine tw_iconst (v := -1) dX10_lastNow_89 (by decide) ?_
        exact tw_iret dX10_lastNow_90 rfl (Or.inl ⟨_, rfl, rfl⟩)
      · refine tw_iload 5 dX10_lastNow_32 rfl ?_
        refine tw_aload_n 0 dX10_lastNow_34 rfl rfl ?_
        refine tw_get (v := .int td_4) rfl in_14 1 dX10_lastNow_35 w_1152 rfl (by decide) f2 rfl ?_
        refine tw_icmp_le 65 dX10_lastNow_38 (by decide) (fun c65 => ?_) (fun c65 => ?_)
        · refine tw_lload 4 dX10_lastNow_65 rfl ?_
          refine tw_iload_n 3 dX10_lastNow_67 rfl rfl ?_
          refine tw_i2l dX10_lastNow_68 ?_
          refine tw_nml (fun v66 ev66 => ?_)
          refine tw_lcmp dX10_lastNow_69 ?_
          refine tw_nmi (fun v67 ev67 => ?_)
          refine tw_if_ge 76 dX10_lastNow_70 (by decide) (fun c68 => ?_) (fun c68 => ?_)
          · refine tw_lload 4 dX10_lastNow_76 rfl ?_
            refine tw_iload_n 3 dX10_lastNow_78 rfl rfl ?_
            refine tw_i2l dX10_lastNow_79 ?_
            refine tw_nml (fun v69 ev69 => ?_)
            refine tw_lsub dX10_lastNow_80 ?_
            refine tw_nml (fun v70 ev70 => ?_)
            refine tw_lstore [(4, .long v70), (0, .ref x), (1, .int (nI a)), (2, .int m), (3, .int gr), (6, .int x55)] dX10_lastNow_81 (by decide) rfl ?_
            obtain ⟨v71, ev71⟩ : ∃ y : Int32, y = x55 + 1 := ⟨_, rfl⟩
            refine tw_iinc [(6, .int v71), (4, .long v70), (0, .ref x), (1, .int (nI a)), (2, .int m), (3, .int gr)] 5 dX10_lastNow_83 rfl (by rw [ev71]; rfl) (by decide) rfl ?_
            refine tw_goto 24 dX10_lastNow_86 (by decide) ?_
            refine tw_lv [2, 3, 4, 5, 1, 0] rfl ?_
            exact ih57 v70 v71 (tw_mle ev71 c64 hk62)
          · refine tw_iload 5 dX10_lastNow_73 rfl ?_
            exact tw_iret dX10_lastNow_75 rfl (Or.inl ⟨_, rfl, rfl⟩)
        · refine tw_iload 5 dX10_lastNow_41 rfl ?_
          refine tw_bipush (v := 30) dX10_lastNow_43 (by decide) ?_
          refine tw_irem dX10_lastNow_45 (by decide) ?_
          refine tw_nmi (fun v72 ev72 => ?_)
          refine tw_if_ne 65 dX10_lastNow_46 (by decide) (fun c73 => ?_) (fun c73 => ?_)
          · refine tw_lload 4 dX10_lastNow_65 rfl ?_
            refine tw_iload_n 3 dX10_lastNow_67 rfl rfl ?_
            refine tw_i2l dX10_lastNow_68 ?_
            refine tw_nml (fun v74 ev74 => ?_)
            refine tw_lcmp dX10_lastNow_69 ?_
            refine tw_nmi (fun v75 ev75 => ?_)
            refine tw_if_ge 76 dX10_lastNow_70 (by decide) (fun c76 => ?_) (fun c76 => ?_)
            · refine tw_lload 4 dX10_lastNow_76 rfl ?_
              refine tw_iload_n 3 dX10_lastNow_78 rfl rfl ?_
              refine tw_i2l dX10_lastNow_79 ?_
              refine tw_nml (fun v77 ev77 => ?_)
              refine tw_lsub dX10_lastNow_80 ?_
              refine tw_nml (fun v78 ev78 => ?_)
              refine tw_lstore [(4, .long v78), (0, .ref x), (1, .int (nI a)), (2, .int m), (3, .int gr), (6, .int x55)] dX10_lastNow_81 (by decide) rfl ?_
              obtain ⟨v79, ev79⟩ : ∃ y : Int32, y = x55 + 1 := ⟨_, rfl⟩
              refine tw_iinc [(6, .int v79), (4, .long v78), (0, .ref x), (1, .int (nI a)), (2, .int m), (3, .int gr)] 5 dX10_lastNow_83 rfl (by rw [ev79]; rfl) (by decide) rfl ?_
              refine tw_goto 24 dX10_lastNow_86 (by decide) ?_
              refine tw_lv [2, 3, 4, 5, 1, 0] rfl ?_
              exact ih57 v78 v79 (tw_mle ev79 c64 hk62)
            · refine tw_iload 5 dX10_lastNow_73 rfl ?_
              exact tw_iret dX10_lastNow_75 rfl (Or.inl ⟨_, rfl, rfl⟩)
          · refine tw_iload_n 2 dX10_lastNow_49 rfl rfl ?_
            refine tw_iconst (v := 1) dX10_lastNow_50 (by decide) ?_
            refine tw_icmp_ne 65 dX10_lastNow_51 (by decide) (fun c80 => ?_) (fun c80 => ?_)
            · refine tw_lload 4 dX10_lastNow_65 rfl ?_
              refine tw_iload_n 3 dX10_lastNow_67 rfl rfl ?_
              refine tw_i2l dX10_lastNow_68 ?_
              refine tw_nml (fun v81 ev81 => ?_)
              refine tw_lcmp dX10_lastNow_69 ?_
              refine tw_nmi (fun v82 ev82 => ?_)
              refine tw_if_ge 76 dX10_lastNow_70 (by decide) (fun c83 => ?_) (fun c83 => ?_)
              · refine tw_lload 4 dX10_lastNow_76 rfl ?_
                refine tw_iload_n 3 dX10_lastNow_78 rfl rfl ?_
                refine tw_i2l dX10_lastNow_79 ?_
                refine tw_nml (fun v84 ev84 => ?_)
                refine tw_lsub dX10_lastNow_80 ?_
                refine tw_nml (fun v85 ev85 => ?_)
                refine tw_lstore [(4, .long v85), (0, .ref x), (1, .int (nI a)), (2, .int m), (3, .int gr), (6, .int x55)] dX10_lastNow_81 (by decide) rfl ?_
                obtain ⟨v86, ev86⟩ : ∃ y : Int32, y = x55 + 1 := ⟨_, rfl⟩
                refine tw_iinc [(6, .int v86), (4, .long v85), (0, .ref x), (1, .int (nI a)), (2, .int m), (3, .int gr)] 5 dX10_lastNow_83 rfl (by rw [ev86]; rfl) (by decide) rfl ?_
                refine tw_goto 24 dX10_lastNow_86 (by decide) ?_
                refine tw_lv [2, 3, 4, 5, 1, 0] rfl ?_
                exact ih57 v85 v86 (tw_mle ev86 c64 hk62)
              · refine tw_iload 5 dX10_lastNow_73 rfl ?_
                exact tw_iret dX10_lastNow_75 rfl (Or.inl ⟨_, rfl, rfl⟩)
            · refine tw_lload 4 dX10_lastNow_54 rfl ?_
              refine tw_lload 4 dX10_lastNow_56 rfl ?_
              refine tw_ldc2 (v := 10000) dX10_lastNow_58 w_1432 ?_
              refine tw_ldiv dX10_lastNow_61 (by decide) ?_
              refine tw_nml (fun v87 ev87 => ?_)
              refine tw_lsub dX10_lastNow_62 ?_
              refine tw_nml (fun v88 ev88 => ?_)
              refine tw_lstore [(4, .long v88), (0, .ref x), (1, .int (nI a)), (2, .int m), (3, .int gr), (6, .int x55)] dX10_lastNow_63 (by decide) rfl ?_
              refine tw_lload 0 dX10_lastNow_65 rfl ?_
              refine tw_iload_n 4 dX10_lastNow_67 rfl rfl ?_
              refine tw_i2l dX10_lastNow_68 ?_
              refine tw_nml (fun v89 ev89 => ?_)
              refine tw_lcmp dX10_lastNow_69 ?_
              refine tw_nmi (fun v90 ev90 => ?_)
              refine tw_if_ge 76 dX10_lastNow_70 (by decide) (fun c91 => ?_) (fun c91 => ?_)
              · refine tw_lload 0 dX10_lastNow_76 rfl ?_
                refine tw_iload_n 4 dX10_lastNow_78 rfl rfl ?_
                refine tw_i2l dX10_lastNow_79 ?_
                refine tw_nml (fun v92 ev92 => ?_)
                refine tw_lsub dX10_lastNow_80 ?_
                refine tw_nml (fun v93 ev93 => ?_)
                refine tw_lstore [(4, .long v93), (0, .ref x), (1, .int (nI a)), (2, .int m), (3, .int gr), (6, .int x55)] dX10_lastNow_81 (by decide) rfl ?_
                obtain ⟨v94, ev94⟩ : ∃ y : Int32, y = x55 + 1 := ⟨_, rfl⟩
                refine tw_iinc [(6, .int v94), (4, .long v93), (0, .ref x), (1, .int (nI a)), (2, .int m), (3, .int gr)] 5 dX10_lastNow_83 rfl (by rw [ev94]; rfl) (by decide) rfl ?_
                refine tw_goto 24 dX10_lastNow_86 (by decide) ?_
                refine tw_lv [2, 3, 4, 5, 1, 0] rfl ?_
                exact ih57 v93 v94 (tw_mle ev94 c64 hk62)
              · refine tw_iload 5 dX10_lastNow_73 rfl ?_
                exact tw_iret dX10_lastNow_75 rfl (Or.inl ⟨_, rfl, rfl⟩)
  refine tw_lv [2, 3, 4, 5, 1, 0] rfl ?_
  exact L58 _ v53 td_4 (Nat.lt_succ_self _)

set_option maxHeartbeats 4000000 in
set_option maxRecDepth 100000 in
theorem c_X10_last (d : tw_D) (g : tw_G) (τ : tw_K) (h : tw_H) (hw : tw_wt d g τ h) (x : Nat) (kx : τ x = 36) (a : Int32) (m : Int32) (gr : Int32) : tw_Ct d mX10_last 0 0 [.ref x, .int a, .int m, .int gr] h (tw_qi (fun r h1 => tw_sp d τ h g τ h1) tw_nx) := by
  refine tw_of (by decide +kernel) (Nat.le_of_ble_eq_true rfl) ?_
  show tw_W d mX10_last _ 0 [(0, .ref x), (1, .int a), (2, .int m), (3, .int gr)] [] h 0 0
  have sp0 := tw_sp.rf hw
  refine tw_aload_n 0 dX10_last_0 rfl rfl ?_
  refine tw_aload_n 0 dX10_last_1 rfl rfl ?_
  refine tw_iload_n 1 dX10_last_2 rfl rfl ?_
  obtain ⟨e1, f2, th_3, td_4, ds_5, fr_6, ca_7, us_8, wo_9, cm_10, lc_11, lh_12, ld_13, rfl, k14, k15, k16, k17, k18, k19, k20, k21, k22, k23, k24, k25, k26, k27⟩ := sp0.1 x 36 kx (by decide)
  refine tw_bi (tw_callV (M := mX10_last) (pc := 3) okX10_isNoCountry dX10_last_3 w_1292 rfl f2 [.int a] [.ref x] rfl rfl ⟨by decide, by decide⟩ (Nat.le_of_ble_eq_true rfl) (c_X10_isNoCountry d g τ h sp0.1 x kx a) 0 0 (Nat.le_of_ble_eq_true rfl) (Nat.le_of_ble_eq_true rfl)) (fun r30 h29 q28 => ?_) (fun E h1 q => q.elim)
  obtain ⟨q28e, q28d⟩ := q28
  rw [q28e]
  rcases q28d with q28r | ⟨q28r, j31, q28j, q28k⟩
  · rw [q28r]
    refine tw_iconst (v := 1) dX10_last_6 (by decide) ?_
    refine tw_bi (tw_callV (M := mX10_last) (pc := 7) okX10_start dX10_last_7 w_1200 rfl f2 [.int 1, .int 1] [] rfl rfl ⟨by decide, by decide⟩ (Nat.le_of_ble_eq_true rfl) (c_X10_start d g τ h sp0.1 x kx 1 1 (by decide)) 0 0 (Nat.le_of_ble_eq_true rfl) (Nat.le_of_ble_eq_true rfl)) (fun r34 h33 q32 => ?_) (fun E h1 q => q.elim)
    obtain ⟨e35, he36, hs37, hr38, h339⟩ := q32
    have sp40 : tw_sp d τ h g τ h33 := by rw [he36]; exact sp0.set kx (by decide) hs37
    rcases hr38 with ei41 | ⟨ei41, ei41b⟩
    · rw [ei41]
      refine tw_if_ne 43 dX10_last_10 (by decide) (fun _ => ?_) (fun c42 => absurd c42 (by decide))
      refine tw_iconst (v := 0) dX10_last_43 (by decide) ?_
      refine tw_goto 54 dX10_last_44 (by decide) ?_
      exact tw_iret dX10_last_54 rfl (Or.inl ⟨_, rfl, sp40⟩)
    · exact absurd ei41b (by decide)
  · rw [q28r]
    subst q28k
    refine tw_iconst (v := 1) dX10_last_6 (by decide) ?_
    refine tw_bi (tw_callV (M := mX10_last) (pc := 7) okX10_start dX10_last_7 w_1200 rfl f2 [.int 0, .int 1] [] rfl rfl ⟨by decide, by decide⟩ (Nat.le_of_ble_eq_true rfl) (c_X10_start d g τ h sp0.1 x kx 0 1 (by decide)) 0 0 (Nat.le_of_ble_eq_true rfl) (Nat.le_of_ble_eq_true rfl)) (fun r45 h44 q43 => ?_) (fun E h1 q => q.elim)
    obtain ⟨e46, he47, hs48, hr49, h350⟩ := q43
    have sp51 : tw_sp d τ h g τ h44 := by rw [he47]; exact sp0.set kx (by decide) hs48
    rcases hr49 with ei52 | ⟨ei52, ei52b⟩
    · rw [ei52]
      refine tw_if_ne 43 dX10_last_10 (by decide) (fun _ => ?_) (fun c53 => absurd c53 (by decide))
      refine tw_iconst (v := 0) dX10_last_43 (by decide) ?_
      refine tw_goto 54 dX10_last_44 (by decide) ?_
      exact tw_iret dX10_last_54 rfl (Or.inl ⟨_, rfl, sp51⟩)
    · rw [ei52]
      refine tw_if_ne 43 dX10_last_10 (by decide) (fun c54 => absurd (by decide) c54) (fun _ => ?_)
      refine tw_aload_n 0 dX10_last_13 rfl rfl ?_
      refine tw_iload_n 2 dX10_last_14 rfl rfl ?_
      refine tw_bi (tw_callS (M := mX10_last) (pc := 15) okX10_isNoMetal dX10_last_15 w_1312 [.int m] [.ref x] rfl rfl ⟨by decide, by decide⟩ (Nat.le_of_ble_eq_true rfl) (c_X10_isNoMetal d g τ h44 sp51.1 m) 0 0 (Nat.le_of_ble_eq_true rfl) (Nat.le_of_ble_eq_true rfl)) (fun r57 h56 q55 => ?_) (fun E h1 q => q.elim)
      obtain ⟨q55e, q55d⟩ := q55
      rw [q55e]
      rcases q55d with q55r | ⟨q55r, q55m⟩
      · rw [q55r]
        refine tw_if_ne 31 dX10_last_18 (by decide) (fun _ => ?_) (fun c58 => absurd c58 (by decide))
        refine tw_iconst (v := 1) dX10_last_31 (by decide) ?_
        refine tw_goto 36 dX10_last_32 (by decide) ?_
        refine tw_iconst (v := 2) dX10_last_36 (by decide) ?_
        obtain ⟨e59, f60, th_61, td_62, ds_63, fr_64, ca_65, us_66, wo_67, cm_68, lc_69, lh_70, ld_71, rfl, k72, k73, k74, k75, k76, k77, k78, k79, k80, k81, k82, k83, k84, k85⟩ := sp51.1 x 36 kx (by decide)
        refine tw_bi (tw_callV (M := mX10_last) (pc := 37) okX10_refuse dX10_last_37 w_1204 rfl f60 [.int 1, .int 2] [] rfl rfl ⟨by decide, by decide⟩ (Nat.le_of_ble_eq_true rfl) (c_X10_refuse d g τ h44 sp51.1 x kx 1 2 (by decide)) 0 0 (Nat.le_of_ble_eq_true rfl) (Nat.le_of_ble_eq_true rfl)) (fun r88 h87 q86 => ?_) (fun E h1 q => q.elim)
        obtain ⟨e89, he90, hs91, hr92, h393⟩ := q86
        have sp94 : tw_sp d τ h g τ h87 := by rw [he90]; exact sp51.set kx (by decide) hs91
        rcases hr92 with ei95 | ⟨ei95, ei95b⟩
        · rw [ei95]
          refine tw_if_eq 47 dX10_last_40 (by decide) (fun c96 => absurd c96 (by decide)) (fun _ => ?_)
          refine tw_iconst (v := 0) dX10_last_43 (by decide) ?_
          refine tw_goto 54 dX10_last_44 (by decide) ?_
          exact tw_iret dX10_last_54 rfl (Or.inl ⟨_, rfl, sp94⟩)
        · exact absurd ei95b (by decide)
      · rw [q55r]
        refine tw_if_ne 31 dX10_last_18 (by decide) (fun c97 => absurd (by decide) c97) (fun _ => ?_)
        refine tw_iload_n 3 dX10_last_21 rfl rfl ?_
        refine tw_iconst (v := 1) dX10_last_22 (by decide) ?_
        refine tw_ldc (v := 99999) dX10_last_23 w_1199 ?_
        refine tw_bi (tw_callS (M := mX10_last) (pc := 25) okX10_isIn dX10_last_25 w_1196 [.int gr, .int 1, .int 99999] [.ref x] rfl rfl ⟨by decide, by decide⟩ (Nat.le_of_ble_eq_true rfl) (c_X10_isIn d g τ h44 sp51.1 gr 1 99999) 0 0 (Nat.le_of_ble_eq_true rfl) (Nat.le_of_ble_eq_true rfl)) (fun r100 h99 q98 => ?_) (fun E h1 q => q.elim)
        obtain ⟨q98e, q98d⟩ := q98
        rw [q98e]
        rcases q98d with ⟨q98r, q98n⟩ | ⟨q98r, q98a, q98b⟩
        · rw [q98r]
          refine tw_if_ne 35 dX10_last_28 (by decide) (fun c101 => absurd (by decide) c101) (fun _ => ?_)
          refine tw_iconst (v := 1) dX10_last_31 (by decide) ?_
          refine tw_goto 36 dX10_last_32 (by decide) ?_
          refine tw_iconst (v := 2) dX10_last_36 (by decide) ?_
          obtain ⟨e102, f103, th_104, td_105, ds_106, fr_107, ca_108, us_109, wo_110, cm_111, lc_112, lh_113, ld_114, rfl, k115, k116, k117, k118, k119, k120, k121, k122, k123, k124, k125, k126, k127, k128⟩ := sp51.1 x 36 kx (by decide)
          refine tw_bi (tw_callV (M := mX10_last) (pc := 37) okX10_refuse dX10_last_37 w_1204 rfl f103 [.int 1, .int 2] [] rfl rfl ⟨by decide, by decide⟩ (Nat.le_of_ble_eq_true rfl) (c_X10_refuse d g τ h44 sp51.1 x kx 1 2 (by decide)) 0 0 (Nat.le_of_ble_eq_true rfl) (Nat.le_of_ble_eq_true rfl)) (fun r131 h130 q129 => ?_) (fun E h1 q => q.elim)
          obtain ⟨e132, he133, hs134, hr135, h3136⟩ := q129
          have sp137 : tw_sp d τ h g τ h130 := by rw [he133]; exact sp51.set kx (by decide) hs134
          rcases hr135 with ei138 | ⟨ei138, ei138b⟩
          · rw [ei138]
            refine tw_if_eq 47 dX10_last_40 (by decide) (fun c139 => absurd c139 (by decide)) (fun _ => ?_)
            refine tw_iconst (v := 0) dX10_last_43 (by decide) ?_
            refine tw_goto 54 dX10_last_44 (by decide) ?_
            exact tw_iret dX10_last_54 rfl (Or.inl ⟨_, rfl, sp137⟩)
          · exact absurd ei138b (by decide)
        · rw [q98r]
          refine tw_if_ne 35 dX10_last_28 (by decide) (fun _ => ?_) (fun c140 => absurd c140 (by decide))
          refine tw_iconst (v := 0) dX10_last_35 (by decide) ?_
          refine tw_iconst (v := 2) dX10_last_36 (by decide) ?_
          obtain ⟨e141, f142, th_143, td_144, ds_145, fr_146, ca_147, us_148, wo_149, cm_150, lc_151, lh_152, ld_153, rfl, k154, k155, k156, k157, k158, k159, k160, k161, k162, k163, k164, k165, k166, k167⟩ := sp51.1 x 36 kx (by decide)
          refine tw_bi (tw_callV (M := mX10_last) (pc := 37) okX10_refuse dX10_last_37 w_1204 rfl f142 [.int 0, .int 2] [] rfl rfl ⟨by decide, by decide⟩ (Nat.le_of_ble_eq_true rfl) (c_X10_refuse d g τ h44 sp51.1 x kx 0 2 (by decide)) 0 0 (Nat.le_of_ble_eq_true rfl) (Nat.le_of_ble_eq_true rfl)) (fun r170 h169 q168 => ?_) (fun E h1 q => q.elim)
          obtain ⟨e171, he172, hs173, hr174, h3175⟩ := q168
          have sp176 : tw_sp d τ h g τ h169 := by rw [he172]; exact sp51.set kx (by decide) hs173
          rcases hr174 with ei177 | ⟨ei177, ei177b⟩
          · rw [ei177]
            refine tw_if_eq 47 dX10_last_40 (by decide) (fun c178 => absurd c178 (by decide)) (fun _ => ?_)
            refine tw_iconst (v := 0) dX10_last_43 (by decide) ?_
            refine tw_goto 54 dX10_last_44 (by decide) ?_
            exact tw_iret dX10_last_54 rfl (Or.inl ⟨_, rfl, sp176⟩)
          · rw [ei177]
            refine tw_if_eq 47 dX10_last_40 (by decide) (fun _ => ?_) (fun c179 => absurd (by decide) c179)
            refine tw_aload_n 0 dX10_last_47 rfl rfl ?_
            refine tw_iload_n 1 dX10_last_48 rfl rfl ?_
            refine tw_iload_n 2 dX10_last_49 rfl rfl ?_
            refine tw_iload_n 3 dX10_last_50 rfl rfl ?_
            obtain ⟨e180, f181, th_182, td_183, ds_184, fr_185, ca_186, us_187, wo_188, cm_189, lc_190, lh_191, ld_192, rfl, k193, k194, k195, k196, k197, k198, k199, k200, k201, k202, k203, k204, k205, k206⟩ := sp176.1 x 36 kx (by decide)
            refine tw_bi (tw_callV (M := mX10_last) (pc := 51) okX10_lastNow dX10_last_51 w_1581 rfl f181 [.int (nI j31), .int m, .int gr] [] rfl rfl ⟨by decide, by decide⟩ (Nat.le_of_ble_eq_true rfl) (c_X10_lastNow d g τ h169 sp176.1 x kx m gr j31 (by omega) q55m) 0 0 (Nat.le_of_ble_eq_true rfl) (Nat.le_of_ble_eq_true rfl)) (fun r209 h208 q207 => ?_) (fun E h1 q => q.elim)
            rw [q207]
            exact tw_iret dX10_last_54 rfl (Or.inl ⟨_, rfl, sp176⟩)

set_option maxHeartbeats 4000000 in
set_option maxRecDepth 100000 in
theorem c_X10_worldNow (d : tw_D) (g : tw_G) (τ : tw_K) (h : tw_H) (hw : tw_wt d g τ h) (x : Nat) (kx : τ x = 36) (m : Int32) (w9 : Int32) (hm : vp_in m 2) (hw9 : vp_in w9 6) : tw_Ct d mX10_worldNow 3 14 [.ref x, .int m, .int w9] h (tw_qi (fun r h1 => tw_sp d τ h g τ h1) tw_nx) := by
  refine tw_of (by decide +kernel) (Nat.le_of_ble_eq_true rfl) ?_
  show tw_W d mX10_worldNow _ 0 [(0, .ref x), (1, .int m), (2, .int w9)] [] h 3 14
  have sp0 := tw_sp.rf hw
  refine tw_lconst (v := 0) dX10_worldNow_0 (by decide) ?_
  refine tw_lstore_n [(3, .long 0), (0, .ref x), (1, .int m), (2, .int w9)] dX10_worldNow_1 rfl (by decide) rfl ?_
  refine tw_lconst (v := 0) dX10_worldNow_2 (by decide) ?_
  refine tw_lstore [(5, .long 0), (3, .long 0), (0, .ref x), (1, .int m), (2, .int w9)] dX10_worldNow_3 (by decide) rfl ?_
  refine tw_aload_n 2 dX10_worldNow_5 rfl rfl ?_
  obtain ⟨e1, f2, th_3, td_4, ds_5, fr_6, ca_7, us_8, wo_9, cm_10, lc_11, lh_12, ld_13, rfl, k14, k15, k16, k17, k18, k19, k20, k21, k22, k23, k24, k25, k26, k27⟩ := sp0.1 x 36 kx (by decide)
  refine tw_get (v := .ref lc_11) rfl in_14 9 dX10_worldNow_6 w_1160 rfl (by decide) f2 rfl ?_
  obtain ⟨e28, f29, ⟨el30, rfl, k31⟩, k32⟩ := sp0.1 lc_11 24 k20 (by decide)
  refine tw_br (tw_callV (M := mX10_worldNow) (pc := 9) okJx4a65c_iterator_32c93 dX10_worldNow_9 w_1386 rfl f29 [] [] rfl rfl ⟨by decide, by decide⟩ (Nat.le_of_ble_eq_true rfl) (c_iterator d h lc_11 el30 (g.1 3) (nI (g.2 3)) f29) 2 10 (Nat.le_of_ble_eq_true rfl) (Nat.le_of_ble_eq_true rfl)) (fun it33 h34 q35 => ?_) (fun E h1 q => q.elim)
  obtain ⟨q35n, q35e⟩ := q35
  rw [q35e]
  have n36 := sp0.nn q35n
  have z37 := sp0.1.none q35n
  obtain ⟨h38, eh38⟩ : ∃ z : tw_H, z = tw_up h it33 (.inr (2, [.int 0, .int (-1), .int (g.1 3), .ref lc_11])) := ⟨_, rfl⟩
  rw [← eh38]
  have sp39 : tw_sp d τ h g τ h38 := by rw [eh38]; exact sp0.mk q35n
  have f40 : h38 it33 = some (.inr (2, [.int 0, .int (-1), .int (g.1 3), .ref lc_11])) := by rw [eh38]; exact tw_up_s
  refine tw_astore [(7, .ref it33), (5, .long 0), (3, .long 0), (0, .ref x), (1, .int m), (2, .int w9)] dX10_worldNow_12 (by decide) rfl ?_
  have L46 : ∀ (r42 j43 : Nat) (l44 : Int32) (x41 : Int64) (h47 : tw_H) (sp48 : tw_sp d τ (tw_rm h38 it33) g τ h47) (ft49 : h47 it33 = some (.inr (2, [.int (nI j43), .int l44, .int (g.1 3), .ref lc_11]))) (zt50 : τ it33 = 0), g.2 3 + 1 ≤ j43 + r42 → j43 ≤ g.2 3 → tw_W d mX10_worldNow (tw_qi (fun r h1 => tw_sp d τ h g τ h1) tw_nx) 14 [(0, .ref x), (1, .int m), (2, .int w9), (3, .long x41), (5, .long 0), (7, .ref it33)] [] h47 2 10 := by
    intro r42
    induction r42 with
    | zero => intro j43 l44 x41 h47 sp48 ft49 zt50 hk51 hk52; exact absurd hk51 (by omega)
    | succ r42 ih45 =>
      intro j43 l44 x41 h47 sp48 ft49 zt50 hk51 hk52
      refine tw_aload 5 dX10_worldNow_14 rfl ?_
      obtain ⟨e53, f54, ⟨el55, rfl, k56⟩, k57⟩ := sp48.1 lc_11 24 k20 (by decide)
      refine tw_bi (tw_callF (M := mX10_worldNow) (pc := 16) (n9 := 0) (ci := 2) tw_hasNext ok_itHas w_1416 w_1414 (fun s H z => z.2.2.2.2.2.2.2.2.1) (by decide +kernel) dX10_worldNow_16 w_1410 rfl ft49 [] [] rfl rfl ⟨by decide, by decide⟩ (Nat.le_of_ble_eq_true rfl) (c_hasNext d h47 it33 lc_11 el55 j43 (g.2 3) l44 (g.1 3) (g.1 3) ft49 f54 (by omega) (tw_lim24 sp48.1 k20)) 2 10 (Nat.le_of_ble_eq_true rfl) (Nat.le_of_ble_eq_true rfl)) (fun r60 h59 q58 => ?_) (fun E h1 q => q.elim)
      obtain ⟨q58e, q58q⟩ := q58
      rw [q58e]
      rcases q58q with ⟨q58r, q58j⟩ | ⟨q58r, q58j⟩
      · rw [q58r]
        refine tw_if_eq 49 dX10_worldNow_21 (by decide) (fun _ => ?_) (fun c61 => absurd (by decide) c61)
        refine tw_aload_n 0 dX10_worldNow_49 rfl rfl ?_
        obtain ⟨e62, f63, th_64, td_65, ds_66, fr_67, ca_68, us_69, wo_70, cm_71, lc_72, lh_73, ld_74, rfl, k75, k76, k77, k78, k79, k80, k81, k82, k83, k84, k85, k86, k87, k88⟩ := sp48.1 x 36 kx (by decide)
        refine tw_get (v := .ref lh_73) rfl in_14 10 dX10_worldNow_50 w_1161 rfl (by decide) f63 rfl ?_
        obtain ⟨e89, f90, ⟨el91, rfl, k92⟩, k93⟩ := sp48.1 lh_73 25 k82 (by decide)
        refine tw_br (tw_callV (M := mX10_worldNow) (pc := 53) okJx4a65c_iterator_32c93 dX10_worldNow_53 w_1386 rfl f90 [] [] rfl rfl ⟨by decide, by decide⟩ (Nat.le_of_ble_eq_true rfl) (c_iterator d h47 lh_73 el91 (g.1 4) (nI (g.2 4)) f90) 1 6 (Nat.le_of_ble_eq_true rfl) (Nat.le_of_ble_eq_true rfl)) (fun it94 h95 q96 => ?_) (fun E h1 q => q.elim)
        obtain ⟨q96n, q96e⟩ := q96
        rw [q96e]
        have n97 := sp48.nn q96n
        have z98 := sp48.1.none q96n
        have ne99 := tw_neF ft49 q96n
        obtain ⟨h100, eh100⟩ : ∃ z : tw_H, z = tw_up h47 it94 (.inr (2, [.int 0, .int (-1), .int (g.1 4), .ref lh_73])) := ⟨_, rfl⟩
        rw [← eh100]
        have sp101 : tw_sp d τ (tw_rm h38 it33) g τ h100 := by rw [eh100]; exact sp48.mk q96n
        have f102 : h100 it33 = some (.inr (2, [.int (nI j43), .int l44, .int (g.1 3), .ref lc_11])) := by rw [eh100, tw_up_n ne99]; exact ft49
        have f103 : h100 it94 = some (.inr (2, [.int 0, .int (-1), .int (g.1 4), .ref lh_73])) := by rw [eh100]; exact tw_up_s
        refine tw_astore [(7, .ref it94), (0, .ref x), (1, .int m), (2, .int w9), (3, .long x41), (5, .long 0)] dX10_worldNow_56 (by decide) rfl ?_
        have L109 : ∀ (r105 j106 : Nat) (l107 : Int32) (x104 : Int64) (h110 : tw_H) (sp111 : tw_sp d τ (tw_rm h100 it94) g τ h110) (ft112 : h110 it94 = some (.inr (2, [.int (nI j106), .int l107, .int (g.1 4), .ref lh_73]))) (zt113 : τ it94 = 0), g.2 4 + 1 ≤ j106 + r105 → j106 ≤ g.2 4 → tw_W d mX10_worldNow (tw_qi (fun r h1 => tw_sp d τ h g τ h1) tw_nx) 58 [(0, .ref x), (1, .int m), (2, .int w9), (3, .long x41), (5, .long x104), (7, .ref it94)] [] h110 1 6 := by
          intro r105
          induction r105 with
          | zero => intro j106 l107 x104 h110 sp111 ft112 zt113 hk114 hk115; exact absurd hk114 (by omega)
          | succ r105 ih108 =>
            intro j106 l107 x104 h110 sp111 ft112 zt113 hk114 hk115
            have f116 := (sp111.2.2 _ _ (by unfold tw_rm; rw [if_neg ne99]; exact f102) zt50).1
            have z117 := (sp111.2.2 _ _ (by unfold tw_rm; rw [if_neg ne99]; exact f102) zt50).2
            refine tw_aload 5 dX10_worldNow_58 rfl ?_
            obtain ⟨e118, f119, ⟨el120, rfl, k121⟩, k122⟩ := sp111.1 lh_73 25 k82 (by decide)
            refine tw_bi (tw_callF (M := mX10_worldNow) (pc := 60) (n9 := 0) (ci := 2) tw_hasNext ok_itHas w_1416 w_1414 (fun s H z => z.2.2.2.2.2.2.2.2.1) (by decide +kernel) dX10_worldNow_60 w_1410 rfl ft112 [] [] rfl rfl ⟨by decide, by decide⟩ (Nat.le_of_ble_eq_true rfl) (c_hasNext d h110 it94 lh_73 el120 j106 (g.2 4) l107 (g.1 4) (g.1 4) ft112 f119 (by omega) (tw_lim25 sp111.1 k82)) 1 6 (Nat.le_of_ble_eq_true rfl) (Nat.le_of_ble_eq_true rfl)) (fun r125 h124 q123 => ?_) (fun E h1 q => q.elim)
            obtain ⟨q123e, q123q⟩ := q123
            rw [q123e]
            rcases q123q with ⟨q123r, q123j⟩ | ⟨q123r, q123j⟩
            · rw [q123r]
              refine tw_if_eq 95 dX10_worldNow_65 (by decide) (fun _ => ?_) (fun c126 => absurd (by decide) c126)
              refine tw_bipush (v := 6) dX10_worldNow_95 (by decide) ?_
              refine tw_newa (a0 := (6, .inr (.inl (fun _ => 0)))) 1 rfl dX10_worldNow_97 rfl w_1150 (fun _ => rfl) (by decide) (by decide) (by decide) 0 0 (Nat.le_of_ble_eq_true rfl) (Nat.le_of_ble_eq_true rfl) (fun q127 hq128 hA129 => ?_)
              have n130 := sp111.nn hq128
              have z131 := sp111.1.none hq128
              have ne132 := tw_neF f116 hq128
              have ne133 := tw_neF ft112 hq128
              obtain ⟨h134, eh134⟩ : ∃ z : tw_H, z = tw_up h110 q127 (.inl (d.2 1, 6, .inr (.inl (fun _ => 0)))) := ⟨_, rfl⟩
              rw [← eh134]
              have sp135 : tw_sp d τ (tw_rm h100 it94) g τ h134 := by rw [eh134]; exact sp111.mk hq128
              have f136 : h134 it33 = some (.inr (2, [.int (nI j43), .int l44, .int (g.1 3), .ref lc_11])) := by rw [eh134, tw_up_n ne132]; exact f116
              have f137 : h134 it94 = some (.inr (2, [.int (nI j106), .int l107, .int (g.1 4), .ref lh_73])) := by rw [eh134, tw_up_n ne133]; exact ft112
              have f138 : h134 q127 = some (.inl (d.2 1, 6, .inr (.inl (fun _ => 0)))) := by rw [eh134]; exact tw_up_s
              refine tw_dup dX10_worldNow_99 rfl ?_
              refine tw_iconst (v := 0) dX10_worldNow_100 (by decide) ?_
              refine tw_lload_n 3 dX10_worldNow_101 rfl rfl ?_
              refine tw_last dX10_worldNow_102 f138 (vp_in_nI (n := 0) (by decide) (by decide)) ?_
              obtain ⟨F139, eF139⟩ : ∃ z : Nat → Int64, z = vp_updL (fun _ => 0) (0 : Int32).toNatClampNeg x41 := ⟨_, rfl⟩
              rw [← eF139]
              obtain ⟨h140, eh140⟩ : ∃ z : tw_H, z = tw_up h134 q127 (.inl (d.2 1, 6, .inr (.inl F139))) := ⟨_, rfl⟩
              rw [← eh140]
              have sp141 : tw_sp d τ (tw_rm h100 it94) g τ h140 := by rw [eh140]; exact sp135.wl n130 z131
              have f142 : h140 it33 = some (.inr (2, [.int (nI j43), .int l44, .int (g.1 3), .ref lc_11])) := by rw [eh140, tw_up_n ne132]; exact f136
              have f143 : h140 it94 = some (.inr (2, [.int (nI j106), .int l107, .int (g.1 4), .ref lh_73])) := by rw [eh140, tw_up_n ne133]; exact f137
              have f144 : h140 q127 = some (.inl (d.2 1, 6, .inr (.inl F139))) := by rw [eh140]; exact tw_up_s
              refine tw_dup dX10_worldNow_103 rfl ?_
              refine tw_iconst (v := 1) dX10_worldNow_104 (by decide) ?_
              refine tw_lload 4 dX10_worldNow_105 rfl ?_
              refine tw_last dX10_worldNow_107 f144 (vp_in_nI (n := 1) (by decide) (by decide)) ?_
              obtain ⟨F145, eF145⟩ : ∃ z : Nat → Int64, z = vp_updL F139 (1 : Int32).toNatClampNeg x104 := ⟨_, rfl⟩
              rw [← eF145]
              obtain ⟨h146, eh146⟩ : ∃ z : tw_H, z = tw_up h140 q127 (.inl (d.2 1, 6, .inr (.inl F145))) := ⟨_, rfl⟩
              rw [← eh146]
              have sp147 : tw_sp d τ (tw_rm h100 it94) g τ h146 := by rw [eh146]; exact sp141.wl n130 z131
              have f148 : h146 it33 = some (.inr (2, [.int (nI j43), .int l44, .int (g.1 3), .ref lc_11])) := by rw [eh146, tw_up_n ne132]; exact f142
              have f149 : h146 it94 = some (.inr (2, [.int (nI j106), .int l107, .int (g.1 4), .ref lh_73])) := by rw [eh146, tw_up_n ne133]; exact f143
              have f150 : h146 q127 = some (.inl (d.2 1, 6, .inr (.inl F145))) := by rw [eh146]; exact tw_up_s
              refine tw_dup dX10_worldNow_108 rfl ?_
              refine tw_iconst (v := 2) dX10_worldNow_109 (by decide) ?_
              refine tw_aload_n 0 dX10_worldNow_110 rfl rfl ?_
              obtain ⟨e151, f152, th_153, td_154, ds_155, fr_156, ca_157, us_158, wo_159, cm_160, lc_161, lh_162, ld_163, rfl, k164, k165, k166, k167, k168, k169, k170, k171, k172, k173, k174, k175, k176, k177⟩ := sp147.1 x 36 kx (by decide)
              refine tw_get (v := .ref ca_157) rfl in_14 5 dX10_worldNow_111 w_1156 rfl (by decide) f152 rfl ?_
              refine tw_iload_n 1 dX10_worldNow_114 rfl rfl ?_
              obtain ⟨e178, f179, F180, rfl⟩ := sp147.1 ca_157 31 k166 (by decide)
              obtain ⟨v181, ev181⟩ : ∃ y : Int64, F180 (m).toNatClampNeg = y := ⟨_, rfl⟩
              refine tw_lald (v := v181) dX10_worldNow_115 f179 hm ev181 ?_
              refine tw_last dX10_worldNow_116 f150 (vp_in_nI (n := 2) (by decide) (by decide)) ?_
              obtain ⟨F182, eF182⟩ : ∃ z : Nat → Int64, z = vp_updL F145 (2 : Int32).toNatClampNeg v181 := ⟨_, rfl⟩
              rw [← eF182]
              obtain ⟨h183, eh183⟩ : ∃ z : tw_H, z = tw_up h146 q127 (.inl (d.2 1, 6, .inr (.inl F182))) := ⟨_, rfl⟩
              rw [← eh183]
              have sp184 : tw_sp d τ (tw_rm h100 it94) g τ h183 := by rw [eh183]; exact sp147.wl n130 z131
              have f185 : h183 it33 = some (.inr (2, [.int (nI j43), .int l44, .int (g.1 3), .ref lc_11])) := by rw [eh183, tw_up_n ne132]; exact f148
              have f186 : h183 it94 = some (.inr (2, [.int (nI j106), .int l107, .int (g.1 4), .ref lh_73])) := by rw [eh183, tw_up_n ne133]; exact f149
              have f187 : h183 q127 = some (.inl (d.2 1, 6, .inr (.inl F182))) := by rw [eh183]; exact tw_up_s
              refine tw_dup dX10_worldNow_117 rfl ?_
              refine tw_iconst (v := 3) dX10_worldNow_118 (by decide) ?_
              refine tw_aload_n 0 dX10_worldNow_119 rfl rfl ?_
              obtain ⟨e188, f189, th_190, td_191, ds_192, fr_193, ca_194, us_195, wo_196, cm_197, lc_198, lh_199, ld_200, rfl, k201, k202, k203, k204, k205, k206, k207, k208, k209, k210, k211, k212, k213, k214⟩ := sp184.1 x 36 kx (by decide)
              refine tw_get (v := .ref us_195) rfl in_14 6 dX10_worldNow_120 w_1157 rfl (by decide) f189 rfl ?_
              refine tw_iload_n 1 dX10_worldNow_123 rfl rfl ?_
              obtain ⟨e215, f216, F217, rfl⟩ := sp184.1 us_195 31 k204 (by decide)
              obtain ⟨v218, ev218⟩ : ∃ y : Int64, F217 (m).toNatClampNeg = y := ⟨_, rfl⟩
              refine tw_lald (v := v218) dX10_worldNow_124 f216 hm ev218 ?_
              refine tw_last dX10_worldNow_125 f187 (vp_in_nI (n := 3) (by decide) (by decide)) ?_
              obtain ⟨F219, eF219⟩ : ∃ z : Nat → Int64, z = vp_updL F182 (3 : Int32).toNatClampNeg v218 := ⟨_, rfl⟩
              rw [← eF219]
              obtain ⟨h220, eh220⟩ : ∃ z : tw_H, z = tw_up h183 q127 (.inl (d.2 1, 6, .inr (.inl F219))) := ⟨_, rfl⟩
              rw [← eh220]
              have sp221 : tw_sp d τ (tw_rm h100 it94) g τ h220 := by rw [eh220]; exact sp184.wl n130 z131
              have f222 : h220 it33 = some (.inr (2, [.int (nI j43), .int l44, .int (g.1 3), .ref lc_11])) := by rw [eh220, tw_up_n ne132]; exact f185
              have f223 : h220 it94 = some (.inr (2, [.int (nI j106), .int l107, .int (g.1 4), .ref lh_73])) := by rw [eh220, tw_up_n ne133]; exact f186
              have f224 : h220 q127 = some (.inl (d.2 1, 6, .inr (.inl F219))) := by rw [eh220]; exact tw_up_s
              refine tw_dup dX10_worldNow_126 rfl ?_
              refine tw_iconst (v := 4) dX10_worldNow_127 (by decide) ?_
              refine tw_aload_n 0 dX10_worldNow_128 rfl rfl ?_
              obtain ⟨e225, f226, th_227, td_228, ds_229, fr_230, ca_231, us_232, wo_233, cm_234, lc_235, lh_236, ld_237, rfl, k238, k239, k240, k241, k242, k243, k244, k245, k246, k247, k248, k249, k250, k251⟩ := sp221.1 x 36 kx (by decide)
              refine tw_get (v := .ref wo_233) rfl in_14 7 dX10_worldNow_129 w_1158 rfl (by decide) f226 rfl ?_
              refine tw_iload_n 1 dX10_worldNow_132 rfl rfl ?_
              obtain ⟨e252, f253, F254, rfl⟩ := sp221.1 wo_233 31 k242 (by decide)
              obtain ⟨v255, ev255⟩ : ∃ y : Int64, F254 (m).toNatClampNeg = y := ⟨_, rfl⟩
              refine tw_lald (v := v255) dX10_worldNow_133 f253 hm ev255 ?_
              refine tw_last dX10_worldNow_134 f224 (vp_in_nI (n := 4) (by decide) (by decide)) ?_
              obtain ⟨F256, eF256⟩ : ∃ z : Nat → Int64, z = vp_updL F219 (4 : Int32).toNatClampNeg v255 := ⟨_, rfl⟩
              rw [← eF256]
              obtain ⟨h257, eh257⟩ : ∃ z : tw_H, z = tw_up h220 q127 (.inl (d.2 1, 6, .inr (.inl F256))) := ⟨_, rfl⟩
              rw [← eh257]
              have sp258 : tw_sp d τ (tw_rm h100 it94) g τ h257 := by rw [eh257]; exact sp221.wl n130 z131
              have f259 : h257 it33 = some (.inr (2, [.int (nI j43), .int l44, .int (g.1 3), .ref lc_11])) := by rw [eh257, tw_up_n ne132]; exact f222
              have f260 : h257 it94 = some (.inr (2, [.int (nI j106), .int l107, .int (g.1 4), .ref lh_73])) := by rw [eh257, tw_up_n ne133]; exact f223
              have f261 : h257 q127 = some (.inl (d.2 1, 6, .inr (.inl F256))) := by rw [eh257]; exact tw_up_s
              refine tw_dup dX10_worldNow_135 rfl ?_
              refine tw_iconst (v := 5) dX10_worldNow_136 (by decide) ?_
              refine tw_aload_n 0 dX10_worldNow_137 rfl rfl ?_
              obtain ⟨e262, f263, th_264, td_265, ds_266, fr_267, ca_268, us_269, wo_270, cm_271, lc_272, lh_273, ld_274, rfl, k275, k276, k277, k278, k279, k280, k281, k282, k283, k284, k285, k286, k287, k288⟩ := sp258.1 x 36 kx (by decide)
              refine tw_get (v := .ref cm_271) rfl in_14 8 dX10_worldNow_138 w_1159 rfl (by decide) f263 rfl ?_
              refine tw_iload_n 1 dX10_worldNow_141 rfl rfl ?_
              obtain ⟨e289, f290, F291, rfl⟩ := sp258.1 cm_271 31 k280 (by decide)
              obtain ⟨v292, ev292⟩ : ∃ y : Int64, F291 (m).toNatClampNeg = y := ⟨_, rfl⟩
              refine tw_lald (v := v292) dX10_worldNow_142 f290 hm ev292 ?_
              refine tw_last dX10_worldNow_143 f261 (vp_in_nI (n := 5) (by decide) (by decide)) ?_
              obtain ⟨F293, eF293⟩ : ∃ z : Nat → Int64, z = vp_updL F256 (5 : Int32).toNatClampNeg v292 := ⟨_, rfl⟩
              rw [← eF293]
              obtain ⟨h294, eh294⟩ : ∃ z : tw_H, z = tw_up h257 q127 (.inl (d.2 1, 6, .inr (.inl F293))) := ⟨_, rfl⟩
              rw [← eh294]
              have sp295 : tw_sp d τ (tw_rm h100 it94) g τ h294 := by rw [eh294]; exact sp258.wl n130 z131
              have f296 : h294 it33 = some (.inr (2, [.int (nI j43), .int l44, .int (g.1 3), .ref lc_11])) := by rw [eh294, tw_up_n ne132]; exact f259
              have f297 : h294 it94 = some (.inr (2, [.int (nI j106), .int l107, .int (g.1 4), .ref lh_73])) := by rw [eh294, tw_up_n ne133]; exact f260
              have f298 : h294 q127 = some (.inl (d.2 1, 6, .inr (.inl F293))) := by rw [eh294]; exact tw_up_s
              refine tw_astore [(7, .ref q127), (0, .ref x), (1, .int m), (2, .int w9), (3, .long x41), (5, .long x104)] dX10_worldNow_144 (by decide) rfl ?_
              refine tw_aload 0 dX10_worldNow_146 rfl ?_
              refine tw_iload_n 3 dX10_worldNow_148 rfl rfl ?_
              obtain ⟨v299, ev299⟩ : ∃ y : Int64, F293 (w9).toNatClampNeg = y := ⟨_, rfl⟩
              refine tw_lald (v := v299) dX10_worldNow_149 f298 hw9 ev299 ?_
              refine tw_l2i dX10_worldNow_150 ?_
              refine tw_nmi (fun v300 ev300 => ?_)
              exact tw_iret dX10_worldNow_151 rfl (Or.inl ⟨_, rfl, (sp39.trm n36 (sp101.trm n97 sp295))⟩)
            · rw [q123r]
              refine tw_if_eq 95 dX10_worldNow_65 (by decide) (fun c301 => absurd c301 (by decide)) (fun _ => ?_)
              refine tw_aload 5 dX10_worldNow_68 rfl ?_
              have k302 : τ el120 = 28 := k121.resolve_left (fun q => absurd q123j (by rw [q.2.1]; exact Nat.not_lt_zero _))
              obtain ⟨e303, f304, ⟨F305, rfl, hc306, hc307⟩, un308⟩ := sp111.1 el120 28 k302 (by decide)
              obtain ⟨y309, hy310, ky311⟩ := hc307 j106 q123j
              refine tw_br (tw_callF (M := mX10_worldNow) (pc := 70) (n9 := 0) (ci := 2) tw_next ok_itNext w_1425 w_1423 (fun s H z => z.2.2.2.2.2.2.2.2.2) (by decide +kernel) dX10_worldNow_70 w_1420 rfl ft112 [] [] rfl rfl ⟨by decide, by decide⟩ (Nat.le_of_ble_eq_true rfl) (c_next d h110 it94 lh_73 el120 j106 (g.2 4) y309 l107 (g.1 4) F305 ft112 f119 f304 q123j hc306 hy310) 1 6 (Nat.le_of_ble_eq_true rfl) (Nat.le_of_ble_eq_true rfl)) (fun r314 h313 q312 => ?_) (fun E h1 q => q.elim)
              obtain ⟨q312r, q312e⟩ := q312
              rw [q312r]
              have sp315 : tw_sp d τ (tw_rm h100 it94) g τ h313 := by rw [q312e]; exact sp111.wl tw_rm_s zt113
              have f316 : h313 it33 = some (.inr (2, [.int (nI j43), .int l44, .int (g.1 3), .ref lc_11])) := by rw [q312e, tw_up_n ne99]; exact f116
              have f317 : h313 it94 = some (.inr (2, [.int (nI (j106 + 1)), .int (nI j106), .int (g.1 4), .ref lh_73])) := by rw [q312e]; exact tw_up_s
              obtain ⟨e318, f319, x_320, y_321, dy_322, p_323, rfl, k324, k325, k326⟩ := sp315.1 y309 23 ky311 (by decide)
              refine tw_castS (ci := 13) rfl dX10_worldNow_75 w_1336 f319 ?_
              refine tw_astore [(8, .ref y309), (0, .ref x), (1, .int m), (2, .int w9), (3, .long x41), (5, .long x104), (7, .ref it94)] dX10_worldNow_78 (by decide) rfl ?_
              refine tw_lload 5 dX10_worldNow_80 rfl ?_
              refine tw_aload 0 dX10_worldNow_82 rfl ?_
              refine tw_get (v := .ref p_323) rfl in_13 3 dX10_worldNow_84 w_1348 rfl (by decide) f319 rfl ?_
              refine tw_iload_n 2 dX10_worldNow_87 rfl rfl ?_
              obtain ⟨e327, f328, F329, rfl⟩ := sp315.1 p_323 31 k324 (by decide)
              obtain ⟨v330, ev330⟩ : ∃ y : Int64, F329 (m).toNatClampNeg = y := ⟨_, rfl⟩
              refine tw_lald (v := v330) dX10_worldNow_88 f328 hm ev330 ?_
              refine tw_ladd dX10_worldNow_89 ?_
              refine tw_nml (fun v331 ev331 => ?_)
              refine tw_lstore [(5, .long v331), (8, .ref y309), (0, .ref x), (1, .int m), (2, .int w9), (3, .long x41), (7, .ref it94)] dX10_worldNow_90 (by decide) rfl ?_
              refine tw_goto 58 dX10_worldNow_92 (by decide) ?_
              refine tw_lv [2, 3, 4, 5, 0, 6] rfl ?_
              exact ih108 ((j106 + 1)) (nI j106) v331 _ sp315 f317 zt113  (by omega) (by omega)
        refine tw_lv [1, 2, 3, 4, 5, 0] rfl ?_
        exact L109 (g.2 4 + 1) 0 (-1) 0 _ (tw_sp.rm sp101.1 it94) f103 z98 (by omega) (Nat.zero_le _)
      · rw [q58r]
        refine tw_if_eq 49 dX10_worldNow_21 (by decide) (fun c332 => absurd c332 (by decide)) (fun _ => ?_)
        refine tw_aload 5 dX10_worldNow_24 rfl ?_
        have k333 : τ el55 = 27 := k56.resolve_left (fun q => absurd q58j (by rw [q.2.1]; exact Nat.not_lt_zero _))
        obtain ⟨e334, f335, ⟨F336, rfl, hc337, hc338⟩, un339⟩ := sp48.1 el55 27 k333 (by decide)
        obtain ⟨y340, hy341, ky342⟩ := hc338 j43 q58j
        refine tw_br (tw_callF (M := mX10_worldNow) (pc := 26) (n9 := 0) (ci := 2) tw_next ok_itNext w_1425 w_1423 (fun s H z => z.2.2.2.2.2.2.2.2.2) (by decide +kernel) dX10_worldNow_26 w_1420 rfl ft49 [] [] rfl rfl ⟨by decide, by decide⟩ (Nat.le_of_ble_eq_true rfl) (c_next d h47 it33 lc_11 el55 j43 (g.2 3) y340 l44 (g.1 3) F336 ft49 f54 f335 q58j hc337 hy341) 2 10 (Nat.le_of_ble_eq_true rfl) (Nat.le_of_ble_eq_true rfl)) (fun r345 h344 q343 => ?_) (fun E h1 q => q.elim)
        obtain ⟨q343r, q343e⟩ := q343
        rw [q343r]
        have sp346 : tw_sp d τ (tw_rm h38 it33) g τ h344 := by rw [q343e]; exact sp48.wl tw_rm_s zt50
        have f347 : h344 it33 = some (.inr (2, [.int (nI (j43 + 1)), .int (nI j43), .int (g.1 3), .ref lc_11])) := by rw [q343e]; exact tw_up_s
        obtain ⟨e348, f349, r_350, c_351, v_352, o_353, t_354, rfl, k355, k356, k357, k358, k359⟩ := sp346.1 y340 21 ky342 (by decide)
        refine tw_castS (ci := 11) rfl dX10_worldNow_31 w_1212 f349 ?_
        refine tw_astore [(8, .ref y340), (0, .ref x), (1, .int m), (2, .int w9), (3, .long x41), (5, .long 0), (7, .ref it33)] dX10_worldNow_34 (by decide) rfl ?_
        refine tw_lload_n 4 dX10_worldNow_36 rfl rfl ?_
        refine tw_aload 0 dX10_worldNow_37 rfl ?_
        refine tw_get (v := .ref v_352) rfl in_11 2 dX10_worldNow_39 w_1221 rfl (by decide) f349 rfl ?_
        refine tw_iload_n 2 dX10_worldNow_42 rfl rfl ?_
        obtain ⟨e360, f361, F362, rfl⟩ := sp346.1 v_352 31 k355 (by decide)
        obtain ⟨v363, ev363⟩ : ∃ y : Int64, F362 (m).toNatClampNeg = y := ⟨_, rfl⟩
        refine tw_lald (v := v363) dX10_worldNow_43 f361 hm ev363 ?_
        refine tw_ladd dX10_worldNow_44 ?_
        refine tw_nml (fun v364 ev364 => ?_)
        refine tw_lstore_n [(3, .long v364), (8, .ref y340), (0, .ref x), (1, .int m), (2, .int w9), (5, .long 0), (7, .ref it33)] dX10_worldNow_45 rfl (by decide) rfl ?_
        refine tw_goto 14 dX10_worldNow_46 (by decide) ?_
        refine tw_lv [2, 3, 4, 0, 5, 6] rfl ?_
        exact ih45 ((j43 + 1)) (nI j43) v364 _ sp346 f347 zt50  (by omega) (by omega)
  refine tw_lv [3, 4, 5, 2, 1, 0] rfl ?_
  exact L46 (g.2 3 + 1) 0 (-1) 0 _ (tw_sp.rm sp39.1 it33) f40 z37 (by omega) (Nat.zero_le _)

set_option maxHeartbeats 4000000 in
set_option maxRecDepth 100000 in
theorem c_X10_world (d : tw_D) (g : tw_G) (τ : tw_K) (h : tw_H) (hw : tw_wt d g τ h) (x : Nat) (kx : τ x = 36) (m : Int32) (w9 : Int32) : tw_Ct d mX10_world 3 14 [.ref x, .int m, .int w9] h (tw_qi (fun r h1 => tw_sp d τ h g τ h1) tw_nx) := by
  refine tw_of (by decide +kernel) (Nat.le_of_ble_eq_true rfl) ?_
  show tw_W d mX10_world _ 0 [(0, .ref x), (1, .int m), (2, .int w9)] [] h 3 14
  have sp0 := tw_sp.rf hw
  refine tw_aload_n 0 dX10_world_0 rfl rfl ?_
  refine tw_iload_n 1 dX10_world_1 rfl rfl ?_
  refine tw_bi (tw_callS (M := mX10_world) (pc := 2) okX10_isNoMetal dX10_world_2 w_1312 [.int m] [.ref x] rfl rfl ⟨by decide, by decide⟩ (Nat.le_of_ble_eq_true rfl) (c_X10_isNoMetal d g τ h sp0.1 m) 3 14 (Nat.le_of_ble_eq_true rfl) (Nat.le_of_ble_eq_true rfl)) (fun r3 h2 q1 => ?_) (fun E h1 q => q.elim)
  obtain ⟨q1e, q1d⟩ := q1
  rw [q1e]
  rcases q1d with q1r | ⟨q1r, q1m⟩
  · rw [q1r]
    refine tw_if_ne 17 dX10_world_5 (by decide) (fun _ => ?_) (fun c4 => absurd c4 (by decide))
    refine tw_iconst (v := 1) dX10_world_17 (by decide) ?_
    refine tw_goto 22 dX10_world_18 (by decide) ?_
    refine tw_iconst (v := 1) dX10_world_22 (by decide) ?_
    obtain ⟨e5, f6, th_7, td_8, ds_9, fr_10, ca_11, us_12, wo_13, cm_14, lc_15, lh_16, ld_17, rfl, k18, k19, k20, k21, k22, k23, k24, k25, k26, k27, k28, k29, k30, k31⟩ := sp0.1 x 36 kx (by decide)
    refine tw_bi (tw_callV (M := mX10_world) (pc := 23) okX10_start dX10_world_23 w_1200 rfl f6 [.int 1, .int 1] [] rfl rfl ⟨by decide, by decide⟩ (Nat.le_of_ble_eq_true rfl) (c_X10_start d g τ h sp0.1 x kx 1 1 (by decide)) 3 14 (Nat.le_of_ble_eq_true rfl) (Nat.le_of_ble_eq_true rfl)) (fun r34 h33 q32 => ?_) (fun E h1 q => q.elim)
    obtain ⟨e35, he36, hs37, hr38, h339⟩ := q32
    have sp40 : tw_sp d τ h g τ h33 := by rw [he36]; exact sp0.set kx (by decide) hs37
    rcases hr38 with ei41 | ⟨ei41, ei41b⟩
    · rw [ei41]
      refine tw_if_eq 33 dX10_world_26 (by decide) (fun c42 => absurd c42 (by decide)) (fun _ => ?_)
      refine tw_iconst (v := 0) dX10_world_29 (by decide) ?_
      refine tw_goto 39 dX10_world_30 (by decide) ?_
      exact tw_iret dX10_world_39 rfl (Or.inl ⟨_, rfl, sp40⟩)
    · exact absurd ei41b (by decide)
  · rw [q1r]
    refine tw_if_ne 17 dX10_world_5 (by decide) (fun c43 => absurd (by decide) c43) (fun _ => ?_)
    refine tw_iload_n 2 dX10_world_8 rfl rfl ?_
    refine tw_iconst (v := 0) dX10_world_9 (by decide) ?_
    refine tw_iconst (v := 5) dX10_world_10 (by decide) ?_
    refine tw_bi (tw_callS (M := mX10_world) (pc := 11) okX10_isIn dX10_world_11 w_1196 [.int w9, .int 0, .int 5] [.ref x] rfl rfl ⟨by decide, by decide⟩ (Nat.le_of_ble_eq_true rfl) (c_X10_isIn d g τ h sp0.1 w9 0 5) 3 14 (Nat.le_of_ble_eq_true rfl) (Nat.le_of_ble_eq_true rfl)) (fun r46 h45 q44 => ?_) (fun E h1 q => q.elim)
    obtain ⟨q44e, q44d⟩ := q44
    rw [q44e]
    rcases q44d with ⟨q44r, q44n⟩ | ⟨q44r, q44a, q44b⟩
    · rw [q44r]
      refine tw_if_ne 21 dX10_world_14 (by decide) (fun c47 => absurd (by decide) c47) (fun _ => ?_)
      refine tw_iconst (v := 1) dX10_world_17 (by decide) ?_
      refine tw_goto 22 dX10_world_18 (by decide) ?_
      refine tw_iconst (v := 1) dX10_world_22 (by decide) ?_
      obtain ⟨e48, f49, th_50, td_51, ds_52, fr_53, ca_54, us_55, wo_56, cm_57, lc_58, lh_59, ld_60, rfl, k61, k62, k63, k64, k65, k66, k67, k68, k69, k70, k71, k72, k73, k74⟩ := sp0.1 x 36 kx (by decide)
      refine tw_bi (tw_callV (M := mX10_world) (pc := 23) okX10_start dX10_world_23 w_1200 rfl f49 [.int 1, .int 1] [] rfl rfl ⟨by decide, by decide⟩ (Nat.le_of_ble_eq_true rfl) (c_X10_start d g τ h sp0.1 x kx 1 1 (by decide)) 3 14 (Nat.le_of_ble_eq_true rfl) (Nat.le_of_ble_eq_true rfl)) (fun r77 h76 q75 => ?_) (fun E h1 q => q.elim)
      obtain ⟨e78, he79, hs80, hr81, h382⟩ := q75
      have sp83 : tw_sp d τ h g τ h76 := by rw [he79]; exact sp0.set kx (by decide) hs80
      rcases hr81 with ei84 | ⟨ei84, ei84b⟩
      · rw [ei84]
        refine tw_if_eq 33 dX10_world_26 (by decide) (fun c85 => absurd c85 (by decide)) (fun _ => ?_)
        refine tw_iconst (v := 0) dX10_world_29 (by decide) ?_
        refine tw_goto 39 dX10_world_30 (by decide) ?_
        exact tw_iret dX10_world_39 rfl (Or.inl ⟨_, rfl, sp83⟩)
      · exact absurd ei84b (by decide)
    · rw [q44r]
      refine tw_if_ne 21 dX10_world_14 (by decide) (fun _ => ?_) (fun c86 => absurd c86 (by decide))
      refine tw_iconst (v := 0) dX10_world_21 (by decide) ?_
      refine tw_iconst (v := 1) dX10_world_22 (by decide) ?_
      obtain ⟨e87, f88, th_89, td_90, ds_91, fr_92, ca_93, us_94, wo_95, cm_96, lc_97, lh_98, ld_99, rfl, k100, k101, k102, k103, k104, k105, k106, k107, k108, k109, k110, k111, k112, k113⟩ := sp0.1 x 36 kx (by decide)
      refine tw_bi (tw_callV (M := mX10_world) (pc := 23) okX10_start dX10_world_23 w_1200 rfl f88 [.int 0, .int 1] [] rfl rfl ⟨by decide, by decide⟩ (Nat.le_of_ble_eq_true rfl) (c_X10_start d g τ h sp0.1 x kx 0 1 (by decide)) 3 14 (Nat.le_of_ble_eq_true rfl) (Nat.le_of_ble_eq_true rfl)) (fun r116 h115 q114 => ?_) (fun E h1 q => q.elim)
      obtain ⟨e117, he118, hs119, hr120, h3121⟩ := q114
      have sp122 : tw_sp d τ h g τ h115 := by rw [he118]; exact sp0.set kx (by decide) hs119
      rcases hr120 with ei123 | ⟨ei123, ei123b⟩
      · rw [ei123]
        refine tw_if_eq 33 dX10_world_26 (by decide) (fun c124 => absurd c124 (by decide)) (fun _ => ?_)
        refine tw_iconst (v := 0) dX10_world_29 (by decide) ?_
        refine tw_goto 39 dX10_world_30 (by decide) ?_
        exact tw_iret dX10_world_39 rfl (Or.inl ⟨_, rfl, sp122⟩)
      · rw [ei123]
        refine tw_if_eq 33 dX10_world_26 (by decide) (fun _ => ?_) (fun c125 => absurd (by decide) c125)
        refine tw_aload_n 0 dX10_world_33 rfl rfl ?_
        refine tw_iload_n 1 dX10_world_34 rfl rfl ?_
        refine tw_iload_n 2 dX10_world_35 rfl rfl ?_
        obtain ⟨e126, f127, th_128, td_129, ds_130, fr_131, ca_132, us_133, wo_134, cm_135, lc_136, lh_137, ld_138, rfl, k139, k140, k141, k142, k143, k144, k145, k146, k147, k148, k149, k150, k151, k152⟩ := sp122.1 x 36 kx (by decide)
        refine tw_bi (tw_callV (M := mX10_world) (pc := 36) okX10_worldNow dX10_world_36 w_1537 rfl f127 [.int m, .int w9] [] rfl rfl ⟨by decide, by decide⟩ (Nat.le_of_ble_eq_true rfl) (c_X10_worldNow d g τ h115 sp122.1 x kx m w9 (tw_in01 q1m (by decide)) (tw_irng (N := 6) q44a q44b (by decide) (by decide))) 0 0 (Nat.le_of_ble_eq_true rfl) (Nat.le_of_ble_eq_true rfl)) (fun r155 h154 q153 => ?_) (fun E h1 q => q.elim)
        have sp156 := sp122.tr q153
        exact tw_iret dX10_world_39 rfl (Or.inl ⟨_, rfl, sp156⟩)

set_option maxHeartbeats 4000000 in
set_option maxRecDepth 100000 in
theorem c_X10_ofCountryNow (d : tw_D) (g : tw_G) (τ : tw_K) (h : tw_H) (hw : tw_wt d g τ h) (x : Nat) (kx : τ x = 36) (w9 : Int32) (a : Nat) (ha : a < g.2 3) (hw9 : vp_in w9 9) : tw_Ct d mX10_ofCountryNow 3 17 [.ref x, .int (nI a), .int w9] h (tw_qi (fun r h1 => tw_sp d τ h g τ h1) tw_nx) := by
  refine tw_of (by decide +kernel) (Nat.le_of_ble_eq_true rfl) ?_
  show tw_W d mX10_ofCountryNow _ 0 [(0, .ref x), (1, .int (nI a)), (2, .int w9)] [] h 3 17
  have sp0 := tw_sp.rf hw
  refine tw_aload_n 0 dX10_ofCountryNow_0 rfl rfl ?_
  obtain ⟨e1, f2, th_3, td_4, ds_5, fr_6, ca_7, us_8, wo_9, cm_10, lc_11, lh_12, ld_13, rfl, k14, k15, k16, k17, k18, k19, k20, k21, k22, k23, k24, k25, k26, k27⟩ := sp0.1 x 36 kx (by decide)
  refine tw_get (v := .ref lc_11) rfl in_14 9 dX10_ofCountryNow_1 w_1160 rfl (by decide) f2 rfl ?_
  refine tw_iload_n 1 dX10_ofCountryNow_4 rfl rfl ?_
  obtain ⟨e28, f29, ⟨el30, rfl, k31⟩, k32⟩ := sp0.1 lc_11 24 k20 (by decide)
  refine tw_br (tw_callV (M := mX10_ofCountryNow) (pc := 5) okJx4a65c_get_915e3 dX10_ofCountryNow_5 w_1296 rfl f29 [.int (nI a)] [] rfl rfl ⟨by decide, by decide⟩ (Nat.le_of_ble_eq_true rfl) (c24_get d g τ h sp0.1 lc_11 k20 a (by omega) (by omega)) 3 17 (Nat.le_of_ble_eq_true rfl) (Nat.le_of_ble_eq_true rfl)) (fun r35 h34 q33 => ?_) (fun E h1 q => q.elim)
  obtain ⟨q33e, q33k⟩ := q33
  rw [q33e]
  have el36 : tw_el h (g.2 12) a = r35 := by rw [← k32]; exact q33k.2.symm
  have kl37 : τ (g.2 12) = 24 := by rw [← k32]; exact k20
  obtain ⟨e38, f39, r_40, c_41, v_42, o_43, t_44, rfl, k45, k46, k47, k48, k49⟩ := sp0.1 r35 21 q33k.1 (by decide)
  refine tw_castS (ci := 11) rfl dX10_ofCountryNow_8 w_1212 f39 ?_
  refine tw_astore_n [(3, .ref r35), (0, .ref x), (1, .int (nI a)), (2, .int w9)] dX10_ofCountryNow_11 rfl (by decide) rfl ?_
  refine tw_iconst (v := 0) dX10_ofCountryNow_12 (by decide) ?_
  refine tw_istore [(4, .int 0), (3, .ref r35), (0, .ref x), (1, .int (nI a)), (2, .int w9)] dX10_ofCountryNow_13 (by decide) rfl ?_
  refine tw_iconst (v := 0) dX10_ofCountryNow_15 (by decide) ?_
  refine tw_istore [(5, .int 0), (4, .int 0), (3, .ref r35), (0, .ref x), (1, .int (nI a)), (2, .int w9)] dX10_ofCountryNow_16 (by decide) rfl ?_
  refine tw_iconst (v := 0) dX10_ofCountryNow_18 (by decide) ?_
  refine tw_istore [(6, .int 0), (5, .int 0), (4, .int 0), (3, .ref r35), (0, .ref x), (1, .int (nI a)), (2, .int w9)] dX10_ofCountryNow_19 (by decide) rfl ?_
  refine tw_aload_n 4 dX10_ofCountryNow_21 rfl rfl ?_
  refine tw_get (v := .ref lh_12) rfl in_14 10 dX10_ofCountryNow_22 w_1161 rfl (by decide) f2 rfl ?_
  obtain ⟨e50, f51, ⟨el52, rfl, k53⟩, k54⟩ := sp0.1 lh_12 25 k21 (by decide)
  refine tw_br (tw_callV (M := mX10_ofCountryNow) (pc := 25) okJx4a65c_iterator_32c93 dX10_ofCountryNow_25 w_1386 rfl f51 [] [] rfl rfl ⟨by decide, by decide⟩ (Nat.le_of_ble_eq_true rfl) (c_iterator d h lh_12 el52 (g.1 4) (nI (g.2 4)) f51) 2 13 (Nat.le_of_ble_eq_true rfl) (Nat.le_of_ble_eq_true rfl)) (fun it55 h56 q57 => ?_) (fun E h1 q => q.elim)
  obtain ⟨q57n, q57e⟩ := q57
  rw [q57e]
  have n58 := sp0.nn q57n
  have z59 := sp0.1.none q57n
  obtain ⟨h60, eh60⟩ : ∃ z : tw_H, z = tw_up h it55 (.inr (2, [.int 0, .int (-1), .int (g.1 4), .ref lh_12])) := ⟨_, rfl⟩
  rw [← eh60]
  have sp61 : tw_sp d τ h g τ h60 := by rw [eh60]; exact sp0.mk q57n
  have f62 : h60 it55 = some (.inr (2, [.int 0, .int (-1), .int (g.1 4), .ref lh_12])) := by rw [eh60]; exact tw_up_s
  refine tw_astore [(7, .ref it55), (6, .int 0), (5, .int 0), (4, .int 0), (3, .ref r35), (0, .ref x), (1, .int (nI a)), (2, .int w9)] dX10_ofCountryNow_28 (by decide) rfl ?_
  have L68 : ∀ (r64 j65 : Nat) (l66 : Int32) (x63 : Int32) (h69 : tw_H) (sp70 : tw_sp d τ (tw_rm h60 it55) g τ h69) (ft71 : h69 it55 = some (.inr (2, [.int (nI j65), .int l66, .int (g.1 4), .ref lh_12]))) (zt72 : τ it55 = 0), g.2 4 + 1 ≤ j65 + r64 → j65 ≤ g.2 4 → tw_W d mX10_ofCountryNow (tw_qi (fun r h1 => tw_sp d τ h g τ h1) tw_nx) 30 [(0, .ref x), (1, .int (nI a)), (2, .int w9), (3, .ref r35), (4, .int x63), (5, .int 0), (6, .int 0), (7, .ref it55)] [] h69 2 13 := by
    intro r64
    induction r64 with
    | zero => intro j65 l66 x63 h69 sp70 ft71 zt72 hk73 hk74; exact absurd hk73 (by omega)
    | succ r64 ih67 =>
      intro j65 l66 x63 h69 sp70 ft71 zt72 hk73 hk74
      refine tw_aload 7 dX10_ofCountryNow_30 rfl ?_
      obtain ⟨e75, f76, ⟨el77, rfl, k78⟩, k79⟩ := sp70.1 lh_12 25 k21 (by decide)
      refine tw_bi (tw_callF (M := mX10_ofCountryNow) (pc := 32) (n9 := 0) (ci := 2) tw_hasNext ok_itHas w_1416 w_1414 (fun s H z => z.2.2.2.2.2.2.2.2.1) (by decide +kernel) dX10_ofCountryNow_32 w_1410 rfl ft71 [] [] rfl rfl ⟨by decide, by decide⟩ (Nat.le_of_ble_eq_true rfl) (c_hasNext d h69 it55 lh_12 el77 j65 (g.2 4) l66 (g.1 4) (g.1 4) ft71 f76 (by omega) (tw_lim25 sp70.1 k21)) 2 13 (Nat.le_of_ble_eq_true rfl) (Nat.le_of_ble_eq_true rfl)) (fun r82 h81 q80 => ?_) (fun E h1 q => q.elim)
      obtain ⟨q80e, q80q⟩ := q80
      rw [q80e]
      rcases q80q with ⟨q80r, q80j⟩ | ⟨q80r, q80j⟩
      · rw [q80r]
        refine tw_if_eq 74 dX10_ofCountryNow_37 (by decide) (fun _ => ?_) (fun c83 => absurd (by decide) c83)
        refine tw_iconst (v := 0) dX10_ofCountryNow_74 (by decide) ?_
        refine tw_istore [(7, .int 0), (0, .ref x), (1, .int (nI a)), (2, .int w9), (3, .ref r35), (4, .int x63), (5, .int 0), (6, .int 0)] dX10_ofCountryNow_75 (by decide) rfl ?_
        have L88 : ∀ (r86 k85 : Nat) (x84 : Int32), 5 + 1 ≤ k85 + r86 → k85 ≤ 5 → tw_W d mX10_ofCountryNow (tw_qi (fun r h1 => tw_sp d τ h g τ h1) tw_nx) 77 [(0, .ref x), (1, .int (nI a)), (2, .int w9), (3, .ref r35), (4, .int x63), (5, .int x84), (6, .int 0), (7, .int (nI k85))] [] h69 2 13 := by
          intro r86
          induction r86 with
          | zero => intro k85 x84 hk92 hk93; exact absurd hk92 (by omega)
          | succ r86 ih87 =>
            intro k85 x84 hk92 hk93
            refine tw_iload 7 dX10_ofCountryNow_77 rfl ?_
            refine tw_iconst (v := 5) dX10_ofCountryNow_79 (by decide) ?_
            refine tw_icmp_ge 108 dX10_ofCountryNow_80 (by decide) (fun c94 => ?_) (fun c94 => ?_)
            · refine tw_aload_n 0 dX10_ofCountryNow_108 rfl rfl ?_
              obtain ⟨e95, f96, th_97, td_98, ds_99, fr_100, ca_101, us_102, wo_103, cm_104, lc_105, lh_106, ld_107, rfl, k108, k109, k110, k111, k112, k113, k114, k115, k116, k117, k118, k119, k120, k121⟩ := sp70.1 x 36 kx (by decide)
              refine tw_get (v := .ref lc_105) rfl in_14 9 dX10_ofCountryNow_109 w_1160 rfl (by decide) f96 rfl ?_
              obtain ⟨e122, f123, ⟨el124, rfl, k125⟩, k126⟩ := sp70.1 lc_105 24 k114 (by decide)
              refine tw_br (tw_callV (M := mX10_ofCountryNow) (pc := 112) okJx4a65c_iterator_32c93 dX10_ofCountryNow_112 w_1386 rfl f123 [] [] rfl rfl ⟨by decide, by decide⟩ (Nat.le_of_ble_eq_true rfl) (c_iterator d h69 lc_105 el124 (g.1 3) (nI (g.2 3)) f123) 1 9 (Nat.le_of_ble_eq_true rfl) (Nat.le_of_ble_eq_true rfl)) (fun it127 h128 q129 => ?_) (fun E h1 q => q.elim)
              obtain ⟨q129n, q129e⟩ := q129
              rw [q129e]
              have n130 := sp70.nn q129n
              have z131 := sp70.1.none q129n
              have ne132 := tw_neF ft71 q129n
              obtain ⟨h133, eh133⟩ : ∃ z : tw_H, z = tw_up h69 it127 (.inr (2, [.int 0, .int (-1), .int (g.1 3), .ref lc_105])) := ⟨_, rfl⟩
              rw [← eh133]
              have sp134 : tw_sp d τ (tw_rm h60 it55) g τ h133 := by rw [eh133]; exact sp70.mk q129n
              have f135 : h133 it55 = some (.inr (2, [.int (nI j65), .int l66, .int (g.1 4), .ref lh_12])) := by rw [eh133, tw_up_n ne132]; exact ft71
              have f136 : h133 it127 = some (.inr (2, [.int 0, .int (-1), .int (g.1 3), .ref lc_105])) := by rw [eh133]; exact tw_up_s
              refine tw_astore [(7, .ref it127), (0, .ref x), (1, .int (nI a)), (2, .int w9), (3, .ref r35), (4, .int x63), (5, .int x84), (6, .int 0)] dX10_ofCountryNow_115 (by decide) rfl ?_
              have L142 : ∀ (r138 j139 : Nat) (l140 : Int32) (x137 : Int32) (h143 : tw_H) (sp144 : tw_sp d τ (tw_rm h133 it127) g τ h143) (ft145 : h143 it127 = some (.inr (2, [.int (nI j139), .int l140, .int (g.1 3), .ref lc_105]))) (zt146 : τ it127 = 0), g.2 3 + 1 ≤ j139 + r138 → j139 ≤ g.2 3 → tw_W d mX10_ofCountryNow (tw_qi (fun r h1 => tw_sp d τ h g τ h1) tw_nx) 117 [(0, .ref x), (1, .int (nI a)), (2, .int w9), (3, .ref r35), (4, .int x63), (5, .int x84), (6, .int x137), (7, .ref it127)] [] h143 1 9 := by
                intro r138
                induction r138 with
                | zero => intro j139 l140 x137 h143 sp144 ft145 zt146 hk147 hk148; exact absurd hk147 (by omega)
                | succ r138 ih141 =>
                  intro j139 l140 x137 h143 sp144 ft145 zt146 hk147 hk148
                  have f149 := (sp144.2.2 _ _ (by unfold tw_rm; rw [if_neg ne132]; exact f135) zt72).1
                  have z150 := (sp144.2.2 _ _ (by unfold tw_rm; rw [if_neg ne132]; exact f135) zt72).2
                  refine tw_aload 7 dX10_ofCountryNow_117 rfl ?_
                  obtain ⟨e151, f152, ⟨el153, rfl, k154⟩, k155⟩ := sp144.1 lc_105 24 k114 (by decide)
                  refine tw_bi (tw_callF (M := mX10_ofCountryNow) (pc := 119) (n9 := 0) (ci := 2) tw_hasNext ok_itHas w_1416 w_1414 (fun s H z => z.2.2.2.2.2.2.2.2.1) (by decide +kernel) dX10_ofCountryNow_119 w_1410 rfl ft145 [] [] rfl rfl ⟨by decide, by decide⟩ (Nat.le_of_ble_eq_true rfl) (c_hasNext d h143 it127 lc_105 el153 j139 (g.2 3) l140 (g.1 3) (g.1 3) ft145 f152 (by omega) (tw_lim24 sp144.1 k114)) 1 9 (Nat.le_of_ble_eq_true rfl) (Nat.le_of_ble_eq_true rfl)) (fun r158 h157 q156 => ?_) (fun E h1 q => q.elim)
                  obtain ⟨q156e, q156q⟩ := q156
                  rw [q156e]
                  rcases q156q with ⟨q156r, q156j⟩ | ⟨q156r, q156j⟩
                  · rw [q156r]
                    refine tw_if_eq 164 dX10_ofCountryNow_124 (by decide) (fun _ => ?_) (fun c159 => absurd (by decide) c159)
                    refine tw_bipush (v := 9) dX10_ofCountryNow_164 (by decide) ?_
                    refine tw_newa (a0 := (9, .inr (.inl (fun _ => 0)))) 1 rfl dX10_ofCountryNow_166 rfl w_1150 (fun _ => rfl) (by decide) (by decide) (by decide) 0 0 (Nat.le_of_ble_eq_true rfl) (Nat.le_of_ble_eq_true rfl) (fun q160 hq161 hA162 => ?_)
                    have n163 := sp144.nn hq161
                    have z164 := sp144.1.none hq161
                    have ne165 := tw_neF f149 hq161
                    have ne166 := tw_neF ft145 hq161
                    obtain ⟨h167, eh167⟩ : ∃ z : tw_H, z = tw_up h143 q160 (.inl (d.2 1, 9, .inr (.inl (fun _ => 0)))) := ⟨_, rfl⟩
                    rw [← eh167]
                    have sp168 : tw_sp d τ (tw_rm h133 it127) g τ h167 := by rw [eh167]; exact sp144.mk hq161
                    have f169 : h167 it55 = some (.inr (2, [.int (nI j65), .int l66, .int (g.1 4), .ref lh_12])) := by rw [eh167, tw_up_n ne165]; exact f149
                    have f170 : h167 it127 = some (.inr (2, [.int (nI j139), .int l140, .int (g.1 3), .ref lc_105])) := by rw [eh167, tw_up_n ne166]; exact ft145
                    have f171 : h167 q160 = some (.inl (d.2 1, 9, .inr (.inl (fun _ => 0)))) := by rw [eh167]; exact tw_up_s
                    refine tw_dup dX10_ofCountryNow_168 rfl ?_
                    refine tw_iconst (v := 0) dX10_ofCountryNow_169 (by decide) ?_
                    refine tw_aload_n 3 dX10_ofCountryNow_170 rfl rfl ?_
                    obtain ⟨e172, f173, r_174, c_175, v_176, o_177, t_178, rfl, k179, k180, k181, k182, k183⟩ := sp168.1 r35 21 q33k.1 (by decide)
                    refine tw_get (v := .int r_174) rfl in_11 0 dX10_ofCountryNow_171 w_1218 rfl (by decide) f173 rfl ?_
                    refine tw_i2l dX10_ofCountryNow_174 ?_
                    refine tw_nml (fun v184 ev184 => ?_)
                    refine tw_last dX10_ofCountryNow_175 f171 (vp_in_nI (n := 0) (by decide) (by decide)) ?_
                    obtain ⟨F185, eF185⟩ : ∃ z : Nat → Int64, z = vp_updL (fun _ => 0) (0 : Int32).toNatClampNeg v184 := ⟨_, rfl⟩
                    rw [← eF185]
                    obtain ⟨h186, eh186⟩ : ∃ z : tw_H, z = tw_up h167 q160 (.inl (d.2 1, 9, .inr (.inl F185))) := ⟨_, rfl⟩
                    rw [← eh186]
                    have sp187 : tw_sp d τ (tw_rm h133 it127) g τ h186 := by rw [eh186]; exact sp168.wl n163 z164
                    have f188 : h186 it55 = some (.inr (2, [.int (nI j65), .int l66, .int (g.1 4), .ref lh_12])) := by rw [eh186, tw_up_n ne165]; exact f169
                    have f189 : h186 it127 = some (.inr (2, [.int (nI j139), .int l140, .int (g.1 3), .ref lc_105])) := by rw [eh186, tw_up_n ne166]; exact f170
                    have f190 : h186 q160 = some (.inl (d.2 1, 9, .inr (.inl F185))) := by rw [eh186]; exact tw_up_s
                    refine tw_dup dX10_ofCountryNow_176 rfl ?_
                    refine tw_iconst (v := 1) dX10_ofCountryNow_177 (by decide) ?_
                    refine tw_aload_n 3 dX10_ofCountryNow_178 rfl rfl ?_
                    obtain ⟨e191, f192, r_193, c_194, v_195, o_196, t_197, rfl, k198, k199, k200, k201, k202⟩ := sp187.1 r35 21 q33k.1 (by decide)
                    refine tw_get (v := .int c_194) rfl in_11 1 dX10_ofCountryNow_179 w_1219 rfl (by decide) f192 rfl ?_
                    refine tw_i2l dX10_ofCountryNow_182 ?_
                    refine tw_nml (fun v203 ev203 => ?_)
                    refine tw_last dX10_ofCountryNow_183 f190 (vp_in_nI (n := 1) (by decide) (by decide)) ?_
                    obtain ⟨F204, eF204⟩ : ∃ z : Nat → Int64, z = vp_updL F185 (1 : Int32).toNatClampNeg v203 := ⟨_, rfl⟩
                    rw [← eF204]
                    obtain ⟨h205, eh205⟩ : ∃ z : tw_H, z = tw_up h186 q160 (.inl (d.2 1, 9, .inr (.inl F204))) := ⟨_, rfl⟩
                    rw [← eh205]
                    have sp206 : tw_sp d τ (tw_rm h133 it127) g τ h205 := by rw [eh205]; exact sp187.wl n163 z164
                    have f207 : h205 it55 = some (.inr (2, [.int (nI j65), .int l66, .int (g.1 4), .ref lh_12])) := by rw [eh205, tw_up_n ne165]; exact f188
                    have f208 : h205 it127 = some (.inr (2, [.int (nI j139), .int l140, .int (g.1 3), .ref lc_105])) := by rw [eh205, tw_up_n ne166]; exact f189
                    have f209 : h205 q160 = some (.inl (d.2 1, 9, .inr (.inl F204))) := by rw [eh205]; exact tw_up_s
                    refine tw_dup dX10_ofCountryNow_184 rfl ?_
                    refine tw_iconst (v := 2) dX10_ofCountryNow_185 (by decide) ?_
                    refine tw_aload_n 3 dX10_ofCountryNow_186 rfl rfl ?_
                    obtain ⟨e210, f211, r_212, c_213, v_214, o_215, t_216, rfl, k217, k218, k219, k220, k221⟩ := sp206.1 r35 21 q33k.1 (by decide)
                    refine tw_get (v := .ref v_214) rfl in_11 2 dX10_ofCountryNow_187 w_1221 rfl (by decide) f211 rfl ?_
                    refine tw_iconst (v := 0) dX10_ofCountryNow_190 (by decide) ?_
                    obtain ⟨e222, f223, F224, rfl⟩ := sp206.1 v_214 31 k217 (by decide)
                    obtain ⟨v225, ev225⟩ : ∃ y : Int64, F224 (0 : Int32).toNatClampNeg = y := ⟨_, rfl⟩
                    refine tw_lald (v := v225) dX10_ofCountryNow_191 f223 (vp_in_nI (n := 0) (by decide) (by decide)) ev225 ?_
                    refine tw_last dX10_ofCountryNow_192 f209 (vp_in_nI (n := 2) (by decide) (by decide)) ?_
                    obtain ⟨F226, eF226⟩ : ∃ z : Nat → Int64, z = vp_updL F204 (2 : Int32).toNatClampNeg v225 := ⟨_, rfl⟩
                    rw [← eF226]
                    obtain ⟨h227, eh227⟩ : ∃ z : tw_H, z = tw_up h205 q160 (.inl (d.2 1, 9, .inr (.inl F226))) := ⟨_, rfl⟩
                    rw [← eh227]
                    have sp228 : tw_sp d τ (tw_rm h133 it127) g τ h227 := by rw [eh227]; exact sp206.wl n163 z164
                    have f229 : h227 it55 = some (.inr (2, [.int (nI j65), .int l66, .int (g.1 4), .ref lh_12])) := by rw [eh227, tw_up_n ne165]; exact f207
                    have f230 : h227 it127 = some (.inr (2, [.int (nI j139), .int l140, .int (g.1 3), .ref lc_105])) := by rw [eh227, tw_up_n ne166]; exact f208
                    have f231 : h227 q160 = some (.inl (d.2 1, 9, .inr (.inl F226))) := by rw [eh227]; exact tw_up_s
                    refine tw_dup dX10_ofCountryNow_193 rfl ?_
                    refine tw_iconst (v := 3) dX10_ofCountryNow_194 (by decide) ?_
                    refine tw_aload_n 3 dX10_ofCountryNow_195 rfl rfl ?_
                    obtain ⟨e232, f233, r_234, c_235, v_236, o_237, t_238, rfl, k239, k240, k241, k242, k243⟩ := sp228.1 r35 21 q33k.1 (by decide)
                    refine tw_get (v := .ref v_236) rfl in_11 2 dX10_ofCountryNow_196 w_1221 rfl (by decide) f233 rfl ?_
                    refine tw_iconst (v := 1) dX10_ofCountryNow_199 (by decide) ?_
                    obtain ⟨e244, f245, F246, rfl⟩ := sp228.1 v_236 31 k239 (by decide)
                    obtain ⟨v247, ev247⟩ : ∃ y : Int64, F246 (1 : Int32).toNatClampNeg = y := ⟨_, rfl⟩
                    refine tw_lald (v := v247) dX10_ofCountryNow_200 f245 (vp_in_nI (n := 1) (by decide) (by decide)) ev247 ?_
                    refine tw_last dX10_ofCountryNow_201 f231 (vp_in_nI (n := 3) (by decide) (by decide)) ?_
                    obtain ⟨F248, eF248⟩ : ∃ z : Nat → Int64, z = vp_updL F226 (3 : Int32).toNatClampNeg v247 := ⟨_, rfl⟩
                    rw [← eF248]
                    obtain ⟨h249, eh249⟩ : ∃ z : tw_H, z = tw_up h227 q160 (.inl (d.2 1, 9, .inr (.inl F248))) := ⟨_, rfl⟩
                    rw [← eh249]
                    have sp250 : tw_sp d τ (tw_rm h133 it127) g τ h249 := by rw [eh249]; exact sp228.wl n163 z164
                    have f251 : h249 it55 = some (.inr (2, [.int (nI j65), .int l66, .int (g.1 4), .ref lh_12])) := by rw [eh249, tw_up_n ne165]; exact f229
                    have f252 : h249 it127 = some (.inr (2, [.int (nI j139), .int l140, .int (g.1 3), .ref lc_105])) := by rw [eh249, tw_up_n ne166]; exact f230
                    have f253 : h249 q160 = some (.inl (d.2 1, 9, .inr (.inl F248))) := by rw [eh249]; exact tw_up_s
                    refine tw_dup dX10_ofCountryNow_202 rfl ?_
                    refine tw_iconst (v := 4) dX10_ofCountryNow_203 (by decide) ?_
                    refine tw_aload_n 3 dX10_ofCountryNow_204 rfl rfl ?_
                    obtain ⟨e254, f255, r_256, c_257, v_258, o_259, t_260, rfl, k261, k262, k263, k264, k265⟩ := sp250.1 r35 21 q33k.1 (by decide)
                    refine tw_get (v := .ref o_259) rfl in_11 3 dX10_ofCountryNow_205 w_1223 rfl (by decide) f255 rfl ?_
                    refine tw_iconst (v := 0) dX10_ofCountryNow_208 (by decide) ?_
                    obtain ⟨e266, f267, F268, rfl, k269⟩ := sp250.1 o_259 32 k262 (by decide)
                    obtain ⟨v270, ev270⟩ : ∃ y : Int32, F268 (0 : Int32).toNatClampNeg = y := ⟨_, rfl⟩
                    refine tw_zald (v := v270) dX10_ofCountryNow_209 f267 (vp_in_nI (n := 0) (by decide) (by decide)) ev270 ?_
                    refine tw_if_eq 217 dX10_ofCountryNow_210 (by decide) (fun c271 => ?_) (fun c271 => ?_)
                    · refine tw_iconst (v := 0) dX10_ofCountryNow_217 (by decide) ?_
                      refine tw_aload_n 3 dX10_ofCountryNow_218 rfl rfl ?_
                      refine tw_get (v := .ref o_259) rfl in_11 3 dX10_ofCountryNow_219 w_1223 rfl (by decide) f255 rfl ?_
                      refine tw_iconst (v := 1) dX10_ofCountryNow_222 (by decide) ?_
                      obtain ⟨v272, ev272⟩ : ∃ y : Int32, F268 (1 : Int32).toNatClampNeg = y := ⟨_, rfl⟩
                      refine tw_zald (v := v272) dX10_ofCountryNow_223 f267 (vp_in_nI (n := 1) (by decide) (by decide)) ev272 ?_
                      refine tw_if_eq 231 dX10_ofCountryNow_224 (by decide) (fun c273 => ?_) (fun c273 => ?_)
                      · refine tw_iconst (v := 0) dX10_ofCountryNow_231 (by decide) ?_
                        refine tw_iadd dX10_ofCountryNow_232 ?_
                        refine tw_nmi (fun v274 ev274 => ?_)
                        refine tw_i2l dX10_ofCountryNow_233 ?_
                        refine tw_nml (fun v275 ev275 => ?_)
                        refine tw_last dX10_ofCountryNow_234 f253 (vp_in_nI (n := 4) (by decide) (by decide)) ?_
                        obtain ⟨F276, eF276⟩ : ∃ z : Nat → Int64, z = vp_updL F248 (4 : Int32).toNatClampNeg v275 := ⟨_, rfl⟩
                        rw [← eF276]
                        obtain ⟨h277, eh277⟩ : ∃ z : tw_H, z = tw_up h249 q160 (.inl (d.2 1, 9, .inr (.inl F276))) := ⟨_, rfl⟩
                        rw [← eh277]
                        have sp278 : tw_sp d τ (tw_rm h133 it127) g τ h277 := by rw [eh277]; exact sp250.wl n163 z164
                        have f279 : h277 it55 = some (.inr (2, [.int (nI j65), .int l66, .int (g.1 4), .ref lh_12])) := by rw [eh277, tw_up_n ne165]; exact f251
                        have f280 : h277 it127 = some (.inr (2, [.int (nI j139), .int l140, .int (g.1 3), .ref lc_105])) := by rw [eh277, tw_up_n ne166]; exact f252
                        have f281 : h277 q160 = some (.inl (d.2 1, 9, .inr (.inl F276))) := by rw [eh277]; exact tw_up_s
                        refine tw_dup dX10_ofCountryNow_235 rfl ?_
                        refine tw_iconst (v := 5) dX10_ofCountryNow_236 (by decide) ?_
                        refine tw_iload 4 dX10_ofCountryNow_237 rfl ?_
                        refine tw_i2l dX10_ofCountryNow_239 ?_
                        refine tw_nml (fun v282 ev282 => ?_)
                        refine tw_last dX10_ofCountryNow_240 f281 (vp_in_nI (n := 5) (by decide) (by decide)) ?_
                        obtain ⟨F283, eF283⟩ : ∃ z : Nat → Int64, z = vp_updL F276 (5 : Int32).toNatClampNeg v282 := ⟨_, rfl⟩
                        rw [← eF283]
                        obtain ⟨h284, eh284⟩ : ∃ z : tw_H, z = tw_up h277 q160 (.inl (d.2 1, 9, .inr (.inl F283))) := ⟨_, rfl⟩
                        rw [← eh284]
                        have sp285 : tw_sp d τ (tw_rm h133 it127) g τ h284 := by rw [eh284]; exact sp278.wl n163 z164
                        have f286 : h284 it55 = some (.inr (2, [.int (nI j65), .int l66, .int (g.1 4), .ref lh_12])) := by rw [eh284, tw_up_n ne165]; exact f279
                        have f287 : h284 it127 = some (.inr (2, [.int (nI j139), .int l140, .int (g.1 3), .ref lc_105])) := by rw [eh284, tw_up_n ne166]; exact f280
                        have f288 : h284 q160 = some (.inl (d.2 1, 9, .inr (.inl F283))) := by rw [eh284]; exact tw_up_s
                        refine tw_dup dX10_ofCountryNow_241 rfl ?_
                        refine tw_bipush (v := 6) dX10_ofCountryNow_242 (by decide) ?_
                        refine tw_aload_n 0 dX10_ofCountryNow_244 rfl rfl ?_
                        refine tw_aload_n 3 dX10_ofCountryNow_245 rfl rfl ?_
                        obtain ⟨e289, f290, r_291, c_292, v_293, o_294, t_295, rfl, k296, k297, k298, k299, k300⟩ := sp285.1 r35 21 q33k.1 (by decide)
                        refine tw_get (v := .ref v_293) rfl in_11 2 dX10_ofCountryNow_246 w_1221 rfl (by decide) f290 rfl ?_
                        obtain ⟨e301, f302, th_303, td_304, ds_305, fr_306, ca_307, us_308, wo_309, cm_310, lc_311, lh_312, ld_313, rfl, k314, k315, k316, k317, k318, k319, k320, k321, k322, k323, k324, k325, k326, k327⟩ := sp285.1 x 36 kx (by decide)
                        refine tw_bl (tw_callV (M := mX10_ofCountryNow) (pc := 249) okX10_worth dX10_ofCountryNow_249 w_1509 rfl f302 [.ref v_293] [.int 6, .ref q160, .ref q160] rfl rfl ⟨by decide, by decide⟩ (Nat.le_of_ble_eq_true rfl) (c_X10_worth d g τ h284 sp285.1 x kx v_293 k296) 0 0 (Nat.le_of_ble_eq_true rfl) (Nat.le_of_ble_eq_true rfl)) (fun r330 h329 q328 => ?_) (fun E h1 q => q.elim)
                        rw [q328]
                        refine tw_last dX10_ofCountryNow_252 f288 (vp_in_nI (n := 6) (by decide) (by decide)) ?_
                        obtain ⟨F331, eF331⟩ : ∃ z : Nat → Int64, z = vp_updL F283 (6 : Int32).toNatClampNeg r330 := ⟨_, rfl⟩
                        rw [← eF331]
                        obtain ⟨h332, eh332⟩ : ∃ z : tw_H, z = tw_up h284 q160 (.inl (d.2 1, 9, .inr (.inl F331))) := ⟨_, rfl⟩
                        rw [← eh332]
                        have sp333 : tw_sp d τ (tw_rm h133 it127) g τ h332 := by rw [eh332]; exact sp285.wl n163 z164
                        have f334 : h332 it55 = some (.inr (2, [.int (nI j65), .int l66, .int (g.1 4), .ref lh_12])) := by rw [eh332, tw_up_n ne165]; exact f286
                        have f335 : h332 it127 = some (.inr (2, [.int (nI j139), .int l140, .int (g.1 3), .ref lc_105])) := by rw [eh332, tw_up_n ne166]; exact f287
                        have f336 : h332 q160 = some (.inl (d.2 1, 9, .inr (.inl F331))) := by rw [eh332]; exact tw_up_s
                        refine tw_dup dX10_ofCountryNow_253 rfl ?_
                        refine tw_bipush (v := 7) dX10_ofCountryNow_254 (by decide) ?_
                        refine tw_iload 5 dX10_ofCountryNow_256 rfl ?_
                        refine tw_i2l dX10_ofCountryNow_258 ?_
                        refine tw_nml (fun v337 ev337 => ?_)
                        refine tw_last dX10_ofCountryNow_259 f336 (vp_in_nI (n := 7) (by decide) (by decide)) ?_
                        obtain ⟨F338, eF338⟩ : ∃ z : Nat → Int64, z = vp_updL F331 (7 : Int32).toNatClampNeg v337 := ⟨_, rfl⟩
                        rw [← eF338]
                        obtain ⟨h339, eh339⟩ : ∃ z : tw_H, z = tw_up h332 q160 (.inl (d.2 1, 9, .inr (.inl F338))) := ⟨_, rfl⟩
                        rw [← eh339]
                        have sp340 : tw_sp d τ (tw_rm h133 it127) g τ h339 := by rw [eh339]; exact sp333.wl n163 z164
                        have f341 : h339 it55 = some (.inr (2, [.int (nI j65), .int l66, .int (g.1 4), .ref lh_12])) := by rw [eh339, tw_up_n ne165]; exact f334
                        have f342 : h339 it127 = some (.inr (2, [.int (nI j139), .int l140, .int (g.1 3), .ref lc_105])) := by rw [eh339, tw_up_n ne166]; exact f335
                        have f343 : h339 q160 = some (.inl (d.2 1, 9, .inr (.inl F338))) := by rw [eh339]; exact tw_up_s
                        refine tw_dup dX10_ofCountryNow_260 rfl ?_
                        refine tw_bipush (v := 8) dX10_ofCountryNow_261 (by decide) ?_
                        refine tw_iload 6 dX10_ofCountryNow_263 rfl ?_
                        refine tw_i2l dX10_ofCountryNow_265 ?_
                        refine tw_nml (fun v344 ev344 => ?_)
                        refine tw_last dX10_ofCountryNow_266 f343 (vp_in_nI (n := 8) (by decide) (by decide)) ?_
                        obtain ⟨F345, eF345⟩ : ∃ z : Nat → Int64, z = vp_updL F338 (8 : Int32).toNatClampNeg v344 := ⟨_, rfl⟩
                        rw [← eF345]
                        obtain ⟨h346, eh346⟩ : ∃ z : tw_H, z = tw_up h339 q160 (.inl (d.2 1, 9, .inr (.inl F345))) := ⟨_, rfl⟩
                        rw [← eh346]
                        have sp347 : tw_sp d τ (tw_rm h133 it127) g τ h346 := by rw [eh346]; exact sp340.wl n163 z164
                        have f348 : h346 it55 = some (.inr (2, [.int (nI j65), .int l66, .int (g.1 4), .ref lh_12])) := by rw [eh346, tw_up_n ne165]; exact f341
                        have f349 : h346 it127 = some (.inr (2, [.int (nI j139), .int l140, .int (g.1 3), .ref lc_105])) := by rw [eh346, tw_up_n ne166]; exact f342
                        have f350 : h346 q160 = some (.inl (d.2 1, 9, .inr (.inl F345))) := by rw [eh346]; exact tw_up_s
                        refine tw_astore [(7, .ref q160), (0, .ref x), (1, .int (nI a)), (2, .int w9), (3, .ref r35), (4, .int x63), (5, .int x84), (6, .int x137)] dX10_ofCountryNow_267 (by decide) rfl ?_
                        refine tw_aload 0 dX10_ofCountryNow_269 rfl ?_
                        refine tw_iload_n 3 dX10_ofCountryNow_271 rfl rfl ?_
                        obtain ⟨v351, ev351⟩ : ∃ y : Int64, F345 (w9).toNatClampNeg = y := ⟨_, rfl⟩
                        refine tw_lald (v := v351) dX10_ofCountryNow_272 f350 hw9 ev351 ?_
                        refine tw_l2i dX10_ofCountryNow_273 ?_
                        refine tw_nmi (fun v352 ev352 => ?_)
                        exact tw_iret dX10_ofCountryNow_274 rfl (Or.inl ⟨_, rfl, (sp61.trm n58 (sp134.trm n130 sp347))⟩)
                      · refine tw_iconst (v := 2) dX10_ofCountryNow_227 (by decide) ?_
                        refine tw_goto 232 dX10_ofCountryNow_228 (by decide) ?_
                        refine tw_iadd dX10_ofCountryNow_232 ?_
                        refine tw_nmi (fun v353 ev353 => ?_)
                        refine tw_i2l dX10_ofCountryNow_233 ?_
                        refine tw_nml (fun v354 ev354 => ?_)
                        refine tw_last dX10_ofCountryNow_234 f253 (vp_in_nI (n := 4) (by decide) (by decide)) ?_
                        obtain ⟨F355, eF355⟩ : ∃ z : Nat → Int64, z = vp_updL F248 (4 : Int32).toNatClampNeg v354 := ⟨_, rfl⟩
                        rw [← eF355]
                        obtain ⟨h356, eh356⟩ : ∃ z : tw_H, z = tw_up h249 q160 (.inl (d.2 1, 9, .inr (.inl F355))) := ⟨_, rfl⟩
                        rw [← eh356]
                        have sp357 : tw_sp d τ (tw_rm h133 it127) g τ h356 := by rw [eh356]; exact sp250.wl n163 z164
                        have f358 : h356 it55 = some (.inr (2, [.int (nI j65), .int l66, .int (g.1 4), .ref lh_12])) := by rw [eh356, tw_up_n ne165]; exact f251
                        have f359 : h356 it127 = some (.inr (2, [.int (nI j139), .int l140, .int (g.1 3), .ref lc_105])) := by rw [eh356, tw_up_n ne166]; exact f252
                        have f360 : h356 q160 = some (.inl (d.2 1, 9, .inr (.inl F355))) := by rw [eh356]; exact tw_up_s
                        refine tw_dup dX10_ofCountryNow_235 rfl ?_
                        refine tw_iconst (v := 5) dX10_ofCountryNow_236 (by decide) ?_
                        refine tw_iload 4 dX10_ofCountryNow_237 rfl ?_
                        refine tw_i2l dX10_ofCountryNow_239 ?_
                        refine tw_nml (fun v361 ev361 => ?_)
                        refine tw_last dX10_ofCountryNow_240 f360 (vp_in_nI (n := 5) (by decide) (by decide)) ?_
                        obtain ⟨F362, eF362⟩ : ∃ z : Nat → Int64, z = vp_updL F355 (5 : Int32).toNatClampNeg v361 := ⟨_, rfl⟩
                        rw [← eF362]
                        obtain ⟨h363, eh363⟩ : ∃ z : tw_H, z = tw_up h356 q160 (.inl (d.2 1, 9, .inr (.inl F362))) := ⟨_, rfl⟩
                        rw [← eh363]
                        have sp364 : tw_sp d τ (tw_rm h133 it127) g τ h363 := by rw [eh363]; exact sp357.wl n163 z164
                        have f365 : h363 it55 = some (.inr (2, [.int (nI j65), .int l66, .int (g.1 4), .ref lh_12])) := by rw [eh363, tw_up_n ne165]; exact f358
                        have f366 : h363 it127 = some (.inr (2, [.int (nI j139), .int l140, .int (g.1 3), .ref lc_105])) := by rw [eh363, tw_up_n ne166]; exact f359
                        have f367 : h363 q160 = some (.inl (d.2 1, 9, .inr (.inl F362))) := by rw [eh363]; exact tw_up_s
                        refine tw_dup dX10_ofCountryNow_241 rfl ?_
                        refine tw_bipush (v := 6) dX10_ofCountryNow_242 (by decide) ?_
                        refine tw_aload_n 0 dX10_ofCountryNow_244 rfl rfl ?_
                        refine tw_aload_n 3 dX10_ofCountryNow_245 rfl rfl ?_
                        obtain ⟨e368, f369, r_370, c_371, v_372, o_373, t_374, rfl, k375, k376, k377, k378, k379⟩ := sp364.1 r35 21 q33k.1 (by decide)
                        refine tw_get (v := .ref v_372) rfl in_11 2 dX10_ofCountryNow_246 w_1221 rfl (by decide) f369 rfl ?_
                        obtain ⟨e380, f381, th_382, td_383, ds_384, fr_385, ca_386, us_387, wo_388, cm_389, lc_390, lh_391, ld_392, rfl, k393, k394, k395, k396, k397, k398, k399, k400, k401, k402, k403, k404, k405, k406⟩ := sp364.1 x 36 kx (by decide)
                        refine tw_bl (tw_callV (M := mX10_ofCountryNow) (pc := 249) okX10_worth dX10_ofCountryNow_249 w_1509 rfl f381 [.ref v_372] [.int 6, .ref q160, .ref q160] rfl rfl ⟨by decide, by decide⟩ (Nat.le_of_ble_eq_true rfl) (c_X10_worth d g τ h363 sp364.1 x kx v_372 k375) 0 0 (Nat.le_of_ble_eq_true rfl) (Nat.le_of_ble_eq_true rfl)) (fun r409 h408 q407 => ?_) (fun E h1 q => q.elim)
                        rw [q407]
                        refine tw_last dX10_ofCountryNow_252 f367 (vp_in_nI (n := 6) (by decide) (by decide)) ?_
                        obtain ⟨F410, eF410⟩ : ∃ z : Nat → Int64, z = vp_updL F362 (6 : Int32).toNatClampNeg r409 := ⟨_, rfl⟩
                        rw [← eF410]
                        obtain ⟨h411, eh411⟩ : ∃ z : tw_H, z = tw_up h363 q160 (.inl (d.2 1, 9, .inr (.inl F410))) := ⟨_, rfl⟩
                        rw [← eh411]
                        have sp412 : tw_sp d τ (tw_rm h133 it127) g τ h411 := by rw [eh411]; exact sp364.wl n163 z164
                        have f413 : h411 it55 = some (.inr (2, [.int (nI j65), .int l66, .int (g.1 4), .ref lh_12])) := by rw [eh411, tw_up_n ne165]; exact f365
                        have f414 : h411 it127 = some (.inr (2, [.int (nI j139), .int l140, .int (g.1 3), .ref lc_105])) := by rw [eh411, tw_up_n ne166]; exact f366
                        have f415 : h411 q160 = some (.inl (d.2 1, 9, .inr (.inl F410))) := by rw [eh411]; exact tw_up_s
                        refine tw_dup dX10_ofCountryNow_253 rfl ?_
                        refine tw_bipush (v := 7) dX10_ofCountryNow_254 (by decide) ?_
                        refine tw_iload 5 dX10_ofCountryNow_256 rfl ?_
                        refine tw_i2l dX10_ofCountryNow_258 ?_
                        refine tw_nml (fun v416 ev416 => ?_)
                        refine tw_last dX10_ofCountryNow_259 f415 (vp_in_nI (n := 7) (by decide) (by decide)) ?_
                        obtain ⟨F417, eF417⟩ : ∃ z : Nat → Int64, z = vp_updL F410 (7 : Int32).toNatClampNeg v416 := ⟨_, rfl⟩
                        rw [← eF417]
                        obtain ⟨h418, eh418⟩ : ∃ z : tw_H, z = tw_up h411 q160 (.inl (d.2 1, 9, .inr (.inl F417))) := ⟨_, rfl⟩
                        rw [← eh418]
                        have sp419 : tw_sp d τ (tw_rm h133 it127) g τ h418 := by rw [eh418]; exact sp412.wl n163 z164
                        have f420 : h418 it55 = some (.inr (2, [.int (nI j65), .int l66, .int (g.1 4), .ref lh_12])) := by rw [eh418, tw_up_n ne165]; exact f413
                        have f421 : h418 it127 = some (.inr (2, [.int (nI j139), .int l140, .int (g.1 3), .ref lc_105])) := by rw [eh418, tw_up_n ne166]; exact f414
                        have f422 : h418 q160 = some (.inl (d.2 1, 9, .inr (.inl F417))) := by rw [eh418]; exact tw_up_s
                        refine tw_dup dX10_ofCountryNow_260 rfl ?_
                        refine tw_bipush (v := 8) dX10_ofCountryNow_261 (by decide) ?_
                        refine tw_iload 6 dX10_ofCountryNow_263 rfl ?_
                        refine tw_i2l dX10_ofCountryNow_265 ?_
                        refine tw_nml (fun v423 ev423 => ?_)
                        refine tw_last dX10_ofCountryNow_266 f422 (vp_in_nI (n := 8) (by decide) (by decide)) ?_
                        obtain ⟨F424, eF424⟩ : ∃ z : Nat → Int64, z = vp_updL F417 (8 : Int32).toNatClampNeg v423 := ⟨_, rfl⟩
                        rw [← eF424]
                        obtain ⟨h425, eh425⟩ : ∃ z : tw_H, z = tw_up h418 q160 (.inl (d.2 1, 9, .inr (.inl F424))) := ⟨_, rfl⟩
                        rw [← eh425]
                        have sp426 : tw_sp d τ (tw_rm h133 it127) g τ h425 := by rw [eh425]; exact sp419.wl n163 z164
                        have f427 : h425 it55 = some (.inr (2, [.int (nI j65), .int l66, .int (g.1 4), .ref lh_12])) := by rw [eh425, tw_up_n ne165]; exact f420
                        have f428 : h425 it127 = some (.inr (2, [.int (nI j139), .int l140, .int (g.1 3), .ref lc_105])) := by rw [eh425, tw_up_n ne166]; exact f421
                        have f429 : h425 q160 = some (.inl (d.2 1, 9, .inr (.inl F424))) := by rw [eh425]; exact tw_up_s
                        refine tw_astore [(7, .ref q160), (0, .ref x), (1, .int (nI a)), (2, .int w9), (3, .ref r35), (4, .int x63), (5, .int x84), (6, .int x137)] dX10_ofCountryNow_267 (by decide) rfl ?_
                        refine tw_aload 0 dX10_ofCountryNow_269 rfl ?_
                        refine tw_iload_n 3 dX10_ofCountryNow_271 rfl rfl ?_
                        obtain ⟨v430, ev430⟩ : ∃ y : Int64, F424 (w9).toNatClampNeg = y := ⟨_, rfl⟩
                        refine tw_lald (v := v430) dX10_ofCountryNow_272 f429 hw9 ev430 ?_
                        refine tw_l2i dX10_ofCountryNow_273 ?_
                        refine tw_nmi (fun v431 ev431 => ?_)
                        exact tw_iret dX10_ofCountryNow_274 rfl (Or.inl ⟨_, rfl, (sp61.trm n58 (sp134.trm n130 sp426))⟩)
                    · refine tw_iconst (v := 1) dX10_ofCountryNow_213 (by decide) ?_
                      refine tw_goto 218 dX10_ofCountryNow_214 (by decide) ?_
                      refine tw_aload_n 3 dX10_ofCountryNow_218 rfl rfl ?_
                      refine tw_get (v := .ref o_259) rfl in_11 3 dX10_ofCountryNow_219 w_1223 rfl (by decide) f255 rfl ?_
                      refine tw_iconst (v := 1) dX10_ofCountryNow_222 (by decide) ?_
                      obtain ⟨v432, ev432⟩ : ∃ y : Int32, F268 (1 : Int32).toNatClampNeg = y := ⟨_, rfl⟩
                      refine tw_zald (v := v432) dX10_ofCountryNow_223 f267 (vp_in_nI (n := 1) (by decide) (by decide)) ev432 ?_
                      refine tw_if_eq 231 dX10_ofCountryNow_224 (by decide) (fun c433 => ?_) (fun c433 => ?_)
                      · refine tw_iconst (v := 0) dX10_ofCountryNow_231 (by decide) ?_
                        refine tw_iadd dX10_ofCountryNow_232 ?_
                        refine tw_nmi (fun v434 ev434 => ?_)
                        refine tw_i2l dX10_ofCountryNow_233 ?_
                        refine tw_nml (fun v435 ev435 => ?_)
                        refine tw_last dX10_ofCountryNow_234 f253 (vp_in_nI (n := 4) (by decide) (by decide)) ?_
                        obtain ⟨F436, eF436⟩ : ∃ z : Nat → Int64, z = vp_updL F248 (4 : Int32).toNatClampNeg v435 := ⟨_, rfl⟩
                        rw [← eF436]
                        obtain ⟨h437, eh437⟩ : ∃ z : tw_H, z = tw_up h249 q160 (.inl (d.2 1, 9, .inr (.inl F436))) := ⟨_, rfl⟩
                        rw [← eh437]
                        have sp438 : tw_sp d τ (tw_rm h133 it127) g τ h437 := by rw [eh437]; exact sp250.wl n163 z164
                        have f439 : h437 it55 = some (.inr (2, [.int (nI j65), .int l66, .int (g.1 4), .ref lh_12])) := by rw [eh437, tw_up_n ne165]; exact f251
                        have f440 : h437 it127 = some (.inr (2, [.int (nI j139), .int l140, .int (g.1 3), .ref lc_105])) := by rw [eh437, tw_up_n ne166]; exact f252
                        have f441 : h437 q160 = some (.inl (d.2 1, 9, .inr (.inl F436))) := by rw [eh437]; exact tw_up_s
                        refine tw_dup dX10_ofCountryNow_235 rfl ?_
                        refine tw_iconst (v := 5) dX10_ofCountryNow_236 (by decide) ?_
                        refine tw_iload 4 dX10_ofCountryNow_237 rfl ?_
                        refine tw_i2l dX10_ofCountryNow_239 ?_
                        refine tw_nml (fun v442 ev442 => ?_)
                        refine tw_last dX10_ofCountryNow_240 f441 (vp_in_nI (n := 5) (by decide) (by decide)) ?_
                        obtain ⟨F443, eF443⟩ : ∃ z : Nat → Int64, z = vp_updL F436 (5 : Int32).toNatClampNeg v442 := ⟨_, rfl⟩
                        rw [← eF443]
                        obtain ⟨h444, eh444⟩ : ∃ z : tw_H, z = tw_up h437 q160 (.inl (d.2 1, 9, .inr (.inl F443))) := ⟨_, rfl⟩
                        rw [← eh444]
                        have sp445 : tw_sp d τ (tw_rm h133 it127) g τ h444 := by rw [eh444]; exact sp438.wl n163 z164
                        have f446 : h444 it55 = some (.inr (2, [.int (nI j65), .int l66, .int (g.1 4), .ref lh_12])) := by rw [eh444, tw_up_n ne165]; exact f439
                        have f447 : h444 it127 = some (.inr (2, [.int (nI j139), .int l140, .int (g.1 3), .ref lc_105])) := by rw [eh444, tw_up_n ne166]; exact f440
                        have f448 : h444 q160 = some (.inl (d.2 1, 9, .inr (.inl F443))) := by rw [eh444]; exact tw_up_s
                        refine tw_dup dX10_ofCountryNow_241 rfl ?_
                        refine tw_bipush (v := 6) dX10_ofCountryNow_242 (by decide) ?_
                        refine tw_aload_n 0 dX10_ofCountryNow_244 rfl rfl ?_
                        refine tw_aload_n 3 dX10_ofCountryNow_245 rfl rfl ?_
                        obtain ⟨e449, f450, r_451, c_452, v_453, o_454, t_455, rfl, k456, k457, k458, k459, k460⟩ := sp445.1 r35 21 q33k.1 (by decide)
                        refine tw_get (v := .ref v_453) rfl in_11 2 dX10_ofCountryNow_246 w_1221 rfl (by decide) f450 rfl ?_
                        obtain ⟨e461, f462, th_463, td_464, ds_465, fr_466, ca_467, us_468, wo_469, cm_470, lc_471, lh_472, ld_473, rfl, k474, k475, k476, k477, k478, k479, k480, k481, k482, k483, k484, k485, k486, k487⟩ := sp445.1 x 36 kx (by decide)
                        refine tw_bl (tw_callV (M := mX10_ofCountryNow) (pc := 249) okX10_worth dX10_ofCountryNow_249 w_1509 rfl f462 [.ref v_453] [.int 6, .ref q160, .ref q160] rfl rfl ⟨by decide, by decide⟩ (Nat.le_of_ble_eq_true rfl) (c_X10_worth d g τ h444 sp445.1 x kx v_453 k456) 0 0 (Nat.le_of_ble_eq_true rfl) (Nat.le_of_ble_eq_true rfl)) (fun r490 h489 q488 => ?_) (fun E h1 q => q.elim)
                        rw [q488]
                        refine tw_last dX10_ofCountryNow_252 f448 (vp_in_nI (n := 6) (by decide) (by decide)) ?_
                        obtain ⟨F491, eF491⟩ : ∃ z : Nat → Int64, z = vp_updL F443 (6 : Int32).toNatClampNeg r490 := ⟨_, rfl⟩
                        rw [← eF491]
                        obtain ⟨h492, eh492⟩ : ∃ z : tw_H, z = tw_up h444 q160 (.inl (d.2 1, 9, .inr (.inl F491))) := ⟨_, rfl⟩
                        rw [← eh492]
                        have sp493 : tw_sp d τ (tw_rm h133 it127) g τ h492 := by rw [eh492]; exact sp445.wl n163 z164
                        have f494 : h492 it55 = some (.inr (2, [.int (nI j65), .int l66, .int (g.1 4), .ref lh_12])) := by rw [eh492, tw_up_n ne165]; exact f446
                        have f495 : h492 it127 = some (.inr (2, [.int (nI j139), .int l140, .int (g.1 3), .ref lc_105])) := by rw [eh492, tw_up_n ne166]; exact f447
                        have f496 : h492 q160 = some (.inl (d.2 1, 9, .inr (.inl F491))) := by rw [eh492]; exact tw_up_s
                        refine tw_dup dX10_ofCountryNow_253 rfl ?_
                        refine tw_bipush (v := 7) dX10_ofCountryNow_254 (by decide) ?_
                        refine tw_iload 5 dX10_ofCountryNow_256 rfl ?_
                        refine tw_i2l dX10_ofCountryNow_258 ?_
                        refine tw_nml (fun v497 ev497 => ?_)
                        refine tw_last dX10_ofCountryNow_259 f496 (vp_in_nI (n := 7) (by decide) (by decide)) ?_
                        obtain ⟨F498, eF498⟩ : ∃ z : Nat → Int64, z = vp_updL F491 (7 : Int32).toNatClampNeg v497 := ⟨_, rfl⟩
                        rw [← eF498]
                        obtain ⟨h499, eh499⟩ : ∃ z : tw_H, z = tw_up h492 q160 (.inl (d.2 1, 9, .inr (.inl F498))) := ⟨_, rfl⟩
                        rw [← eh499]
                        have sp500 : tw_sp d τ (tw_rm h133 it127) g τ h499 := by rw [eh499]; exact sp493.wl n163 z164
                        have f501 : h499 it55 = some (.inr (2, [.int (nI j65), .int l66, .int (g.1 4), .ref lh_12])) := by rw [eh499, tw_up_n ne165]; exact f494
                        have f502 : h499 it127 = some (.inr (2, [.int (nI j139), .int l140, .int (g.1 3), .ref lc_105])) := by rw [eh499, tw_up_n ne166]; exact f495
                        have f503 : h499 q160 = some (.inl (d.2 1, 9, .inr (.inl F498))) := by rw [eh499]; exact tw_up_s
                        refine tw_dup dX10_ofCountryNow_260 rfl ?_
                        refine tw_bipush (v := 8) dX10_ofCountryNow_261 (by decide) ?_
                        refine tw_iload 6 dX10_ofCountryNow_263 rfl ?_
                        refine tw_i2l dX10_ofCountryNow_265 ?_
                        refine tw_nml (fun v504 ev504 => ?_)
                        refine tw_last dX10_ofCountryNow_266 f503 (vp_in_nI (n := 8) (by decide) (by decide)) ?_
                        obtain ⟨F505, eF505⟩ : ∃ z : Nat → Int64, z = vp_updL F498 (8 : Int32).toNatClampNeg v504 := ⟨_, rfl⟩
                        rw [← eF505]
                        obtain ⟨h506, eh506⟩ : ∃ z : tw_H, z = tw_up h499 q160 (.inl (d.2 1, 9, .inr (.inl F505))) := ⟨_, rfl⟩
                        rw [← eh506]
                        have sp507 : tw_sp d τ (tw_rm h133 it127) g τ h506 := by rw [eh506]; exact sp500.wl n163 z164
                        have f508 : h506 it55 = some (.inr (2, [.int (nI j65), .int l66, .int (g.1 4), .ref lh_12])) := by rw [eh506, tw_up_n ne165]; exact f501
                        have f509 : h506 it127 = some (.inr (2, [.int (nI j139), .int l140, .int (g.1 3), .ref lc_105])) := by rw [eh506, tw_up_n ne166]; exact f502
                        have f510 : h506 q160 = some (.inl (d.2 1, 9, .inr (.inl F505))) := by rw [eh506]; exact tw_up_s
                        refine tw_astore [(7, .ref q160), (0, .ref x), (1, .int (nI a)), (2, .int w9), (3, .ref r35), (4, .int x63), (5, .int x84), (6, .int x137)] dX10_ofCountryNow_267 (by decide) rfl ?_
                        refine tw_aload 0 dX10_ofCountryNow_269 rfl ?_
                        refine tw_iload_n 3 dX10_ofCountryNow_271 rfl rfl ?_
                        obtain ⟨v511, ev511⟩ : ∃ y : Int64, F505 (w9).toNatClampNeg = y := ⟨_, rfl⟩
                        refine tw_lald (v := v511) dX10_ofCountryNow_272 f510 hw9 ev511 ?_
                        refine tw_l2i dX10_ofCountryNow_273 ?_
                        refine tw_nmi (fun v512 ev512 => ?_)
                        exact tw_iret dX10_ofCountryNow_274 rfl (Or.inl ⟨_, rfl, (sp61.trm n58 (sp134.trm n130 sp507))⟩)
                      · refine tw_iconst (v := 2) dX10_ofCountryNow_227 (by decide) ?_
                        refine tw_goto 232 dX10_ofCountryNow_228 (by decide) ?_
                        refine tw_iadd dX10_ofCountryNow_232 ?_
                        refine tw_nmi (fun v513 ev513 => ?_)
                        refine tw_i2l dX10_ofCountryNow_233 ?_
                        refine tw_nml (fun v514 ev514 => ?_)
                        refine tw_last dX10_ofCountryNow_234 f253 (vp_in_nI (n := 4) (by decide) (by decide)) ?_
                        obtain ⟨F515, eF515⟩ : ∃ z : Nat → Int64, z = vp_updL F248 (4 : Int32).toNatClampNeg v514 := ⟨_, rfl⟩
                        rw [← eF515]
                        obtain ⟨h516, eh516⟩ : ∃ z : tw_H, z = tw_up h249 q160 (.inl (d.2 1, 9, .inr (.inl F515))) := ⟨_, rfl⟩
                        rw [← eh516]
                        have sp517 : tw_sp d τ (tw_rm h133 it127) g τ h516 := by rw [eh516]; exact sp250.wl n163 z164
                        have f518 : h516 it55 = some (.inr (2, [.int (nI j65), .int l66, .int (g.1 4), .ref lh_12])) := by rw [eh516, tw_up_n ne165]; exact f251
                        have f519 : h516 it127 = some (.inr (2, [.int (nI j139), .int l140, .int (g.1 3), .ref lc_105])) := by rw [eh516, tw_up_n ne166]; exact f252
                        have f520 : h516 q160 = some (.inl (d.2 1, 9, .inr (.inl F515))) := by rw [eh516]; exact tw_up_s
                        refine tw_dup dX10_ofCountryNow_235 rfl ?_
                        refine tw_iconst (v := 5) dX10_ofCountryNow_236 (by decide) ?_
                        refine tw_iload 4 dX10_ofCountryNow_237 rfl ?_
                        refine tw_i2l dX10_ofCountryNow_239 ?_
                        refine tw_nml (fun v521 ev521 => ?_)
                        refine tw_last dX10_ofCountryNow_240 f520 (vp_in_nI (n := 5) (by decide) (by decide)) ?_
                        obtain ⟨F522, eF522⟩ : ∃ z : Nat → Int64, z = vp_updL F515 (5 : Int32).toNatClampNeg v521 := ⟨_, rfl⟩
                        rw [← eF522]
                        obtain ⟨h523, eh523⟩ : ∃ z : tw_H, z = tw_up h516 q160 (.inl (d.2 1, 9, .inr (.inl F522))) := ⟨_, rfl⟩
                        rw [← eh523]
                        have sp524 : tw_sp d τ (tw_rm h133 it127) g τ h523 := by rw [eh523]; exact sp517.wl n163 z164
                        have f525 : h523 it55 = some (.inr (2, [.int (nI j65), .int l66, .int (g.1 4), .ref lh_12])) := by rw [eh523, tw_up_n ne165]; exact f518
                        have f526 : h523 it127 = some (.inr (2, [.int (nI j139), .int l140, .int (g.1 3), .ref lc_105])) := by rw [eh523, tw_up_n ne166]; exact f519
                        have f527 : h523 q160 = some (.inl (d.2 1, 9, .inr (.inl F522))) := by rw [eh523]; exact tw_up_s
                        refine tw_dup dX10_ofCountryNow_241 rfl ?_
                        refine tw_bipush (v := 6) dX10_ofCountryNow_242 (by decide) ?_
                        refine tw_aload_n 0 dX10_ofCountryNow_244 rfl rfl ?_
                        refine tw_aload_n 3 dX10_ofCountryNow_245 rfl rfl ?_
                        obtain ⟨e528, f529, r_530, c_531, v_532, o_533, t_534, rfl, k535, k536, k537, k538, k539⟩ := sp524.1 r35 21 q33k.1 (by decide)
                        refine tw_get (v := .ref v_532) rfl in_11 2 dX10_ofCountryNow_246 w_1221 rfl (by decide) f529 rfl ?_
                        obtain ⟨e540, f541, th_542, td_543, ds_544, fr_545, ca_546, us_547, wo_548, cm_549, lc_550, lh_551, ld_552, rfl, k553, k554, k555, k556, k557, k558, k559, k560, k561, k562, k563, k564, k565, k566⟩ := sp524.1 x 36 kx (by decide)
                        refine tw_bl (tw_callV (M := mX10_ofCountryNow) (pc := 249) okX10_worth dX10_ofCountryNow_249 w_1509 rfl f541 [.ref v_532] [.int 6, .ref q160, .ref q160] rfl rfl ⟨by decide, by decide⟩ (Nat.le_of_ble_eq_true rfl) (c_X10_worth d g τ h523 sp524.1 x kx v_532 k535) 0 0 (Nat.le_of_ble_eq_true rfl) (Nat.le_of_ble_eq_true rfl)) (fun r569 h568 q567 => ?_) (fun E h1 q => q.elim)
                        rw [q567]
                        refine tw_last dX10_ofCountryNow_252 f527 (vp_in_nI (n := 6) (by decide) (by decide)) ?_
                        obtain ⟨F570, eF570⟩ : ∃ z : Nat → Int64, z = vp_updL F522 (6 : Int32).toNatClampNeg r569 := ⟨_, rfl⟩
                        rw [← eF570]
                        obtain ⟨h571, eh571⟩ : ∃ z : tw_H, z = tw_up h523 q160 (.inl (d.2 1, 9, .inr (.inl F570))) := ⟨_, rfl⟩
                        rw [← eh571]
                        have sp572 : tw_sp d τ (tw_rm h133 it127) g τ h571 := by rw [eh571]; exact sp524.wl n163 z164
                        have f573 : h571 it55 = some (.inr (2, [.int (nI j65), .int l66, .int (g.1 4), .ref lh_12])) := by rw [eh571, tw_up_n ne165]; exact f525
                        have f574 : h571 it127 = some (.inr (2, [.int (nI j139), .int l140, .int (g.1 3), .ref lc_105])) := by rw [eh571, tw_up_n ne166]; exact f526
                        have f575 : h571 q160 = some (.inl (d.2 1, 9, .inr (.inl F570))) := by rw [eh571]; exact tw_up_s
                        refine tw_dup dX10_ofCountryNow_253 rfl ?_
                        refine tw_bipush (v := 7) dX10_ofCountryNow_254 (by decide) ?_
                        refine tw_iload 5 dX10_ofCountryNow_256 rfl ?_
                        refine tw_i2l dX10_ofCountryNow_258 ?_
                        refine tw_nml (fun v576 ev576 => ?_)
                        refine tw_last dX10_ofCountryNow_259 f575 (vp_in_nI (n := 7) (by decide) (by decide)) ?_
                        obtain ⟨F577, eF577⟩ : ∃ z : Nat → Int64, z = vp_updL F570 (7 : Int32).toNatClampNeg v576 := ⟨_, rfl⟩
                        rw [← eF577]
                        obtain ⟨h578, eh578⟩ : ∃ z : tw_H, z = tw_up h571 q160 (.inl (d.2 1, 9, .inr (.inl F577))) := ⟨_, rfl⟩
                        rw [← eh578]
                        have sp579 : tw_sp d τ (tw_rm h133 it127) g τ h578 := by rw [eh578]; exact sp572.wl n163 z164
                        have f580 : h578 it55 = some (.inr (2, [.int (nI j65), .int l66, .int (g.1 4), .ref lh_12])) := by rw [eh578, tw_up_n ne165]; exact f573
                        have f581 : h578 it127 = some (.inr (2, [.int (nI j139), .int l140, .int (g.1 3), .ref lc_105])) := by rw [eh578, tw_up_n ne166]; exact f574
                        have f582 : h578 q160 = some (.inl (d.2 1, 9, .inr (.inl F577))) := by rw [eh578]; exact tw_up_s
                        refine tw_dup dX10_ofCountryNow_260 rfl ?_
                        refine tw_bipush (v := 8) dX10_ofCountryNow_261 (by decide) ?_
                        refine tw_iload 6 dX10_ofCountryNow_263 rfl ?_
                        refine tw_i2l dX10_ofCountryNow_265 ?_
                        refine tw_nml (fun v583 ev583 => ?_)
                        refine tw_last dX10_ofCountryNow_266 f582 (vp_in_nI (n := 8) (by decide) (by decide)) ?_
                        obtain ⟨F584, eF584⟩ : ∃ z : Nat → Int64, z = vp_updL F577 (8 : Int32).toNatClampNeg v583 := ⟨_, rfl⟩
                        rw [← eF584]
                        obtain ⟨h585, eh585⟩ : ∃ z : tw_H, z = tw_up h578 q160 (.inl (d.2 1, 9, .inr (.inl F584))) := ⟨_, rfl⟩
                        rw [← eh585]
                        have sp586 : tw_sp d τ (tw_rm h133 it127) g τ h585 := by rw [eh585]; exact sp579.wl n163 z164
                        have f587 : h585 it55 = some (.inr (2, [.int (nI j65), .int l66, .int (g.1 4), .ref lh_12])) := by rw [eh585, tw_up_n ne165]; exact f580
                        have f588 : h585 it127 = some (.inr (2, [.int (nI j139), .int l140, .int (g.1 3), .ref lc_105])) := by rw [eh585, tw_up_n ne166]; exact f581
                        have f589 : h585 q160 = some (.inl (d.2 1, 9, .inr (.inl F584))) := by rw [eh585]; exact tw_up_s
                        refine tw_astore [(7, .ref q160), (0, .ref x), (1, .int (nI a)), (2, .int w9), (3, .ref r35), (4, .int x63), (5, .int x84), (6, .int x137)] dX10_ofCountryNow_267 (by decide) rfl ?_
                        refine tw_aload 0 dX10_ofCountryNow_269 rfl ?_
                        refine tw_iload_n 3 dX10_ofCountryNow_271 rfl rfl ?_
                        obtain ⟨v590, ev590⟩ : ∃ y : Int64, F584 (w9).toNatClampNeg = y := ⟨_, rfl⟩
                        refine tw_lald (v := v590) dX10_ofCountryNow_272 f589 hw9 ev590 ?_
                        refine tw_l2i dX10_ofCountryNow_273 ?_
                        refine tw_nmi (fun v591 ev591 => ?_)
                        exact tw_iret dX10_ofCountryNow_274 rfl (Or.inl ⟨_, rfl, (sp61.trm n58 (sp134.trm n130 sp586))⟩)
                  · rw [q156r]
                    refine tw_if_eq 164 dX10_ofCountryNow_124 (by decide) (fun c592 => absurd c592 (by decide)) (fun _ => ?_)
                    refine tw_aload 7 dX10_ofCountryNow_127 rfl ?_
                    have k593 : τ el153 = 27 := k154.resolve_left (fun q => absurd q156j (by rw [q.2.1]; exact Nat.not_lt_zero _))
                    obtain ⟨e594, f595, ⟨F596, rfl, hc597, hc598⟩, un599⟩ := sp144.1 el153 27 k593 (by decide)
                    obtain ⟨y600, hy601, ky602⟩ := hc598 j139 q156j
                    refine tw_br (tw_callF (M := mX10_ofCountryNow) (pc := 129) (n9 := 0) (ci := 2) tw_next ok_itNext w_1425 w_1423 (fun s H z => z.2.2.2.2.2.2.2.2.2) (by decide +kernel) dX10_ofCountryNow_129 w_1420 rfl ft145 [] [] rfl rfl ⟨by decide, by decide⟩ (Nat.le_of_ble_eq_true rfl) (c_next d h143 it127 lc_105 el153 j139 (g.2 3) y600 l140 (g.1 3) F596 ft145 f152 f595 q156j hc597 hy601) 1 9 (Nat.le_of_ble_eq_true rfl) (Nat.le_of_ble_eq_true rfl)) (fun r605 h604 q603 => ?_) (fun E h1 q => q.elim)
                    obtain ⟨q603r, q603e⟩ := q603
                    rw [q603r]
                    have sp606 : tw_sp d τ (tw_rm h133 it127) g τ h604 := by rw [q603e]; exact sp144.wl tw_rm_s zt146
                    have f607 : h604 it55 = some (.inr (2, [.int (nI j65), .int l66, .int (g.1 4), .ref lh_12])) := by rw [q603e, tw_up_n ne132]; exact f149
                    have f608 : h604 it127 = some (.inr (2, [.int (nI (j139 + 1)), .int (nI j139), .int (g.1 3), .ref lc_105])) := by rw [q603e]; exact tw_up_s
                    obtain ⟨e609, f610, r_611, c_612, v_613, o_614, t_615, rfl, k616, k617, k618, k619, k620⟩ := sp606.1 y600 21 ky602 (by decide)
                    refine tw_castS (ci := 11) rfl dX10_ofCountryNow_134 w_1212 f610 ?_
                    refine tw_astore [(8, .ref y600), (0, .ref x), (1, .int (nI a)), (2, .int w9), (3, .ref r35), (4, .int x63), (5, .int x84), (6, .int x137), (7, .ref it127)] dX10_ofCountryNow_137 (by decide) rfl ?_
                    refine tw_iload 7 dX10_ofCountryNow_139 rfl ?_
                    refine tw_aload 0 dX10_ofCountryNow_141 rfl ?_
                    refine tw_get (v := .int r_611) rfl in_11 0 dX10_ofCountryNow_143 w_1218 rfl (by decide) f610 rfl ?_
                    refine tw_aload_n 4 dX10_ofCountryNow_146 rfl rfl ?_
                    obtain ⟨e621, f622, r_623, c_624, v_625, o_626, t_627, rfl, k628, k629, k630, k631, k632⟩ := sp606.1 r35 21 q33k.1 (by decide)
                    refine tw_get (v := .int r_623) rfl in_11 0 dX10_ofCountryNow_147 w_1218 rfl (by decide) f622 rfl ?_
                    refine tw_icmp_ne 157 dX10_ofCountryNow_150 (by decide) (fun c633 => ?_) (fun c633 => ?_)
                    · refine tw_iconst (v := 0) dX10_ofCountryNow_157 (by decide) ?_
                      refine tw_iadd dX10_ofCountryNow_158 ?_
                      refine tw_nmi (fun v634 ev634 => ?_)
                      refine tw_istore [(6, .int v634), (8, .ref y600), (0, .ref x), (1, .int (nI a)), (2, .int w9), (3, .ref r35), (4, .int x63), (5, .int x84), (7, .ref it127)] dX10_ofCountryNow_159 (by decide) rfl ?_
                      refine tw_goto 117 dX10_ofCountryNow_161 (by decide) ?_
                      refine tw_lv [2, 3, 4, 5, 6, 7, 0, 8] rfl ?_
                      exact ih141 ((j139 + 1)) (nI j139) v634 _ sp606 f608 zt146  (by omega) (by omega)
                    · refine tw_iconst (v := 1) dX10_ofCountryNow_153 (by decide) ?_
                      refine tw_goto 158 dX10_ofCountryNow_154 (by decide) ?_
                      refine tw_iadd dX10_ofCountryNow_158 ?_
                      refine tw_nmi (fun v635 ev635 => ?_)
                      refine tw_istore [(6, .int v635), (8, .ref y600), (0, .ref x), (1, .int (nI a)), (2, .int w9), (3, .ref r35), (4, .int x63), (5, .int x84), (7, .ref it127)] dX10_ofCountryNow_159 (by decide) rfl ?_
                      refine tw_goto 117 dX10_ofCountryNow_161 (by decide) ?_
                      refine tw_lv [2, 3, 4, 5, 6, 7, 0, 8] rfl ?_
                      exact ih141 ((j139 + 1)) (nI j139) v635 _ sp606 f608 zt146  (by omega) (by omega)
              refine tw_lv [1, 2, 3, 4, 5, 6, 7, 0] rfl ?_
              exact L142 (g.2 3 + 1) 0 (-1) 0 _ (tw_sp.rm sp134.1 it127) f136 z131 (by omega) (Nat.zero_le _)
            · have kl636 := tw_klt (N := 5) c94 hk93 (by decide)
              refine tw_iload 5 dX10_ofCountryNow_83 rfl ?_
              refine tw_gets (fun _ _ z => z.2.2.2.2.1.1) rfl dX10_ofCountryNow_85 w_1487 ?_
              refine tw_iload 7 dX10_ofCountryNow_88 rfl ?_
              refine tw_ti (v := .int (tw_pnd k85)) (fun _ _ z => z.2.2.2.2.1.2) dX10_ofCountryNow_90 (vp_in_nI (by omega) (by decide)) (by rw [nI_clamp (by omega)]; rfl) ?_
              refine tw_aload_n 3 dX10_ofCountryNow_91 rfl rfl ?_
              obtain ⟨e637, f638, r_639, c_640, v_641, o_642, t_643, rfl, k644, k645, k646, k647, k648⟩ := sp70.1 r35 21 q33k.1 (by decide)
              refine tw_get (v := .ref t_643) rfl in_11 4 dX10_ofCountryNow_92 w_1225 rfl (by decide) f638 rfl ?_
              refine tw_iload 7 dX10_ofCountryNow_95 rfl ?_
              obtain ⟨e649, f650, F651, rfl, k652⟩ := sp70.1 t_643 33 k646 (by decide)
              obtain ⟨v653, ev653⟩ : ∃ y : Int32, F651 ((nI k85)).toNatClampNeg = y := ⟨_, rfl⟩
              refine tw_iald (v := v653) dX10_ofCountryNow_97 f650 (vp_in_nI (by omega) (by decide)) ev653 ?_
              refine tw_imul dX10_ofCountryNow_98 ?_
              refine tw_nmi (fun v654 ev654 => ?_)
              refine tw_iadd dX10_ofCountryNow_99 ?_
              refine tw_nmi (fun v655 ev655 => ?_)
              refine tw_istore [(5, .int v655), (0, .ref x), (1, .int (nI a)), (2, .int w9), (3, .ref r35), (4, .int x63), (6, .int 0), (7, .int (nI k85))] dX10_ofCountryNow_100 (by decide) rfl ?_
              obtain ⟨v656, ev656⟩ : ∃ y : Int32, y = (nI k85) + 1 := ⟨_, rfl⟩
              refine tw_iinc [(7, .int v656), (5, .int v655), (0, .ref x), (1, .int (nI a)), (2, .int w9), (3, .ref r35), (4, .int x63), (6, .int 0)] 7 dX10_ofCountryNow_102 rfl (by rw [ev656]; rfl) (by decide) rfl ?_
              refine tw_goto 77 dX10_ofCountryNow_105 (by decide) ?_
              have qv656 := tw_nI3 ev656
              rw [qv656]
              refine tw_lv [2, 3, 4, 5, 6, 1, 7, 0] rfl ?_
              exact ih87 (k85 + 1) v655 (by omega) (by omega)
        refine tw_lv [1, 2, 3, 4, 5, 6, 7, 0] rfl ?_
        exact L88 (5 + 1) 0 0 (by omega) (by omega)
      · rw [q80r]
        refine tw_if_eq 74 dX10_ofCountryNow_37 (by decide) (fun c657 => absurd c657 (by decide)) (fun _ => ?_)
        refine tw_aload 7 dX10_ofCountryNow_40 rfl ?_
        have k658 : τ el77 = 28 := k78.resolve_left (fun q => absurd q80j (by rw [q.2.1]; exact Nat.not_lt_zero _))
        obtain ⟨e659, f660, ⟨F661, rfl, hc662, hc663⟩, un664⟩ := sp70.1 el77 28 k658 (by decide)
        obtain ⟨y665, hy666, ky667⟩ := hc663 j65 q80j
        refine tw_br (tw_callF (M := mX10_ofCountryNow) (pc := 42) (n9 := 0) (ci := 2) tw_next ok_itNext w_1425 w_1423 (fun s H z => z.2.2.2.2.2.2.2.2.2) (by decide +kernel) dX10_ofCountryNow_42 w_1420 rfl ft71 [] [] rfl rfl ⟨by decide, by decide⟩ (Nat.le_of_ble_eq_true rfl) (c_next d h69 it55 lh_12 el77 j65 (g.2 4) y665 l66 (g.1 4) F661 ft71 f76 f660 q80j hc662 hy666) 2 13 (Nat.le_of_ble_eq_true rfl) (Nat.le_of_ble_eq_true rfl)) (fun r670 h669 q668 => ?_) (fun E h1 q => q.elim)
        obtain ⟨q668r, q668e⟩ := q668
        rw [q668r]
        have sp671 : tw_sp d τ (tw_rm h60 it55) g τ h669 := by rw [q668e]; exact sp70.wl tw_rm_s zt72
        have f672 : h669 it55 = some (.inr (2, [.int (nI (j65 + 1)), .int (nI j65), .int (g.1 4), .ref lh_12])) := by rw [q668e]; exact tw_up_s
        obtain ⟨e673, f674, x_675, y_676, dy_677, p_678, rfl, k679, k680, k681⟩ := sp671.1 y665 23 ky667 (by decide)
        refine tw_castS (ci := 13) rfl dX10_ofCountryNow_47 w_1336 f674 ?_
        refine tw_astore [(8, .ref y665), (0, .ref x), (1, .int (nI a)), (2, .int w9), (3, .ref r35), (4, .int x63), (5, .int 0), (6, .int 0), (7, .ref it55)] dX10_ofCountryNow_50 (by decide) rfl ?_
        refine tw_iload 5 dX10_ofCountryNow_52 rfl ?_
        refine tw_aload 0 dX10_ofCountryNow_54 rfl ?_
        refine tw_get (v := .int x_675) rfl in_13 0 dX10_ofCountryNow_56 w_1342 rfl (by decide) f674 rfl ?_
        refine tw_iload_n 2 dX10_ofCountryNow_59 rfl rfl ?_
        refine tw_icmp_ne 67 dX10_ofCountryNow_60 (by decide) (fun c682 => ?_) (fun c682 => ?_)
        · refine tw_iconst (v := 0) dX10_ofCountryNow_67 (by decide) ?_
          refine tw_iadd dX10_ofCountryNow_68 ?_
          refine tw_nmi (fun v683 ev683 => ?_)
          refine tw_istore [(4, .int v683), (8, .ref y665), (0, .ref x), (1, .int (nI a)), (2, .int w9), (3, .ref r35), (5, .int 0), (6, .int 0), (7, .ref it55)] dX10_ofCountryNow_69 (by decide) rfl ?_
          refine tw_goto 30 dX10_ofCountryNow_71 (by decide) ?_
          refine tw_lv [2, 3, 4, 5, 0, 6, 7, 8] rfl ?_
          exact ih67 ((j65 + 1)) (nI j65) v683 _ sp671 f672 zt72  (by omega) (by omega)
        · refine tw_iconst (v := 1) dX10_ofCountryNow_63 (by decide) ?_
          refine tw_goto 68 dX10_ofCountryNow_64 (by decide) ?_
          refine tw_iadd dX10_ofCountryNow_68 ?_
          refine tw_nmi (fun v684 ev684 => ?_)
          refine tw_istore [(4, .int v684), (8, .ref y665), (0, .ref x), (1, .int (nI a)), (2, .int w9), (3, .ref r35), (5, .int 0), (6, .int 0), (7, .ref it55)] dX10_ofCountryNow_69 (by decide) rfl ?_
          refine tw_goto 30 dX10_ofCountryNow_71 (by decide) ?_
          refine tw_lv [2, 3, 4, 5, 0, 6, 7, 8] rfl ?_
          exact ih67 ((j65 + 1)) (nI j65) v684 _ sp671 f672 zt72  (by omega) (by omega)
  refine tw_lv [5, 6, 7, 4, 3, 2, 1, 0] rfl ?_
  exact L68 (g.2 4 + 1) 0 (-1) 0 _ (tw_sp.rm sp61.1 it55) f62 z59 (by omega) (Nat.zero_le _)

set_option maxHeartbeats 4000000 in
set_option maxRecDepth 100000 in
theorem c_X10_ofCountry (d : tw_D) (g : tw_G) (τ : tw_K) (h : tw_H) (hw : tw_wt d g τ h) (x : Nat) (kx : τ x = 36) (a : Int32) (w9 : Int32) : tw_Ct d mX10_ofCountry 3 17 [.ref x, .int a, .int w9] h (tw_qi (fun r h1 => tw_sp d τ h g τ h1) tw_nx) := by
  refine tw_of (by decide +kernel) (Nat.le_of_ble_eq_true rfl) ?_
  show tw_W d mX10_ofCountry _ 0 [(0, .ref x), (1, .int a), (2, .int w9)] [] h 3 17
  have sp0 := tw_sp.rf hw
  refine tw_aload_n 0 dX10_ofCountry_0 rfl rfl ?_
  refine tw_aload_n 0 dX10_ofCountry_1 rfl rfl ?_
  refine tw_iload_n 1 dX10_ofCountry_2 rfl rfl ?_
  obtain ⟨e1, f2, th_3, td_4, ds_5, fr_6, ca_7, us_8, wo_9, cm_10, lc_11, lh_12, ld_13, rfl, k14, k15, k16, k17, k18, k19, k20, k21, k22, k23, k24, k25, k26, k27⟩ := sp0.1 x 36 kx (by decide)
  refine tw_bi (tw_callV (M := mX10_ofCountry) (pc := 3) okX10_isNoCountry dX10_ofCountry_3 w_1292 rfl f2 [.int a] [.ref x] rfl rfl ⟨by decide, by decide⟩ (Nat.le_of_ble_eq_true rfl) (c_X10_isNoCountry d g τ h sp0.1 x kx a) 3 17 (Nat.le_of_ble_eq_true rfl) (Nat.le_of_ble_eq_true rfl)) (fun r30 h29 q28 => ?_) (fun E h1 q => q.elim)
  obtain ⟨q28e, q28d⟩ := q28
  rw [q28e]
  rcases q28d with q28r | ⟨q28r, j31, q28j, q28k⟩
  · rw [q28r]
    refine tw_iconst (v := 1) dX10_ofCountry_6 (by decide) ?_
    refine tw_bi (tw_callV (M := mX10_ofCountry) (pc := 7) okX10_start dX10_ofCountry_7 w_1200 rfl f2 [.int 1, .int 1] [] rfl rfl ⟨by decide, by decide⟩ (Nat.le_of_ble_eq_true rfl) (c_X10_start d g τ h sp0.1 x kx 1 1 (by decide)) 3 17 (Nat.le_of_ble_eq_true rfl) (Nat.le_of_ble_eq_true rfl)) (fun r34 h33 q32 => ?_) (fun E h1 q => q.elim)
    obtain ⟨e35, he36, hs37, hr38, h339⟩ := q32
    have sp40 : tw_sp d τ h g τ h33 := by rw [he36]; exact sp0.set kx (by decide) hs37
    rcases hr38 with ei41 | ⟨ei41, ei41b⟩
    · rw [ei41]
      refine tw_if_ne 36 dX10_ofCountry_10 (by decide) (fun _ => ?_) (fun c42 => absurd c42 (by decide))
      refine tw_iconst (v := 0) dX10_ofCountry_36 (by decide) ?_
      refine tw_goto 46 dX10_ofCountry_37 (by decide) ?_
      exact tw_iret dX10_ofCountry_46 rfl (Or.inl ⟨_, rfl, sp40⟩)
    · exact absurd ei41b (by decide)
  · rw [q28r]
    subst q28k
    refine tw_iconst (v := 1) dX10_ofCountry_6 (by decide) ?_
    refine tw_bi (tw_callV (M := mX10_ofCountry) (pc := 7) okX10_start dX10_ofCountry_7 w_1200 rfl f2 [.int 0, .int 1] [] rfl rfl ⟨by decide, by decide⟩ (Nat.le_of_ble_eq_true rfl) (c_X10_start d g τ h sp0.1 x kx 0 1 (by decide)) 3 17 (Nat.le_of_ble_eq_true rfl) (Nat.le_of_ble_eq_true rfl)) (fun r45 h44 q43 => ?_) (fun E h1 q => q.elim)
    obtain ⟨e46, he47, hs48, hr49, h350⟩ := q43
    have sp51 : tw_sp d τ h g τ h44 := by rw [he47]; exact sp0.set kx (by decide) hs48
    rcases hr49 with ei52 | ⟨ei52, ei52b⟩
    · rw [ei52]
      refine tw_if_ne 36 dX10_ofCountry_10 (by decide) (fun _ => ?_) (fun c53 => absurd c53 (by decide))
      refine tw_iconst (v := 0) dX10_ofCountry_36 (by decide) ?_
      refine tw_goto 46 dX10_ofCountry_37 (by decide) ?_
      exact tw_iret dX10_ofCountry_46 rfl (Or.inl ⟨_, rfl, sp51⟩)
    · rw [ei52]
      refine tw_if_ne 36 dX10_ofCountry_10 (by decide) (fun c54 => absurd (by decide) c54) (fun _ => ?_)
      refine tw_aload_n 0 dX10_ofCountry_13 rfl rfl ?_
      refine tw_iload_n 2 dX10_ofCountry_14 rfl rfl ?_
      refine tw_iconst (v := 0) dX10_ofCountry_15 (by decide) ?_
      refine tw_bipush (v := 8) dX10_ofCountry_16 (by decide) ?_
      refine tw_bi (tw_callS (M := mX10_ofCountry) (pc := 18) okX10_isIn dX10_ofCountry_18 w_1196 [.int w9, .int 0, .int 8] [.ref x] rfl rfl ⟨by decide, by decide⟩ (Nat.le_of_ble_eq_true rfl) (c_X10_isIn d g τ h44 sp51.1 w9 0 8) 3 17 (Nat.le_of_ble_eq_true rfl) (Nat.le_of_ble_eq_true rfl)) (fun r57 h56 q55 => ?_) (fun E h1 q => q.elim)
      obtain ⟨q55e, q55d⟩ := q55
      rw [q55e]
      rcases q55d with ⟨q55r, q55n⟩ | ⟨q55r, q55a, q55b⟩
      · rw [q55r]
        refine tw_if_ne 28 dX10_ofCountry_21 (by decide) (fun c58 => absurd (by decide) c58) (fun _ => ?_)
        refine tw_iconst (v := 1) dX10_ofCountry_24 (by decide) ?_
        refine tw_goto 29 dX10_ofCountry_25 (by decide) ?_
        refine tw_iconst (v := 2) dX10_ofCountry_29 (by decide) ?_
        obtain ⟨e59, f60, th_61, td_62, ds_63, fr_64, ca_65, us_66, wo_67, cm_68, lc_69, lh_70, ld_71, rfl, k72, k73, k74, k75, k76, k77, k78, k79, k80, k81, k82, k83, k84, k85⟩ := sp51.1 x 36 kx (by decide)
        refine tw_bi (tw_callV (M := mX10_ofCountry) (pc := 30) okX10_refuse dX10_ofCountry_30 w_1204 rfl f60 [.int 1, .int 2] [] rfl rfl ⟨by decide, by decide⟩ (Nat.le_of_ble_eq_true rfl) (c_X10_refuse d g τ h44 sp51.1 x kx 1 2 (by decide)) 3 17 (Nat.le_of_ble_eq_true rfl) (Nat.le_of_ble_eq_true rfl)) (fun r88 h87 q86 => ?_) (fun E h1 q => q.elim)
        obtain ⟨e89, he90, hs91, hr92, h393⟩ := q86
        have sp94 : tw_sp d τ h g τ h87 := by rw [he90]; exact sp51.set kx (by decide) hs91
        rcases hr92 with ei95 | ⟨ei95, ei95b⟩
        · rw [ei95]
          refine tw_if_eq 40 dX10_ofCountry_33 (by decide) (fun c96 => absurd c96 (by decide)) (fun _ => ?_)
          refine tw_iconst (v := 0) dX10_ofCountry_36 (by decide) ?_
          refine tw_goto 46 dX10_ofCountry_37 (by decide) ?_
          exact tw_iret dX10_ofCountry_46 rfl (Or.inl ⟨_, rfl, sp94⟩)
        · exact absurd ei95b (by decide)
      · rw [q55r]
        refine tw_if_ne 28 dX10_ofCountry_21 (by decide) (fun _ => ?_) (fun c97 => absurd c97 (by decide))
        refine tw_iconst (v := 0) dX10_ofCountry_28 (by decide) ?_
        refine tw_iconst (v := 2) dX10_ofCountry_29 (by decide) ?_
        obtain ⟨e98, f99, th_100, td_101, ds_102, fr_103, ca_104, us_105, wo_106, cm_107, lc_108, lh_109, ld_110, rfl, k111, k112, k113, k114, k115, k116, k117, k118, k119, k120, k121, k122, k123, k124⟩ := sp51.1 x 36 kx (by decide)
        refine tw_bi (tw_callV (M := mX10_ofCountry) (pc := 30) okX10_refuse dX10_ofCountry_30 w_1204 rfl f99 [.int 0, .int 2] [] rfl rfl ⟨by decide, by decide⟩ (Nat.le_of_ble_eq_true rfl) (c_X10_refuse d g τ h44 sp51.1 x kx 0 2 (by decide)) 3 17 (Nat.le_of_ble_eq_true rfl) (Nat.le_of_ble_eq_true rfl)) (fun r127 h126 q125 => ?_) (fun E h1 q => q.elim)
        obtain ⟨e128, he129, hs130, hr131, h3132⟩ := q125
        have sp133 : tw_sp d τ h g τ h126 := by rw [he129]; exact sp51.set kx (by decide) hs130
        rcases hr131 with ei134 | ⟨ei134, ei134b⟩
        · rw [ei134]
          refine tw_if_eq 40 dX10_ofCountry_33 (by decide) (fun c135 => absurd c135 (by decide)) (fun _ => ?_)
          refine tw_iconst (v := 0) dX10_ofCountry_36 (by decide) ?_
          refine tw_goto 46 dX10_ofCountry_37 (by decide) ?_
          exact tw_iret dX10_ofCountry_46 rfl (Or.inl ⟨_, rfl, sp133⟩)
        · rw [ei134]
          refine tw_if_eq 40 dX10_ofCountry_33 (by decide) (fun _ => ?_) (fun c136 => absurd (by decide) c136)
          refine tw_aload_n 0 dX10_ofCountry_40 rfl rfl ?_
          refine tw_iload_n 1 dX10_ofCountry_41 rfl rfl ?_
          refine tw_iload_n 2 dX10_ofCountry_42 rfl rfl ?_
          obtain ⟨e137, f138, th_139, td_140, ds_141, fr_142, ca_143, us_144, wo_145, cm_146, lc_147, lh_148, ld_149, rfl, k150, k151, k152, k153, k154, k155, k156, k157, k158, k159, k160, k161, k162, k163⟩ := sp133.1 x 36 kx (by decide)
          refine tw_bi (tw_callV (M := mX10_ofCountry) (pc := 43) okX10_ofCountryNow dX10_ofCountry_43 w_1505 rfl f138 [.int (nI j31), .int w9] [] rfl rfl ⟨by decide, by decide⟩ (Nat.le_of_ble_eq_true rfl) (c_X10_ofCountryNow d g τ h126 sp133.1 x kx w9 j31 (by omega) (tw_irng (N := 9) q55a q55b (by decide) (by decide))) 0 0 (Nat.le_of_ble_eq_true rfl) (Nat.le_of_ble_eq_true rfl)) (fun r166 h165 q164 => ?_) (fun E h1 q => q.elim)
          have sp167 := sp133.tr q164
          exact tw_iret dX10_ofCountry_46 rfl (Or.inl ⟨_, rfl, sp167⟩)

set_option maxHeartbeats 4000000 in
set_option maxRecDepth 100000 in
theorem c_X10_ofHouseNow (d : tw_D) (g : tw_G) (τ : tw_K) (h : tw_H) (hw : tw_wt d g τ h) (x : Nat) (kx : τ x = 36) (w9 : Int32) (a : Nat) (ha : a < g.2 4) (hw9 : vp_in w9 8) : tw_Ct d mX10_ofHouseNow 2 12 [.ref x, .int (nI a), .int w9] h (tw_qi (fun r h1 => tw_sp d τ h g τ h1) tw_nx) := by
  refine tw_of (by decide +kernel) (Nat.le_of_ble_eq_true rfl) ?_
  show tw_W d mX10_ofHouseNow _ 0 [(0, .ref x), (1, .int (nI a)), (2, .int w9)] [] h 2 12
  have sp0 := tw_sp.rf hw
  refine tw_aload_n 0 dX10_ofHouseNow_0 rfl rfl ?_
  obtain ⟨e1, f2, th_3, td_4, ds_5, fr_6, ca_7, us_8, wo_9, cm_10, lc_11, lh_12, ld_13, rfl, k14, k15, k16, k17, k18, k19, k20, k21, k22, k23, k24, k25, k26, k27⟩ := sp0.1 x 36 kx (by decide)
  refine tw_get (v := .ref lh_12) rfl in_14 10 dX10_ofHouseNow_1 w_1161 rfl (by decide) f2 rfl ?_
  refine tw_iload_n 1 dX10_ofHouseNow_4 rfl rfl ?_
  obtain ⟨e28, f29, ⟨el30, rfl, k31⟩, k32⟩ := sp0.1 lh_12 25 k21 (by decide)
  refine tw_br (tw_callV (M := mX10_ofHouseNow) (pc := 5) okJx4a65c_get_915e3 dX10_ofHouseNow_5 w_1296 rfl f29 [.int (nI a)] [] rfl rfl ⟨by decide, by decide⟩ (Nat.le_of_ble_eq_true rfl) (c25_get d g τ h sp0.1 lh_12 k21 a (by omega) (by omega)) 2 12 (Nat.le_of_ble_eq_true rfl) (Nat.le_of_ble_eq_true rfl)) (fun r35 h34 q33 => ?_) (fun E h1 q => q.elim)
  obtain ⟨q33e, q33k⟩ := q33
  rw [q33e]
  have el36 : tw_el h (g.2 13) a = r35 := by rw [← k32]; exact q33k.2.symm
  have kl37 : τ (g.2 13) = 25 := by rw [← k32]; exact k21
  obtain ⟨e38, f39, x_40, y_41, dy_42, p_43, rfl, k44, k45, k46⟩ := sp0.1 r35 23 q33k.1 (by decide)
  refine tw_castS (ci := 13) rfl dX10_ofHouseNow_8 w_1336 f39 ?_
  refine tw_astore_n [(3, .ref r35), (0, .ref x), (1, .int (nI a)), (2, .int w9)] dX10_ofHouseNow_11 rfl (by decide) rfl ?_
  refine tw_iconst (v := 0) dX10_ofHouseNow_12 (by decide) ?_
  refine tw_istore [(4, .int 0), (3, .ref r35), (0, .ref x), (1, .int (nI a)), (2, .int w9)] dX10_ofHouseNow_13 (by decide) rfl ?_
  refine tw_iconst (v := 0) dX10_ofHouseNow_15 (by decide) ?_
  refine tw_istore [(5, .int 0), (4, .int 0), (3, .ref r35), (0, .ref x), (1, .int (nI a)), (2, .int w9)] dX10_ofHouseNow_16 (by decide) rfl ?_
  refine tw_aload_n 3 dX10_ofHouseNow_18 rfl rfl ?_
  refine tw_get (v := .ref ld_13) rfl in_14 11 dX10_ofHouseNow_19 w_1162 rfl (by decide) f2 rfl ?_
  obtain ⟨e47, f48, ⟨el49, rfl, k50⟩, k51⟩ := sp0.1 ld_13 26 k22 (by decide)
  refine tw_br (tw_callV (M := mX10_ofHouseNow) (pc := 22) okJx4a65c_iterator_32c93 dX10_ofHouseNow_22 w_1386 rfl f48 [] [] rfl rfl ⟨by decide, by decide⟩ (Nat.le_of_ble_eq_true rfl) (c_iterator d h ld_13 el49 (g.1 5) (nI (g.2 5)) f48) 1 8 (Nat.le_of_ble_eq_true rfl) (Nat.le_of_ble_eq_true rfl)) (fun it52 h53 q54 => ?_) (fun E h1 q => q.elim)
  obtain ⟨q54n, q54e⟩ := q54
  rw [q54e]
  have n55 := sp0.nn q54n
  have z56 := sp0.1.none q54n
  obtain ⟨h57, eh57⟩ : ∃ z : tw_H, z = tw_up h it52 (.inr (2, [.int 0, .int (-1), .int (g.1 5), .ref ld_13])) := ⟨_, rfl⟩
  rw [← eh57]
  have sp58 : tw_sp d τ h g τ h57 := by rw [eh57]; exact sp0.mk q54n
  have f59 : h57 it52 = some (.inr (2, [.int 0, .int (-1), .int (g.1 5), .ref ld_13])) := by rw [eh57]; exact tw_up_s
  refine tw_astore [(6, .ref it52), (5, .int 0), (4, .int 0), (3, .ref r35), (0, .ref x), (1, .int (nI a)), (2, .int w9)] dX10_ofHouseNow_25 (by decide) rfl ?_
  have L66 : ∀ (r62 j63 : Nat) (l64 : Int32) (x60 : Int32) (x61 : Int32) (h67 : tw_H) (sp68 : tw_sp d τ (tw_rm h57 it52) g τ h67) (ft69 : h67 it52 = some (.inr (2, [.int (nI j63), .int l64, .int (g.1 5), .ref ld_13]))) (zt70 : τ it52 = 0), g.2 5 + 1 ≤ j63 + r62 → j63 ≤ g.2 5 → tw_W d mX10_ofHouseNow (tw_qi (fun r h1 => tw_sp d τ h g τ h1) tw_nx) 27 [(0, .ref x), (1, .int (nI a)), (2, .int w9), (3, .ref r35), (4, .int x60), (5, .int x61), (6, .ref it52)] [] h67 1 8 := by
    intro r62
    induction r62 with
    | zero => intro j63 l64 x60 x61 h67 sp68 ft69 zt70 hk71 hk72; exact absurd hk71 (by omega)
    | succ r62 ih65 =>
      intro j63 l64 x60 x61 h67 sp68 ft69 zt70 hk71 hk72
      refine tw_aload 6 dX10_ofHouseNow_27 rfl ?_
      obtain ⟨e73, f74, ⟨el75, rfl, k76⟩, k77⟩ := sp68.1 ld_13 26 k22 (by decide)
      refine tw_bi (tw_callF (M := mX10_ofHouseNow) (pc := 29) (n9 := 0) (ci := 2) tw_hasNext ok_itHas w_1416 w_1414 (fun s H z => z.2.2.2.2.2.2.2.2.1) (by decide +kernel) dX10_ofHouseNow_29 w_1410 rfl ft69 [] [] rfl rfl ⟨by decide, by decide⟩ (Nat.le_of_ble_eq_true rfl) (c_hasNext d h67 it52 ld_13 el75 j63 (g.2 5) l64 (g.1 5) (g.1 5) ft69 f74 (by omega) (tw_lim26 sp68.1 k22)) 1 8 (Nat.le_of_ble_eq_true rfl) (Nat.le_of_ble_eq_true rfl)) (fun r80 h79 q78 => ?_) (fun E h1 q => q.elim)
      obtain ⟨q78e, q78q⟩ := q78
      rw [q78e]
      rcases q78q with ⟨q78r, q78j⟩ | ⟨q78r, q78j⟩
      · rw [q78r]
        refine tw_if_eq 106 dX10_ofHouseNow_34 (by decide) (fun _ => ?_) (fun c81 => absurd (by decide) c81)
        refine tw_bipush (v := 8) dX10_ofHouseNow_106 (by decide) ?_
        refine tw_newa (a0 := (8, .inr (.inl (fun _ => 0)))) 1 rfl dX10_ofHouseNow_108 rfl w_1150 (fun _ => rfl) (by decide) (by decide) (by decide) 0 0 (Nat.le_of_ble_eq_true rfl) (Nat.le_of_ble_eq_true rfl) (fun q82 hq83 hA84 => ?_)
        have n85 := sp68.nn hq83
        have z86 := sp68.1.none hq83
        have ne87 := tw_neF ft69 hq83
        obtain ⟨h88, eh88⟩ : ∃ z : tw_H, z = tw_up h67 q82 (.inl (d.2 1, 8, .inr (.inl (fun _ => 0)))) := ⟨_, rfl⟩
        rw [← eh88]
        have sp89 : tw_sp d τ (tw_rm h57 it52) g τ h88 := by rw [eh88]; exact sp68.mk hq83
        have f90 : h88 it52 = some (.inr (2, [.int (nI j63), .int l64, .int (g.1 5), .ref ld_13])) := by rw [eh88, tw_up_n ne87]; exact ft69
        have f91 : h88 q82 = some (.inl (d.2 1, 8, .inr (.inl (fun _ => 0)))) := by rw [eh88]; exact tw_up_s
        refine tw_dup dX10_ofHouseNow_110 rfl ?_
        refine tw_iconst (v := 0) dX10_ofHouseNow_111 (by decide) ?_
        refine tw_aload_n 3 dX10_ofHouseNow_112 rfl rfl ?_
        obtain ⟨e92, f93, x_94, y_95, dy_96, p_97, rfl, k98, k99, k100⟩ := sp89.1 r35 23 q33k.1 (by decide)
        refine tw_get (v := .int x_94) rfl in_13 0 dX10_ofHouseNow_113 w_1342 rfl (by decide) f93 rfl ?_
        refine tw_i2l dX10_ofHouseNow_116 ?_
        refine tw_nml (fun v101 ev101 => ?_)
        refine tw_last dX10_ofHouseNow_117 f91 (vp_in_nI (n := 0) (by decide) (by decide)) ?_
        obtain ⟨F102, eF102⟩ : ∃ z : Nat → Int64, z = vp_updL (fun _ => 0) (0 : Int32).toNatClampNeg v101 := ⟨_, rfl⟩
        rw [← eF102]
        obtain ⟨h103, eh103⟩ : ∃ z : tw_H, z = tw_up h88 q82 (.inl (d.2 1, 8, .inr (.inl F102))) := ⟨_, rfl⟩
        rw [← eh103]
        have sp104 : tw_sp d τ (tw_rm h57 it52) g τ h103 := by rw [eh103]; exact sp89.wl n85 z86
        have f105 : h103 it52 = some (.inr (2, [.int (nI j63), .int l64, .int (g.1 5), .ref ld_13])) := by rw [eh103, tw_up_n ne87]; exact f90
        have f106 : h103 q82 = some (.inl (d.2 1, 8, .inr (.inl F102))) := by rw [eh103]; exact tw_up_s
        refine tw_dup dX10_ofHouseNow_118 rfl ?_
        refine tw_iconst (v := 1) dX10_ofHouseNow_119 (by decide) ?_
        refine tw_aload_n 3 dX10_ofHouseNow_120 rfl rfl ?_
        obtain ⟨e107, f108, x_109, y_110, dy_111, p_112, rfl, k113, k114, k115⟩ := sp104.1 r35 23 q33k.1 (by decide)
        refine tw_get (v := .int y_110) rfl in_13 1 dX10_ofHouseNow_121 w_1344 rfl (by decide) f108 rfl ?_
        refine tw_i2l dX10_ofHouseNow_124 ?_
        refine tw_nml (fun v116 ev116 => ?_)
        refine tw_last dX10_ofHouseNow_125 f106 (vp_in_nI (n := 1) (by decide) (by decide)) ?_
        obtain ⟨F117, eF117⟩ : ∃ z : Nat → Int64, z = vp_updL F102 (1 : Int32).toNatClampNeg v116 := ⟨_, rfl⟩
        rw [← eF117]
        obtain ⟨h118, eh118⟩ : ∃ z : tw_H, z = tw_up h103 q82 (.inl (d.2 1, 8, .inr (.inl F117))) := ⟨_, rfl⟩
        rw [← eh118]
        have sp119 : tw_sp d τ (tw_rm h57 it52) g τ h118 := by rw [eh118]; exact sp104.wl n85 z86
        have f120 : h118 it52 = some (.inr (2, [.int (nI j63), .int l64, .int (g.1 5), .ref ld_13])) := by rw [eh118, tw_up_n ne87]; exact f105
        have f121 : h118 q82 = some (.inl (d.2 1, 8, .inr (.inl F117))) := by rw [eh118]; exact tw_up_s
        refine tw_dup dX10_ofHouseNow_126 rfl ?_
        refine tw_iconst (v := 2) dX10_ofHouseNow_127 (by decide) ?_
        refine tw_aload_n 3 dX10_ofHouseNow_128 rfl rfl ?_
        obtain ⟨e122, f123, x_124, y_125, dy_126, p_127, rfl, k128, k129, k130⟩ := sp119.1 r35 23 q33k.1 (by decide)
        refine tw_get (v := .int dy_126) rfl in_13 2 dX10_ofHouseNow_129 w_1346 rfl (by decide) f123 rfl ?_
        refine tw_i2l dX10_ofHouseNow_132 ?_
        refine tw_nml (fun v131 ev131 => ?_)
        refine tw_last dX10_ofHouseNow_133 f121 (vp_in_nI (n := 2) (by decide) (by decide)) ?_
        obtain ⟨F132, eF132⟩ : ∃ z : Nat → Int64, z = vp_updL F117 (2 : Int32).toNatClampNeg v131 := ⟨_, rfl⟩
        rw [← eF132]
        obtain ⟨h133, eh133⟩ : ∃ z : tw_H, z = tw_up h118 q82 (.inl (d.2 1, 8, .inr (.inl F132))) := ⟨_, rfl⟩
        rw [← eh133]
        have sp134 : tw_sp d τ (tw_rm h57 it52) g τ h133 := by rw [eh133]; exact sp119.wl n85 z86
        have f135 : h133 it52 = some (.inr (2, [.int (nI j63), .int l64, .int (g.1 5), .ref ld_13])) := by rw [eh133, tw_up_n ne87]; exact f120
        have f136 : h133 q82 = some (.inl (d.2 1, 8, .inr (.inl F132))) := by rw [eh133]; exact tw_up_s
        refine tw_dup dX10_ofHouseNow_134 rfl ?_
        refine tw_iconst (v := 3) dX10_ofHouseNow_135 (by decide) ?_
        refine tw_aload_n 3 dX10_ofHouseNow_136 rfl rfl ?_
        obtain ⟨e137, f138, x_139, y_140, dy_141, p_142, rfl, k143, k144, k145⟩ := sp134.1 r35 23 q33k.1 (by decide)
        refine tw_get (v := .ref p_142) rfl in_13 3 dX10_ofHouseNow_137 w_1348 rfl (by decide) f138 rfl ?_
        refine tw_iconst (v := 0) dX10_ofHouseNow_140 (by decide) ?_
        obtain ⟨e146, f147, F148, rfl⟩ := sp134.1 p_142 31 k143 (by decide)
        obtain ⟨v149, ev149⟩ : ∃ y : Int64, F148 (0 : Int32).toNatClampNeg = y := ⟨_, rfl⟩
        refine tw_lald (v := v149) dX10_ofHouseNow_141 f147 (vp_in_nI (n := 0) (by decide) (by decide)) ev149 ?_
        refine tw_last dX10_ofHouseNow_142 f136 (vp_in_nI (n := 3) (by decide) (by decide)) ?_
        obtain ⟨F150, eF150⟩ : ∃ z : Nat → Int64, z = vp_updL F132 (3 : Int32).toNatClampNeg v149 := ⟨_, rfl⟩
        rw [← eF150]
        obtain ⟨h151, eh151⟩ : ∃ z : tw_H, z = tw_up h133 q82 (.inl (d.2 1, 8, .inr (.inl F150))) := ⟨_, rfl⟩
        rw [← eh151]
        have sp152 : tw_sp d τ (tw_rm h57 it52) g τ h151 := by rw [eh151]; exact sp134.wl n85 z86
        have f153 : h151 it52 = some (.inr (2, [.int (nI j63), .int l64, .int (g.1 5), .ref ld_13])) := by rw [eh151, tw_up_n ne87]; exact f135
        have f154 : h151 q82 = some (.inl (d.2 1, 8, .inr (.inl F150))) := by rw [eh151]; exact tw_up_s
        refine tw_dup dX10_ofHouseNow_143 rfl ?_
        refine tw_iconst (v := 4) dX10_ofHouseNow_144 (by decide) ?_
        refine tw_aload_n 3 dX10_ofHouseNow_145 rfl rfl ?_
        obtain ⟨e155, f156, x_157, y_158, dy_159, p_160, rfl, k161, k162, k163⟩ := sp152.1 r35 23 q33k.1 (by decide)
        refine tw_get (v := .ref p_160) rfl in_13 3 dX10_ofHouseNow_146 w_1348 rfl (by decide) f156 rfl ?_
        refine tw_iconst (v := 1) dX10_ofHouseNow_149 (by decide) ?_
        obtain ⟨e164, f165, F166, rfl⟩ := sp152.1 p_160 31 k161 (by decide)
        obtain ⟨v167, ev167⟩ : ∃ y : Int64, F166 (1 : Int32).toNatClampNeg = y := ⟨_, rfl⟩
        refine tw_lald (v := v167) dX10_ofHouseNow_150 f165 (vp_in_nI (n := 1) (by decide) (by decide)) ev167 ?_
        refine tw_last dX10_ofHouseNow_151 f154 (vp_in_nI (n := 4) (by decide) (by decide)) ?_
        obtain ⟨F168, eF168⟩ : ∃ z : Nat → Int64, z = vp_updL F150 (4 : Int32).toNatClampNeg v167 := ⟨_, rfl⟩
        rw [← eF168]
        obtain ⟨h169, eh169⟩ : ∃ z : tw_H, z = tw_up h151 q82 (.inl (d.2 1, 8, .inr (.inl F168))) := ⟨_, rfl⟩
        rw [← eh169]
        have sp170 : tw_sp d τ (tw_rm h57 it52) g τ h169 := by rw [eh169]; exact sp152.wl n85 z86
        have f171 : h169 it52 = some (.inr (2, [.int (nI j63), .int l64, .int (g.1 5), .ref ld_13])) := by rw [eh169, tw_up_n ne87]; exact f153
        have f172 : h169 q82 = some (.inl (d.2 1, 8, .inr (.inl F168))) := by rw [eh169]; exact tw_up_s
        refine tw_dup dX10_ofHouseNow_152 rfl ?_
        refine tw_iconst (v := 5) dX10_ofHouseNow_153 (by decide) ?_
        refine tw_aload_n 0 dX10_ofHouseNow_154 rfl rfl ?_
        refine tw_aload_n 3 dX10_ofHouseNow_155 rfl rfl ?_
        obtain ⟨e173, f174, x_175, y_176, dy_177, p_178, rfl, k179, k180, k181⟩ := sp170.1 r35 23 q33k.1 (by decide)
        refine tw_get (v := .ref p_178) rfl in_13 3 dX10_ofHouseNow_156 w_1348 rfl (by decide) f174 rfl ?_
        obtain ⟨e182, f183, th_184, td_185, ds_186, fr_187, ca_188, us_189, wo_190, cm_191, lc_192, lh_193, ld_194, rfl, k195, k196, k197, k198, k199, k200, k201, k202, k203, k204, k205, k206, k207, k208⟩ := sp170.1 x 36 kx (by decide)
        refine tw_bl (tw_callV (M := mX10_ofHouseNow) (pc := 159) okX10_worth dX10_ofHouseNow_159 w_1509 rfl f183 [.ref p_178] [.int 5, .ref q82, .ref q82] rfl rfl ⟨by decide, by decide⟩ (Nat.le_of_ble_eq_true rfl) (c_X10_worth d g τ h169 sp170.1 x kx p_178 k179) 0 0 (Nat.le_of_ble_eq_true rfl) (Nat.le_of_ble_eq_true rfl)) (fun r211 h210 q209 => ?_) (fun E h1 q => q.elim)
        rw [q209]
        refine tw_last dX10_ofHouseNow_162 f172 (vp_in_nI (n := 5) (by decide) (by decide)) ?_
        obtain ⟨F212, eF212⟩ : ∃ z : Nat → Int64, z = vp_updL F168 (5 : Int32).toNatClampNeg r211 := ⟨_, rfl⟩
        rw [← eF212]
        obtain ⟨h213, eh213⟩ : ∃ z : tw_H, z = tw_up h169 q82 (.inl (d.2 1, 8, .inr (.inl F212))) := ⟨_, rfl⟩
        rw [← eh213]
        have sp214 : tw_sp d τ (tw_rm h57 it52) g τ h213 := by rw [eh213]; exact sp170.wl n85 z86
        have f215 : h213 it52 = some (.inr (2, [.int (nI j63), .int l64, .int (g.1 5), .ref ld_13])) := by rw [eh213, tw_up_n ne87]; exact f171
        have f216 : h213 q82 = some (.inl (d.2 1, 8, .inr (.inl F212))) := by rw [eh213]; exact tw_up_s
        refine tw_dup dX10_ofHouseNow_163 rfl ?_
        refine tw_bipush (v := 6) dX10_ofHouseNow_164 (by decide) ?_
        refine tw_iload 4 dX10_ofHouseNow_166 rfl ?_
        refine tw_i2l dX10_ofHouseNow_168 ?_
        refine tw_nml (fun v217 ev217 => ?_)
        refine tw_last dX10_ofHouseNow_169 f216 (vp_in_nI (n := 6) (by decide) (by decide)) ?_
        obtain ⟨F218, eF218⟩ : ∃ z : Nat → Int64, z = vp_updL F212 (6 : Int32).toNatClampNeg v217 := ⟨_, rfl⟩
        rw [← eF218]
        obtain ⟨h219, eh219⟩ : ∃ z : tw_H, z = tw_up h213 q82 (.inl (d.2 1, 8, .inr (.inl F218))) := ⟨_, rfl⟩
        rw [← eh219]
        have sp220 : tw_sp d τ (tw_rm h57 it52) g τ h219 := by rw [eh219]; exact sp214.wl n85 z86
        have f221 : h219 it52 = some (.inr (2, [.int (nI j63), .int l64, .int (g.1 5), .ref ld_13])) := by rw [eh219, tw_up_n ne87]; exact f215
        have f222 : h219 q82 = some (.inl (d.2 1, 8, .inr (.inl F218))) := by rw [eh219]; exact tw_up_s
        refine tw_dup dX10_ofHouseNow_170 rfl ?_
        refine tw_bipush (v := 7) dX10_ofHouseNow_171 (by decide) ?_
        refine tw_iload 5 dX10_ofHouseNow_173 rfl ?_
        refine tw_i2l dX10_ofHouseNow_175 ?_
        refine tw_nml (fun v223 ev223 => ?_)
        refine tw_last dX10_ofHouseNow_176 f222 (vp_in_nI (n := 7) (by decide) (by decide)) ?_
        obtain ⟨F224, eF224⟩ : ∃ z : Nat → Int64, z = vp_updL F218 (7 : Int32).toNatClampNeg v223 := ⟨_, rfl⟩
        rw [← eF224]
        obtain ⟨h225, eh225⟩ : ∃ z : tw_H, z = tw_up h219 q82 (.inl (d.2 1, 8, .inr (.inl F224))) := ⟨_, rfl⟩
        rw [← eh225]
        have sp226 : tw_sp d τ (tw_rm h57 it52) g τ h225 := by rw [eh225]; exact sp220.wl n85 z86
        have f227 : h225 it52 = some (.inr (2, [.int (nI j63), .int l64, .int (g.1 5), .ref ld_13])) := by rw [eh225, tw_up_n ne87]; exact f221
        have f228 : h225 q82 = some (.inl (d.2 1, 8, .inr (.inl F224))) := by rw [eh225]; exact tw_up_s
        refine tw_astore [(6, .ref q82), (0, .ref x), (1, .int (nI a)), (2, .int w9), (3, .ref r35), (4, .int x60), (5, .int x61)] dX10_ofHouseNow_177 (by decide) rfl ?_
        refine tw_aload 0 dX10_ofHouseNow_179 rfl ?_
        refine tw_iload_n 3 dX10_ofHouseNow_181 rfl rfl ?_
        obtain ⟨v229, ev229⟩ : ∃ y : Int64, F224 (w9).toNatClampNeg = y := ⟨_, rfl⟩
        refine tw_lald (v := v229) dX10_ofHouseNow_182 f228 hw9 ev229 ?_
        refine tw_l2i dX10_ofHouseNow_183 ?_
        refine tw_nmi (fun v230 ev230 => ?_)
        exact tw_iret dX10_ofHouseNow_184 rfl (Or.inl ⟨_, rfl, (sp58.trm n55 sp226)⟩)
      · rw [q78r]
        refine tw_if_eq 106 dX10_ofHouseNow_34 (by decide) (fun c231 => absurd c231 (by decide)) (fun _ => ?_)
        refine tw_aload 6 dX10_ofHouseNow_37 rfl ?_
        have k232 : τ el75 = 29 := k76.resolve_left (fun q => absurd q78j (by rw [q.2.1]; exact Nat.not_lt_zero _))
        obtain ⟨e233, f234, ⟨F235, rfl, hc236, hc237⟩, un238⟩ := sp68.1 el75 29 k232 (by decide)
        obtain ⟨y239, hy240, ky241⟩ := hc237 j63 q78j
        refine tw_br (tw_callF (M := mX10_ofHouseNow) (pc := 39) (n9 := 0) (ci := 2) tw_next ok_itNext w_1425 w_1423 (fun s H z => z.2.2.2.2.2.2.2.2.2) (by decide +kernel) dX10_ofHouseNow_39 w_1420 rfl ft69 [] [] rfl rfl ⟨by decide, by decide⟩ (Nat.le_of_ble_eq_true rfl) (c_next d h67 it52 ld_13 el75 j63 (g.2 5) y239 l64 (g.1 5) F235 ft69 f74 f234 q78j hc236 hy240) 1 8 (Nat.le_of_ble_eq_true rfl) (Nat.le_of_ble_eq_true rfl)) (fun r244 h243 q242 => ?_) (fun E h1 q => q.elim)
        obtain ⟨q242r, q242e⟩ := q242
        rw [q242r]
        have sp245 : tw_sp d τ (tw_rm h57 it52) g τ h243 := by rw [q242e]; exact sp68.wl tw_rm_s zt70
        have f246 : h243 it52 = some (.inr (2, [.int (nI (j63 + 1)), .int (nI j63), .int (g.1 5), .ref ld_13])) := by rw [q242e]; exact tw_up_s
        obtain ⟨e247, f248, v_249, dy_250, pd_251, i_252, j_253, rfl, k254, k255, k256⟩ := sp245.1 y239 22 ky241 (by decide)
        refine tw_castS (ci := 12) rfl dX10_ofHouseNow_44 w_1437 f248 ?_
        refine tw_astore [(7, .ref y239), (0, .ref x), (1, .int (nI a)), (2, .int w9), (3, .ref r35), (4, .int x60), (5, .int x61), (6, .ref it52)] dX10_ofHouseNow_47 (by decide) rfl ?_
        refine tw_iload 5 dX10_ofHouseNow_49 rfl ?_
        refine tw_aload 0 dX10_ofHouseNow_51 rfl ?_
        refine tw_get (v := .int pd_251) rfl in_12 4 dX10_ofHouseNow_53 w_1447 rfl (by decide) f248 rfl ?_
        refine tw_if_ne 72 dX10_ofHouseNow_56 (by decide) (fun c257 => ?_) (fun c257 => ?_)
        · refine tw_iconst (v := 0) dX10_ofHouseNow_72 (by decide) ?_
          refine tw_iadd dX10_ofHouseNow_73 ?_
          refine tw_nmi (fun v258 ev258 => ?_)
          refine tw_istore [(4, .int v258), (7, .ref y239), (0, .ref x), (1, .int (nI a)), (2, .int w9), (3, .ref r35), (5, .int x61), (6, .ref it52)] dX10_ofHouseNow_74 (by decide) rfl ?_
          refine tw_iload 6 dX10_ofHouseNow_76 rfl ?_
          refine tw_aload 1 dX10_ofHouseNow_78 rfl ?_
          refine tw_get (v := .int pd_251) rfl in_12 4 dX10_ofHouseNow_80 w_1447 rfl (by decide) f248 rfl ?_
          refine tw_if_ne 99 dX10_ofHouseNow_83 (by decide) (fun c259 => ?_) (fun c259 => ?_)
          · refine tw_iconst (v := 0) dX10_ofHouseNow_99 (by decide) ?_
            refine tw_iadd dX10_ofHouseNow_100 ?_
            refine tw_nmi (fun v260 ev260 => ?_)
            refine tw_istore [(5, .int v260), (4, .int v258), (7, .ref y239), (0, .ref x), (1, .int (nI a)), (2, .int w9), (3, .ref r35), (6, .ref it52)] dX10_ofHouseNow_101 (by decide) rfl ?_
            refine tw_goto 27 dX10_ofHouseNow_103 (by decide) ?_
            refine tw_lv [3, 4, 5, 6, 1, 0, 7] rfl ?_
            exact ih65 ((j63 + 1)) (nI j63) v258 v260 _ sp245 f246 zt70  (by omega) (by omega)
          · refine tw_aload 1 dX10_ofHouseNow_86 rfl ?_
            refine tw_get (v := .int (nI j_253)) rfl in_12 1 dX10_ofHouseNow_88 w_1444 rfl (by decide) f248 rfl ?_
            refine tw_iload_n 3 dX10_ofHouseNow_91 rfl rfl ?_
            refine tw_icmp_ne 99 dX10_ofHouseNow_92 (by decide) (fun c261 => ?_) (fun c261 => ?_)
            · refine tw_iconst (v := 0) dX10_ofHouseNow_99 (by decide) ?_
              refine tw_iadd dX10_ofHouseNow_100 ?_
              refine tw_nmi (fun v262 ev262 => ?_)
              refine tw_istore [(5, .int v262), (4, .int v258), (7, .ref y239), (0, .ref x), (1, .int (nI a)), (2, .int w9), (3, .ref r35), (6, .ref it52)] dX10_ofHouseNow_101 (by decide) rfl ?_
              refine tw_goto 27 dX10_ofHouseNow_103 (by decide) ?_
              refine tw_lv [3, 4, 5, 6, 1, 0, 7] rfl ?_
              exact ih65 ((j63 + 1)) (nI j63) v258 v262 _ sp245 f246 zt70  (by omega) (by omega)
            · refine tw_iconst (v := 1) dX10_ofHouseNow_95 (by decide) ?_
              refine tw_goto 100 dX10_ofHouseNow_96 (by decide) ?_
              refine tw_iadd dX10_ofHouseNow_100 ?_
              refine tw_nmi (fun v263 ev263 => ?_)
              refine tw_istore [(5, .int v263), (4, .int v258), (7, .ref y239), (0, .ref x), (1, .int (nI a)), (2, .int w9), (3, .ref r35), (6, .ref it52)] dX10_ofHouseNow_101 (by decide) rfl ?_
              refine tw_goto 27 dX10_ofHouseNow_103 (by decide) ?_
              refine tw_lv [3, 4, 5, 6, 1, 0, 7] rfl ?_
              exact ih65 ((j63 + 1)) (nI j63) v258 v263 _ sp245 f246 zt70  (by omega) (by omega)
        · refine tw_aload 0 dX10_ofHouseNow_59 rfl ?_
          refine tw_get (v := .int (nI i_252)) rfl in_12 0 dX10_ofHouseNow_61 w_1443 rfl (by decide) f248 rfl ?_
          refine tw_iload_n 2 dX10_ofHouseNow_64 rfl rfl ?_
          refine tw_icmp_ne 72 dX10_ofHouseNow_65 (by decide) (fun c264 => ?_) (fun c264 => ?_)
          · refine tw_iconst (v := 0) dX10_ofHouseNow_72 (by decide) ?_
            refine tw_iadd dX10_ofHouseNow_73 ?_
            refine tw_nmi (fun v265 ev265 => ?_)
            refine tw_istore [(4, .int v265), (7, .ref y239), (0, .ref x), (1, .int (nI a)), (2, .int w9), (3, .ref r35), (5, .int x61), (6, .ref it52)] dX10_ofHouseNow_74 (by decide) rfl ?_
            refine tw_iload 6 dX10_ofHouseNow_76 rfl ?_
            refine tw_aload 1 dX10_ofHouseNow_78 rfl ?_
            refine tw_get (v := .int pd_251) rfl in_12 4 dX10_ofHouseNow_80 w_1447 rfl (by decide) f248 rfl ?_
            refine tw_if_ne 99 dX10_ofHouseNow_83 (by decide) (fun c266 => ?_) (fun c266 => ?_)
            · refine tw_iconst (v := 0) dX10_ofHouseNow_99 (by decide) ?_
              refine tw_iadd dX10_ofHouseNow_100 ?_
              refine tw_nmi (fun v267 ev267 => ?_)
              refine tw_istore [(5, .int v267), (4, .int v265), (7, .ref y239), (0, .ref x), (1, .int (nI a)), (2, .int w9), (3, .ref r35), (6, .ref it52)] dX10_ofHouseNow_101 (by decide) rfl ?_
              refine tw_goto 27 dX10_ofHouseNow_103 (by decide) ?_
              refine tw_lv [3, 4, 5, 6, 1, 0, 7] rfl ?_
              exact ih65 ((j63 + 1)) (nI j63) v265 v267 _ sp245 f246 zt70  (by omega) (by omega)
            · refine tw_aload 1 dX10_ofHouseNow_86 rfl ?_
              refine tw_get (v := .int (nI j_253)) rfl in_12 1 dX10_ofHouseNow_88 w_1444 rfl (by decide) f248 rfl ?_
              refine tw_iload_n 3 dX10_ofHouseNow_91 rfl rfl ?_
              refine tw_icmp_ne 99 dX10_ofHouseNow_92 (by decide) (fun c268 => ?_) (fun c268 => ?_)
              · refine tw_iconst (v := 0) dX10_ofHouseNow_99 (by decide) ?_
                refine tw_iadd dX10_ofHouseNow_100 ?_
                refine tw_nmi (fun v269 ev269 => ?_)
                refine tw_istore [(5, .int v269), (4, .int v265), (7, .ref y239), (0, .ref x), (1, .int (nI a)), (2, .int w9), (3, .ref r35), (6, .ref it52)] dX10_ofHouseNow_101 (by decide) rfl ?_
                refine tw_goto 27 dX10_ofHouseNow_103 (by decide) ?_
                refine tw_lv [3, 4, 5, 6, 1, 0, 7] rfl ?_
                exact ih65 ((j63 + 1)) (nI j63) v265 v269 _ sp245 f246 zt70  (by omega) (by omega)
              · refine tw_iconst (v := 1) dX10_ofHouseNow_95 (by decide) ?_
                refine tw_goto 100 dX10_ofHouseNow_96 (by decide) ?_
                refine tw_iadd dX10_ofHouseNow_100 ?_
                refine tw_nmi (fun v270 ev270 => ?_)
                refine tw_istore [(5, .int v270), (4, .int v265), (7, .ref y239), (0, .ref x), (1, .int (nI a)), (2, .int w9), (3, .ref r35), (6, .ref it52)] dX10_ofHouseNow_101 (by decide) rfl ?_
                refine tw_goto 27 dX10_ofHouseNow_103 (by decide) ?_
                refine tw_lv [3, 4, 5, 6, 1, 0, 7] rfl ?_
                exact ih65 ((j63 + 1)) (nI j63) v265 v270 _ sp245 f246 zt70  (by omega) (by omega)
          · refine tw_iconst (v := 1) dX10_ofHouseNow_68 (by decide) ?_
            refine tw_goto 73 dX10_ofHouseNow_69 (by decide) ?_
            refine tw_iadd dX10_ofHouseNow_73 ?_
            refine tw_nmi (fun v271 ev271 => ?_)
            refine tw_istore [(4, .int v271), (7, .ref y239), (0, .ref x), (1, .int (nI a)), (2, .int w9), (3, .ref r35), (5, .int x61), (6, .ref it52)] dX10_ofHouseNow_74 (by decide) rfl ?_
            refine tw_iload 6 dX10_ofHouseNow_76 rfl ?_
            refine tw_aload 1 dX10_ofHouseNow_78 rfl ?_
            refine tw_get (v := .int pd_251) rfl in_12 4 dX10_ofHouseNow_80 w_1447 rfl (by decide) f248 rfl ?_
            refine tw_if_ne 99 dX10_ofHouseNow_83 (by decide) (fun c272 => ?_) (fun c272 => ?_)
            · refine tw_iconst (v := 0) dX10_ofHouseNow_99 (by decide) ?_
              refine tw_iadd dX10_ofHouseNow_100 ?_
              refine tw_nmi (fun v273 ev273 => ?_)
              refine tw_istore [(5, .int v273), (4, .int v271), (7, .ref y239), (0, .ref x), (1, .int (nI a)), (2, .int w9), (3, .ref r35), (6, .ref it52)] dX10_ofHouseNow_101 (by decide) rfl ?_
              refine tw_goto 27 dX10_ofHouseNow_103 (by decide) ?_
              refine tw_lv [3, 4, 5, 6, 1, 0, 7] rfl ?_
              exact ih65 ((j63 + 1)) (nI j63) v271 v273 _ sp245 f246 zt70  (by omega) (by omega)
            · refine tw_aload 1 dX10_ofHouseNow_86 rfl ?_
              refine tw_get (v := .int (nI j_253)) rfl in_12 1 dX10_ofHouseNow_88 w_1444 rfl (by decide) f248 rfl ?_
              refine tw_iload_n 3 dX10_ofHouseNow_91 rfl rfl ?_
              refine tw_icmp_ne 99 dX10_ofHouseNow_92 (by decide) (fun c274 => ?_) (fun c274 => ?_)
              · refine tw_iconst (v := 0) dX10_ofHouseNow_99 (by decide) ?_
                refine tw_iadd dX10_ofHouseNow_100 ?_
                refine tw_nmi (fun v275 ev275 => ?_)
                refine tw_istore [(5, .int v275), (4, .int v271), (7, .ref y239), (0, .ref x), (1, .int (nI a)), (2, .int w9), (3, .ref r35), (6, .ref it52)] dX10_ofHouseNow_101 (by decide) rfl ?_
                refine tw_goto 27 dX10_ofHouseNow_103 (by decide) ?_
                refine tw_lv [3, 4, 5, 6, 1, 0, 7] rfl ?_
                exact ih65 ((j63 + 1)) (nI j63) v271 v275 _ sp245 f246 zt70  (by omega) (by omega)
              · refine tw_iconst (v := 1) dX10_ofHouseNow_95 (by decide) ?_
                refine tw_goto 100 dX10_ofHouseNow_96 (by decide) ?_
                refine tw_iadd dX10_ofHouseNow_100 ?_
                refine tw_nmi (fun v276 ev276 => ?_)
                refine tw_istore [(5, .int v276), (4, .int v271), (7, .ref y239), (0, .ref x), (1, .int (nI a)), (2, .int w9), (3, .ref r35), (6, .ref it52)] dX10_ofHouseNow_101 (by decide) rfl ?_
                refine tw_goto 27 dX10_ofHouseNow_103 (by decide) ?_
                refine tw_lv [3, 4, 5, 6, 1, 0, 7] rfl ?_
                exact ih65 ((j63 + 1)) (nI j63) v271 v276 _ sp245 f246 zt70  (by omega) (by omega)
  refine tw_lv [4, 5, 6, 3, 2, 1, 0] rfl ?_
  exact L66 (g.2 5 + 1) 0 (-1) 0 0 _ (tw_sp.rm sp58.1 it52) f59 z56 (by omega) (Nat.zero_le _)

set_option maxHeartbeats 4000000 in
set_option maxRecDepth 100000 in
theorem c_X10_ofHouse (d : tw_D) (g : tw_G) (τ : tw_K) (h : tw_H) (hw : tw_wt d g τ h) (x : Nat) (kx : τ x = 36) (a : Int32) (w9 : Int32) : tw_Ct d mX10_ofHouse 2 12 [.ref x, .int a, .int w9] h (tw_qi (fun r h1 => tw_sp d τ h g τ h1) tw_nx) := by
  refine tw_of (by decide +kernel) (Nat.le_of_ble_eq_true rfl) ?_
  show tw_W d mX10_ofHouse _ 0 [(0, .ref x), (1, .int a), (2, .int w9)] [] h 2 12
  have sp0 := tw_sp.rf hw
  refine tw_aload_n 0 dX10_ofHouse_0 rfl rfl ?_
  refine tw_aload_n 0 dX10_ofHouse_1 rfl rfl ?_
  refine tw_iload_n 1 dX10_ofHouse_2 rfl rfl ?_
  obtain ⟨e1, f2, th_3, td_4, ds_5, fr_6, ca_7, us_8, wo_9, cm_10, lc_11, lh_12, ld_13, rfl, k14, k15, k16, k17, k18, k19, k20, k21, k22, k23, k24, k25, k26, k27⟩ := sp0.1 x 36 kx (by decide)
  refine tw_bi (tw_callV (M := mX10_ofHouse) (pc := 3) okX10_isNoHouse dX10_ofHouse_3 w_1362 rfl f2 [.int a] [.ref x] rfl rfl ⟨by decide, by decide⟩ (Nat.le_of_ble_eq_true rfl) (c_X10_isNoHouse d g τ h sp0.1 x kx a) 2 12 (Nat.le_of_ble_eq_true rfl) (Nat.le_of_ble_eq_true rfl)) (fun r30 h29 q28 => ?_) (fun E h1 q => q.elim)
  obtain ⟨q28e, q28d⟩ := q28
  rw [q28e]
  rcases q28d with q28r | ⟨q28r, j31, q28j, q28k⟩
  · rw [q28r]
    refine tw_iconst (v := 1) dX10_ofHouse_6 (by decide) ?_
    refine tw_bi (tw_callV (M := mX10_ofHouse) (pc := 7) okX10_start dX10_ofHouse_7 w_1200 rfl f2 [.int 1, .int 1] [] rfl rfl ⟨by decide, by decide⟩ (Nat.le_of_ble_eq_true rfl) (c_X10_start d g τ h sp0.1 x kx 1 1 (by decide)) 2 12 (Nat.le_of_ble_eq_true rfl) (Nat.le_of_ble_eq_true rfl)) (fun r34 h33 q32 => ?_) (fun E h1 q => q.elim)
    obtain ⟨e35, he36, hs37, hr38, h339⟩ := q32
    have sp40 : tw_sp d τ h g τ h33 := by rw [he36]; exact sp0.set kx (by decide) hs37
    rcases hr38 with ei41 | ⟨ei41, ei41b⟩
    · rw [ei41]
      refine tw_if_ne 36 dX10_ofHouse_10 (by decide) (fun _ => ?_) (fun c42 => absurd c42 (by decide))
      refine tw_iconst (v := 0) dX10_ofHouse_36 (by decide) ?_
      refine tw_goto 46 dX10_ofHouse_37 (by decide) ?_
      exact tw_iret dX10_ofHouse_46 rfl (Or.inl ⟨_, rfl, sp40⟩)
    · exact absurd ei41b (by decide)
  · rw [q28r]
    subst q28k
    refine tw_iconst (v := 1) dX10_ofHouse_6 (by decide) ?_
    refine tw_bi (tw_callV (M := mX10_ofHouse) (pc := 7) okX10_start dX10_ofHouse_7 w_1200 rfl f2 [.int 0, .int 1] [] rfl rfl ⟨by decide, by decide⟩ (Nat.le_of_ble_eq_true rfl) (c_X10_start d g τ h sp0.1 x kx 0 1 (by decide)) 2 12 (Nat.le_of_ble_eq_true rfl) (Nat.le_of_ble_eq_true rfl)) (fun r45 h44 q43 => ?_) (fun E h1 q => q.elim)
    obtain ⟨e46, he47, hs48, hr49, h350⟩ := q43
    have sp51 : tw_sp d τ h g τ h44 := by rw [he47]; exact sp0.set kx (by decide) hs48
    rcases hr49 with ei52 | ⟨ei52, ei52b⟩
    · rw [ei52]
      refine tw_if_ne 36 dX10_ofHouse_10 (by decide) (fun _ => ?_) (fun c53 => absurd c53 (by decide))
      refine tw_iconst (v := 0) dX10_ofHouse_36 (by decide) ?_
      refine tw_goto 46 dX10_ofHouse_37 (by decide) ?_
      exact tw_iret dX10_ofHouse_46 rfl (Or.inl ⟨_, rfl, sp51⟩)
    · rw [ei52]
      refine tw_if_ne 36 dX10_ofHouse_10 (by decide) (fun c54 => absurd (by decide) c54) (fun _ => ?_)
      refine tw_aload_n 0 dX10_ofHouse_13 rfl rfl ?_
      refine tw_iload_n 2 dX10_ofHouse_14 rfl rfl ?_
      refine tw_iconst (v := 0) dX10_ofHouse_15 (by decide) ?_
      refine tw_bipush (v := 7) dX10_ofHouse_16 (by decide) ?_
      refine tw_bi (tw_callS (M := mX10_ofHouse) (pc := 18) okX10_isIn dX10_ofHouse_18 w_1196 [.int w9, .int 0, .int 7] [.ref x] rfl rfl ⟨by decide, by decide⟩ (Nat.le_of_ble_eq_true rfl) (c_X10_isIn d g τ h44 sp51.1 w9 0 7) 2 12 (Nat.le_of_ble_eq_true rfl) (Nat.le_of_ble_eq_true rfl)) (fun r57 h56 q55 => ?_) (fun E h1 q => q.elim)
      obtain ⟨q55e, q55d⟩ := q55
      rw [q55e]
      rcases q55d with ⟨q55r, q55n⟩ | ⟨q55r, q55a, q55b⟩
      · rw [q55r]
        refine tw_if_ne 28 dX10_ofHouse_21 (by decide) (fun c58 => absurd (by decide) c58) (fun _ => ?_)
        refine tw_iconst (v := 1) dX10_ofHouse_24 (by decide) ?_
        refine tw_goto 29 dX10_ofHouse_25 (by decide) ?_
        refine tw_iconst (v := 2) dX10_ofHouse_29 (by decide) ?_
        obtain ⟨e59, f60, th_61, td_62, ds_63, fr_64, ca_65, us_66, wo_67, cm_68, lc_69, lh_70, ld_71, rfl, k72, k73, k74, k75, k76, k77, k78, k79, k80, k81, k82, k83, k84, k85⟩ := sp51.1 x 36 kx (by decide)
        refine tw_bi (tw_callV (M := mX10_ofHouse) (pc := 30) okX10_refuse dX10_ofHouse_30 w_1204 rfl f60 [.int 1, .int 2] [] rfl rfl ⟨by decide, by decide⟩ (Nat.le_of_ble_eq_true rfl) (c_X10_refuse d g τ h44 sp51.1 x kx 1 2 (by decide)) 2 12 (Nat.le_of_ble_eq_true rfl) (Nat.le_of_ble_eq_true rfl)) (fun r88 h87 q86 => ?_) (fun E h1 q => q.elim)
        obtain ⟨e89, he90, hs91, hr92, h393⟩ := q86
        have sp94 : tw_sp d τ h g τ h87 := by rw [he90]; exact sp51.set kx (by decide) hs91
        rcases hr92 with ei95 | ⟨ei95, ei95b⟩
        · rw [ei95]
          refine tw_if_eq 40 dX10_ofHouse_33 (by decide) (fun c96 => absurd c96 (by decide)) (fun _ => ?_)
          refine tw_iconst (v := 0) dX10_ofHouse_36 (by decide) ?_
          refine tw_goto 46 dX10_ofHouse_37 (by decide) ?_
          exact tw_iret dX10_ofHouse_46 rfl (Or.inl ⟨_, rfl, sp94⟩)
        · exact absurd ei95b (by decide)
      · rw [q55r]
        refine tw_if_ne 28 dX10_ofHouse_21 (by decide) (fun _ => ?_) (fun c97 => absurd c97 (by decide))
        refine tw_iconst (v := 0) dX10_ofHouse_28 (by decide) ?_
        refine tw_iconst (v := 2) dX10_ofHouse_29 (by decide) ?_
        obtain ⟨e98, f99, th_100, td_101, ds_102, fr_103, ca_104, us_105, wo_106, cm_107, lc_108, lh_109, ld_110, rfl, k111, k112, k113, k114, k115, k116, k117, k118, k119, k120, k121, k122, k123, k124⟩ := sp51.1 x 36 kx (by decide)
        refine tw_bi (tw_callV (M := mX10_ofHouse) (pc := 30) okX10_refuse dX10_ofHouse_30 w_1204 rfl f99 [.int 0, .int 2] [] rfl rfl ⟨by decide, by decide⟩ (Nat.le_of_ble_eq_true rfl) (c_X10_refuse d g τ h44 sp51.1 x kx 0 2 (by decide)) 2 12 (Nat.le_of_ble_eq_true rfl) (Nat.le_of_ble_eq_true rfl)) (fun r127 h126 q125 => ?_) (fun E h1 q => q.elim)
        obtain ⟨e128, he129, hs130, hr131, h3132⟩ := q125
        have sp133 : tw_sp d τ h g τ h126 := by rw [he129]; exact sp51.set kx (by decide) hs130
        rcases hr131 with ei134 | ⟨ei134, ei134b⟩
        · rw [ei134]
          refine tw_if_eq 40 dX10_ofHouse_33 (by decide) (fun c135 => absurd c135 (by decide)) (fun _ => ?_)
          refine tw_iconst (v := 0) dX10_ofHouse_36 (by decide) ?_
          refine tw_goto 46 dX10_ofHouse_37 (by decide) ?_
          exact tw_iret dX10_ofHouse_46 rfl (Or.inl ⟨_, rfl, sp133⟩)
        · rw [ei134]
          refine tw_if_eq 40 dX10_ofHouse_33 (by decide) (fun _ => ?_) (fun c136 => absurd (by decide) c136)
          refine tw_aload_n 0 dX10_ofHouse_40 rfl rfl ?_
          refine tw_iload_n 1 dX10_ofHouse_41 rfl rfl ?_
          refine tw_iload_n 2 dX10_ofHouse_42 rfl rfl ?_
          obtain ⟨e137, f138, th_139, td_140, ds_141, fr_142, ca_143, us_144, wo_145, cm_146, lc_147, lh_148, ld_149, rfl, k150, k151, k152, k153, k154, k155, k156, k157, k158, k159, k160, k161, k162, k163⟩ := sp133.1 x 36 kx (by decide)
          refine tw_bi (tw_callV (M := mX10_ofHouse) (pc := 43) okX10_ofHouseNow dX10_ofHouse_43 w_1517 rfl f138 [.int (nI j31), .int w9] [] rfl rfl ⟨by decide, by decide⟩ (Nat.le_of_ble_eq_true rfl) (c_X10_ofHouseNow d g τ h126 sp133.1 x kx w9 j31 (by omega) (tw_irng (N := 8) q55a q55b (by decide) (by decide))) 0 0 (Nat.le_of_ble_eq_true rfl) (Nat.le_of_ble_eq_true rfl)) (fun r166 h165 q164 => ?_) (fun E h1 q => q.elim)
          have sp167 := sp133.tr q164
          exact tw_iret dX10_ofHouse_46 rfl (Or.inl ⟨_, rfl, sp167⟩)

set_option maxHeartbeats 4000000 in
set_option maxRecDepth 100000 in
theorem c_X10_ofDebtNow (d : tw_D) (g : tw_G) (τ : tw_K) (h : tw_H) (hw : tw_wt d g τ h) (x : Nat) (kx : τ x = 36) (y : Nat) (ky : τ y = 22) (w9 : Int32) (hw9 : vp_in w9 7) : tw_Ct d mX10_ofDebtNow 1 7 [.ref x, .ref y, .int w9] h (tw_qi (fun r h1 => tw_sp d τ h g τ h1) tw_nx) := by
  refine tw_of (by decide +kernel) (Nat.le_of_ble_eq_true rfl) ?_
  show tw_W d mX10_ofDebtNow _ 0 [(0, .ref x), (1, .ref y), (2, .int w9)] [] h 1 7
  have sp0 := tw_sp.rf hw
  refine tw_bipush (v := 7) dX10_ofDebtNow_0 (by decide) ?_
  refine tw_newa (a0 := (7, .inl (fun _ => 0))) 0 rfl dX10_ofDebtNow_2 rfl w_500 (fun _ => rfl) (by decide) (by decide) (by decide) 0 0 (Nat.le_of_ble_eq_true rfl) (Nat.le_of_ble_eq_true rfl) (fun q1 hq2 hA3 => ?_)
  have n4 := sp0.nn hq2
  have z5 := sp0.1.none hq2
  obtain ⟨h6, eh6⟩ : ∃ z : tw_H, z = tw_up h q1 (.inl (d.2 0, 7, .inl (fun _ => 0))) := ⟨_, rfl⟩
  rw [← eh6]
  have sp7 : tw_sp d τ h g τ h6 := by rw [eh6]; exact sp0.mk hq2
  have f8 : h6 q1 = some (.inl (d.2 0, 7, .inl (fun _ => 0))) := by rw [eh6]; exact tw_up_s
  refine tw_dup dX10_ofDebtNow_4 rfl ?_
  refine tw_iconst (v := 0) dX10_ofDebtNow_5 (by decide) ?_
  refine tw_aload_n 1 dX10_ofDebtNow_6 rfl rfl ?_
  obtain ⟨e9, f10, v_11, dy_12, pd_13, i_14, j_15, rfl, k16, k17, k18⟩ := sp7.1 y 22 ky (by decide)
  refine tw_get (v := .int (nI i_14)) rfl in_12 0 dX10_ofDebtNow_7 w_1443 rfl (by decide) f10 rfl ?_
  refine tw_iast dX10_ofDebtNow_10 f8 (vp_in_nI (n := 0) (by decide) (by decide)) ?_
  obtain ⟨F19, eF19⟩ : ∃ z : Nat → Int32, z = upd (fun _ => 0) (0 : Int32).toNatClampNeg (nI i_14) := ⟨_, rfl⟩
  rw [← eF19]
  obtain ⟨h20, eh20⟩ : ∃ z : tw_H, z = tw_up h6 q1 (.inl (d.2 0, 7, .inl F19)) := ⟨_, rfl⟩
  rw [← eh20]
  have sp21 : tw_sp d τ h g τ h20 := by rw [eh20]; exact sp7.wl n4 z5
  have f22 : h20 q1 = some (.inl (d.2 0, 7, .inl F19)) := by rw [eh20]; exact tw_up_s
  refine tw_dup dX10_ofDebtNow_11 rfl ?_
  refine tw_iconst (v := 1) dX10_ofDebtNow_12 (by decide) ?_
  refine tw_aload_n 1 dX10_ofDebtNow_13 rfl rfl ?_
  obtain ⟨e23, f24, v_25, dy_26, pd_27, i_28, j_29, rfl, k30, k31, k32⟩ := sp21.1 y 22 ky (by decide)
  refine tw_get (v := .int (nI j_29)) rfl in_12 1 dX10_ofDebtNow_14 w_1444 rfl (by decide) f24 rfl ?_
  refine tw_iast dX10_ofDebtNow_17 f22 (vp_in_nI (n := 1) (by decide) (by decide)) ?_
  obtain ⟨F33, eF33⟩ : ∃ z : Nat → Int32, z = upd F19 (1 : Int32).toNatClampNeg (nI j_29) := ⟨_, rfl⟩
  rw [← eF33]
  obtain ⟨h34, eh34⟩ : ∃ z : tw_H, z = tw_up h20 q1 (.inl (d.2 0, 7, .inl F33)) := ⟨_, rfl⟩
  rw [← eh34]
  have sp35 : tw_sp d τ h g τ h34 := by rw [eh34]; exact sp21.wl n4 z5
  have f36 : h34 q1 = some (.inl (d.2 0, 7, .inl F33)) := by rw [eh34]; exact tw_up_s
  refine tw_dup dX10_ofDebtNow_18 rfl ?_
  refine tw_iconst (v := 2) dX10_ofDebtNow_19 (by decide) ?_
  refine tw_aload_n 1 dX10_ofDebtNow_20 rfl rfl ?_
  obtain ⟨e37, f38, v_39, dy_40, pd_41, i_42, j_43, rfl, k44, k45, k46⟩ := sp35.1 y 22 ky (by decide)
  refine tw_get (v := .int v_39) rfl in_12 2 dX10_ofDebtNow_21 w_1445 rfl (by decide) f38 rfl ?_
  refine tw_iast dX10_ofDebtNow_24 f36 (vp_in_nI (n := 2) (by decide) (by decide)) ?_
  obtain ⟨F47, eF47⟩ : ∃ z : Nat → Int32, z = upd F33 (2 : Int32).toNatClampNeg v_39 := ⟨_, rfl⟩
  rw [← eF47]
  obtain ⟨h48, eh48⟩ : ∃ z : tw_H, z = tw_up h34 q1 (.inl (d.2 0, 7, .inl F47)) := ⟨_, rfl⟩
  rw [← eh48]
  have sp49 : tw_sp d τ h g τ h48 := by rw [eh48]; exact sp35.wl n4 z5
  have f50 : h48 q1 = some (.inl (d.2 0, 7, .inl F47)) := by rw [eh48]; exact tw_up_s
  refine tw_dup dX10_ofDebtNow_25 rfl ?_
  refine tw_iconst (v := 3) dX10_ofDebtNow_26 (by decide) ?_
  refine tw_aload_n 1 dX10_ofDebtNow_27 rfl rfl ?_
  obtain ⟨e51, f52, v_53, dy_54, pd_55, i_56, j_57, rfl, k58, k59, k60⟩ := sp49.1 y 22 ky (by decide)
  refine tw_get (v := .int dy_54) rfl in_12 3 dX10_ofDebtNow_28 w_1446 rfl (by decide) f52 rfl ?_
  refine tw_iast dX10_ofDebtNow_31 f50 (vp_in_nI (n := 3) (by decide) (by decide)) ?_
  obtain ⟨F61, eF61⟩ : ∃ z : Nat → Int32, z = upd F47 (3 : Int32).toNatClampNeg dy_54 := ⟨_, rfl⟩
  rw [← eF61]
  obtain ⟨h62, eh62⟩ : ∃ z : tw_H, z = tw_up h48 q1 (.inl (d.2 0, 7, .inl F61)) := ⟨_, rfl⟩
  rw [← eh62]
  have sp63 : tw_sp d τ h g τ h62 := by rw [eh62]; exact sp49.wl n4 z5
  have f64 : h62 q1 = some (.inl (d.2 0, 7, .inl F61)) := by rw [eh62]; exact tw_up_s
  refine tw_dup dX10_ofDebtNow_32 rfl ?_
  refine tw_iconst (v := 4) dX10_ofDebtNow_33 (by decide) ?_
  refine tw_aload_n 0 dX10_ofDebtNow_34 rfl rfl ?_
  refine tw_aload_n 1 dX10_ofDebtNow_35 rfl rfl ?_
  obtain ⟨e65, f66, th_67, td_68, ds_69, fr_70, ca_71, us_72, wo_73, cm_74, lc_75, lh_76, ld_77, rfl, k78, k79, k80, k81, k82, k83, k84, k85, k86, k87, k88, k89, k90, k91⟩ := sp63.1 x 36 kx (by decide)
  refine tw_bi (tw_callV (M := mX10_ofDebtNow) (pc := 36) okX10_due dX10_ofDebtNow_36 w_1471 rfl f66 [.ref y] [.int 4, .ref q1, .ref q1] rfl rfl ⟨by decide, by decide⟩ (Nat.le_of_ble_eq_true rfl) (c_X10_due d g τ h62 sp63.1 x kx y ky) 0 0 (Nat.le_of_ble_eq_true rfl) (Nat.le_of_ble_eq_true rfl)) (fun r94 h93 q92 => ?_) (fun E h1 q => q.elim)
  rw [q92]
  refine tw_iast dX10_ofDebtNow_39 f64 (vp_in_nI (n := 4) (by decide) (by decide)) ?_
  obtain ⟨F95, eF95⟩ : ∃ z : Nat → Int32, z = upd F61 (4 : Int32).toNatClampNeg r94 := ⟨_, rfl⟩
  rw [← eF95]
  obtain ⟨h96, eh96⟩ : ∃ z : tw_H, z = tw_up h62 q1 (.inl (d.2 0, 7, .inl F95)) := ⟨_, rfl⟩
  rw [← eh96]
  have sp97 : tw_sp d τ h g τ h96 := by rw [eh96]; exact sp63.wl n4 z5
  have f98 : h96 q1 = some (.inl (d.2 0, 7, .inl F95)) := by rw [eh96]; exact tw_up_s
  refine tw_dup dX10_ofDebtNow_40 rfl ?_
  refine tw_iconst (v := 5) dX10_ofDebtNow_41 (by decide) ?_
  refine tw_aload_n 1 dX10_ofDebtNow_42 rfl rfl ?_
  obtain ⟨e99, f100, v_101, dy_102, pd_103, i_104, j_105, rfl, k106, k107, k108⟩ := sp97.1 y 22 ky (by decide)
  refine tw_get (v := .int pd_103) rfl in_12 4 dX10_ofDebtNow_43 w_1447 rfl (by decide) f100 rfl ?_
  refine tw_if_eq 53 dX10_ofDebtNow_46 (by decide) (fun c109 => ?_) (fun c109 => ?_)
  · refine tw_iconst (v := 0) dX10_ofDebtNow_53 (by decide) ?_
    refine tw_iast dX10_ofDebtNow_54 f98 (vp_in_nI (n := 5) (by decide) (by decide)) ?_
    obtain ⟨F110, eF110⟩ : ∃ z : Nat → Int32, z = upd F95 (5 : Int32).toNatClampNeg 0 := ⟨_, rfl⟩
    rw [← eF110]
    obtain ⟨h111, eh111⟩ : ∃ z : tw_H, z = tw_up h96 q1 (.inl (d.2 0, 7, .inl F110)) := ⟨_, rfl⟩
    rw [← eh111]
    have sp112 : tw_sp d τ h g τ h111 := by rw [eh111]; exact sp97.wl n4 z5
    have f113 : h111 q1 = some (.inl (d.2 0, 7, .inl F110)) := by rw [eh111]; exact tw_up_s
    refine tw_dup dX10_ofDebtNow_55 rfl ?_
    refine tw_bipush (v := 6) dX10_ofDebtNow_56 (by decide) ?_
    refine tw_aload_n 0 dX10_ofDebtNow_58 rfl rfl ?_
    refine tw_aload_n 1 dX10_ofDebtNow_59 rfl rfl ?_
    obtain ⟨e114, f115, th_116, td_117, ds_118, fr_119, ca_120, us_121, wo_122, cm_123, lc_124, lh_125, ld_126, rfl, k127, k128, k129, k130, k131, k132, k133, k134, k135, k136, k137, k138, k139, k140⟩ := sp112.1 x 36 kx (by decide)
    refine tw_bi (tw_callV (M := mX10_ofDebtNow) (pc := 60) okX10_cheaper dX10_ofDebtNow_60 w_1529 rfl f115 [.ref y] [.int 6, .ref q1, .ref q1] rfl rfl ⟨by decide, by decide⟩ (Nat.le_of_ble_eq_true rfl) (c_X10_cheaper d g τ h111 sp112.1 x kx y ky) 0 0 (Nat.le_of_ble_eq_true rfl) (Nat.le_of_ble_eq_true rfl)) (fun r143 h142 q141 => ?_) (fun E h1 q => q.elim)
    rw [q141]
    refine tw_iast dX10_ofDebtNow_63 f113 (vp_in_nI (n := 6) (by decide) (by decide)) ?_
    obtain ⟨F144, eF144⟩ : ∃ z : Nat → Int32, z = upd F110 (6 : Int32).toNatClampNeg r143 := ⟨_, rfl⟩
    rw [← eF144]
    obtain ⟨h145, eh145⟩ : ∃ z : tw_H, z = tw_up h111 q1 (.inl (d.2 0, 7, .inl F144)) := ⟨_, rfl⟩
    rw [← eh145]
    have sp146 : tw_sp d τ h g τ h145 := by rw [eh145]; exact sp112.wl n4 z5
    have f147 : h145 q1 = some (.inl (d.2 0, 7, .inl F144)) := by rw [eh145]; exact tw_up_s
    refine tw_astore_n [(3, .ref q1), (0, .ref x), (1, .ref y), (2, .int w9)] dX10_ofDebtNow_64 rfl (by decide) rfl ?_
    refine tw_aload_n 0 dX10_ofDebtNow_65 rfl rfl ?_
    refine tw_iload_n 3 dX10_ofDebtNow_66 rfl rfl ?_
    obtain ⟨v148, ev148⟩ : ∃ y : Int32, F144 (w9).toNatClampNeg = y := ⟨_, rfl⟩
    refine tw_iald (v := v148) dX10_ofDebtNow_67 f147 hw9 ev148 ?_
    exact tw_iret dX10_ofDebtNow_68 rfl (Or.inl ⟨_, rfl, sp146⟩)
  · refine tw_iconst (v := 1) dX10_ofDebtNow_49 (by decide) ?_
    refine tw_goto 54 dX10_ofDebtNow_50 (by decide) ?_
    refine tw_iast dX10_ofDebtNow_54 f98 (vp_in_nI (n := 5) (by decide) (by decide)) ?_
    obtain ⟨F149, eF149⟩ : ∃ z : Nat → Int32, z = upd F95 (5 : Int32).toNatClampNeg 1 := ⟨_, rfl⟩
    rw [← eF149]
    obtain ⟨h150, eh150⟩ : ∃ z : tw_H, z = tw_up h96 q1 (.inl (d.2 0, 7, .inl F149)) := ⟨_, rfl⟩
    rw [← eh150]
    have sp151 : tw_sp d τ h g τ h150 := by rw [eh150]; exact sp97.wl n4 z5
    have f152 : h150 q1 = some (.inl (d.2 0, 7, .inl F149)) := by rw [eh150]; exact tw_up_s
    refine tw_dup dX10_ofDebtNow_55 rfl ?_
    refine tw_bipush (v := 6) dX10_ofDebtNow_56 (by decide) ?_
    refine tw_aload_n 0 dX10_ofDebtNow_58 rfl rfl ?_
    refine tw_aload_n 1 dX10_ofDebtNow_59 rfl rfl ?_
    obtain ⟨e153, f154, th_155, td_156, ds_157, fr_158, ca_159, us_160, wo_161, cm_162, lc_163, lh_164, ld_165, rfl, k166, k167, k168, k169, k170, k171, k172, k173, k174, k175, k176, k177, k178, k179⟩ := sp151.1 x 36 kx (by decide)
    refine tw_bi (tw_callV (M := mX10_ofDebtNow) (pc := 60) okX10_cheaper dX10_ofDebtNow_60 w_1529 rfl f154 [.ref y] [.int 6, .ref q1, .ref q1] rfl rfl ⟨by decide, by decide⟩ (Nat.le_of_ble_eq_true rfl) (c_X10_cheaper d g τ h150 sp151.1 x kx y ky) 0 0 (Nat.le_of_ble_eq_true rfl) (Nat.le_of_ble_eq_true rfl)) (fun r182 h181 q180 => ?_) (fun E h1 q => q.elim)
    rw [q180]
    refine tw_iast dX10_ofDebtNow_63 f152 (vp_in_nI (n := 6) (by decide) (by decide)) ?_
    obtain ⟨F183, eF183⟩ : ∃ z : Nat → Int32, z = upd F149 (6 : Int32).toNatClampNeg r182 := ⟨_, rfl⟩
    rw [← eF183]
    obtain ⟨h184, eh184⟩ : ∃ z : tw_H, z = tw_up h150 q1 (.inl (d.2 0, 7, .inl F183)) := ⟨_, rfl⟩
    rw [← eh184]
    have sp185 : tw_sp d τ h g τ h184 := by rw [eh184]; exact sp151.wl n4 z5
    have f186 : h184 q1 = some (.inl (d.2 0, 7, .inl F183)) := by rw [eh184]; exact tw_up_s
    refine tw_astore_n [(3, .ref q1), (0, .ref x), (1, .ref y), (2, .int w9)] dX10_ofDebtNow_64 rfl (by decide) rfl ?_
    refine tw_aload_n 0 dX10_ofDebtNow_65 rfl rfl ?_
    refine tw_iload_n 3 dX10_ofDebtNow_66 rfl rfl ?_
    obtain ⟨v187, ev187⟩ : ∃ y : Int32, F183 (w9).toNatClampNeg = y := ⟨_, rfl⟩
    refine tw_iald (v := v187) dX10_ofDebtNow_67 f186 hw9 ev187 ?_
    exact tw_iret dX10_ofDebtNow_68 rfl (Or.inl ⟨_, rfl, sp185⟩)

set_option maxHeartbeats 4000000 in
set_option maxRecDepth 100000 in
theorem c_X10_ofDebt (d : tw_D) (g : tw_G) (τ : tw_K) (h : tw_H) (hw : tw_wt d g τ h) (x : Nat) (kx : τ x = 36) (n : Int32) (w9 : Int32) : tw_Ct d mX10_ofDebt 1 7 [.ref x, .int n, .int w9] h (tw_qi (fun r h1 => tw_sp d τ h g τ h1) tw_nx) := by
  refine tw_of (by decide +kernel) (Nat.le_of_ble_eq_true rfl) ?_
  show tw_W d mX10_ofDebt _ 0 [(0, .ref x), (1, .int n), (2, .int w9)] [] h 1 7
  have sp0 := tw_sp.rf hw
  refine tw_aload_n 0 dX10_ofDebt_0 rfl rfl ?_
  refine tw_iload_n 1 dX10_ofDebt_1 rfl rfl ?_
  refine tw_iconst (v := 0) dX10_ofDebt_2 (by decide) ?_
  refine tw_aload_n 0 dX10_ofDebt_3 rfl rfl ?_
  obtain ⟨e1, f2, th_3, td_4, ds_5, fr_6, ca_7, us_8, wo_9, cm_10, lc_11, lh_12, ld_13, rfl, k14, k15, k16, k17, k18, k19, k20, k21, k22, k23, k24, k25, k26, k27⟩ := sp0.1 x 36 kx (by decide)
  refine tw_get (v := .ref ld_13) rfl in_14 11 dX10_ofDebt_4 w_1162 rfl (by decide) f2 rfl ?_
  obtain ⟨e28, f29, ⟨el30, rfl, k31⟩, k32⟩ := sp0.1 ld_13 26 k22 (by decide)
  refine tw_bi (tw_callV (M := mX10_ofDebt) (pc := 7) okJx4a65c_size_8abf5 dX10_ofDebt_7 w_1208 rfl f29 [] [.int 0, .int n, .ref x] rfl rfl ⟨by decide, by decide⟩ (Nat.le_of_ble_eq_true rfl) (c26_size d g τ h sp0.1 ld_13 k22) 1 7 (Nat.le_of_ble_eq_true rfl) (Nat.le_of_ble_eq_true rfl)) (fun r35 h34 q33 => ?_) (fun E h1 q => q.elim)
  obtain ⟨q33e, q33r⟩ := q33
  rw [q33e, q33r]
  refine tw_iconst (v := 1) dX10_ofDebt_10 (by decide) ?_
  refine tw_isub dX10_ofDebt_11 ?_
  refine tw_nmi (fun v36 ev36 => ?_)
  refine tw_bi (tw_callS (M := mX10_ofDebt) (pc := 12) okX10_isIn dX10_ofDebt_12 w_1196 [.int n, .int 0, .int v36] [.ref x] rfl rfl ⟨by decide, by decide⟩ (Nat.le_of_ble_eq_true rfl) (c_X10_isIn d g τ h sp0.1 n 0 v36) 1 7 (Nat.le_of_ble_eq_true rfl) (Nat.le_of_ble_eq_true rfl)) (fun r39 h38 q37 => ?_) (fun E h1 q => q.elim)
  obtain ⟨q37e, q37d⟩ := q37
  rw [q37e]
  rcases q37d with ⟨q37r, q37n⟩ | ⟨q37r, q37a, q37b⟩
  · rw [q37r]
    refine tw_if_ne 22 dX10_ofDebt_15 (by decide) (fun c40 => absurd (by decide) c40) (fun _ => ?_)
    refine tw_iconst (v := 1) dX10_ofDebt_18 (by decide) ?_
    refine tw_goto 23 dX10_ofDebt_19 (by decide) ?_
    refine tw_iconst (v := 1) dX10_ofDebt_23 (by decide) ?_
    refine tw_bi (tw_callV (M := mX10_ofDebt) (pc := 24) okX10_start dX10_ofDebt_24 w_1200 rfl f2 [.int 1, .int 1] [] rfl rfl ⟨by decide, by decide⟩ (Nat.le_of_ble_eq_true rfl) (c_X10_start d g τ h sp0.1 x kx 1 1 (by decide)) 1 7 (Nat.le_of_ble_eq_true rfl) (Nat.le_of_ble_eq_true rfl)) (fun r43 h42 q41 => ?_) (fun E h1 q => q.elim)
    obtain ⟨e44, he45, hs46, hr47, h348⟩ := q41
    have sp49 : tw_sp d τ h g τ h42 := by rw [he45]; exact sp0.set kx (by decide) hs46
    have f50 : h42 ld_13 = some (.inr (3, [.int (g.1 5), .ref el30, .int (nI (g.2 5))])) := by rw [he45, tw_up_n (fun q => absurd (k22) (by rw [q, kx]; decide))]; exact f29
    rcases hr47 with ei51 | ⟨ei51, ei51b⟩
    · rw [ei51]
      refine tw_if_ne 53 dX10_ofDebt_27 (by decide) (fun _ => ?_) (fun c52 => absurd c52 (by decide))
      refine tw_iconst (v := 0) dX10_ofDebt_53 (by decide) ?_
      refine tw_goto 73 dX10_ofDebt_54 (by decide) ?_
      exact tw_iret dX10_ofDebt_73 rfl (Or.inl ⟨_, rfl, sp49⟩)
    · exact absurd ei51b (by decide)
  · rw [q37r]
    refine tw_if_ne 22 dX10_ofDebt_15 (by decide) (fun _ => ?_) (fun c53 => absurd c53 (by decide))
    refine tw_iconst (v := 0) dX10_ofDebt_22 (by decide) ?_
    refine tw_iconst (v := 1) dX10_ofDebt_23 (by decide) ?_
    refine tw_bi (tw_callV (M := mX10_ofDebt) (pc := 24) okX10_start dX10_ofDebt_24 w_1200 rfl f2 [.int 0, .int 1] [] rfl rfl ⟨by decide, by decide⟩ (Nat.le_of_ble_eq_true rfl) (c_X10_start d g τ h sp0.1 x kx 0 1 (by decide)) 1 7 (Nat.le_of_ble_eq_true rfl) (Nat.le_of_ble_eq_true rfl)) (fun r56 h55 q54 => ?_) (fun E h1 q => q.elim)
    obtain ⟨e57, he58, hs59, hr60, h361⟩ := q54
    have sp62 : tw_sp d τ h g τ h55 := by rw [he58]; exact sp0.set kx (by decide) hs59
    have f63 : h55 ld_13 = some (.inr (3, [.int (g.1 5), .ref el30, .int (nI (g.2 5))])) := by rw [he58, tw_up_n (fun q => absurd (k22) (by rw [q, kx]; decide))]; exact f29
    rcases hr60 with ei64 | ⟨ei64, ei64b⟩
    · rw [ei64]
      refine tw_if_ne 53 dX10_ofDebt_27 (by decide) (fun _ => ?_) (fun c65 => absurd c65 (by decide))
      refine tw_iconst (v := 0) dX10_ofDebt_53 (by decide) ?_
      refine tw_goto 73 dX10_ofDebt_54 (by decide) ?_
      exact tw_iret dX10_ofDebt_73 rfl (Or.inl ⟨_, rfl, sp62⟩)
    · rw [ei64]
      refine tw_if_ne 53 dX10_ofDebt_27 (by decide) (fun c66 => absurd (by decide) c66) (fun _ => ?_)
      refine tw_aload_n 0 dX10_ofDebt_30 rfl rfl ?_
      refine tw_iload_n 2 dX10_ofDebt_31 rfl rfl ?_
      refine tw_iconst (v := 0) dX10_ofDebt_32 (by decide) ?_
      refine tw_bipush (v := 6) dX10_ofDebt_33 (by decide) ?_
      refine tw_bi (tw_callS (M := mX10_ofDebt) (pc := 35) okX10_isIn dX10_ofDebt_35 w_1196 [.int w9, .int 0, .int 6] [.ref x] rfl rfl ⟨by decide, by decide⟩ (Nat.le_of_ble_eq_true rfl) (c_X10_isIn d g τ h55 sp62.1 w9 0 6) 1 7 (Nat.le_of_ble_eq_true rfl) (Nat.le_of_ble_eq_true rfl)) (fun r69 h68 q67 => ?_) (fun E h1 q => q.elim)
      obtain ⟨q67e, q67d⟩ := q67
      rw [q67e]
      rcases q67d with ⟨q67r, q67n⟩ | ⟨q67r, q67a, q67b⟩
      · rw [q67r]
        refine tw_if_ne 45 dX10_ofDebt_38 (by decide) (fun c70 => absurd (by decide) c70) (fun _ => ?_)
        refine tw_iconst (v := 1) dX10_ofDebt_41 (by decide) ?_
        refine tw_goto 46 dX10_ofDebt_42 (by decide) ?_
        refine tw_iconst (v := 2) dX10_ofDebt_46 (by decide) ?_
        obtain ⟨e71, f72, th_73, td_74, ds_75, fr_76, ca_77, us_78, wo_79, cm_80, lc_81, lh_82, ld_83, rfl, k84, k85, k86, k87, k88, k89, k90, k91, k92, k93, k94, k95, k96, k97⟩ := sp62.1 x 36 kx (by decide)
        refine tw_bi (tw_callV (M := mX10_ofDebt) (pc := 47) okX10_refuse dX10_ofDebt_47 w_1204 rfl f72 [.int 1, .int 2] [] rfl rfl ⟨by decide, by decide⟩ (Nat.le_of_ble_eq_true rfl) (c_X10_refuse d g τ h55 sp62.1 x kx 1 2 (by decide)) 1 7 (Nat.le_of_ble_eq_true rfl) (Nat.le_of_ble_eq_true rfl)) (fun r100 h99 q98 => ?_) (fun E h1 q => q.elim)
        obtain ⟨e101, he102, hs103, hr104, h3105⟩ := q98
        have sp106 : tw_sp d τ h g τ h99 := by rw [he102]; exact sp62.set kx (by decide) hs103
        have f107 : h99 ld_13 = some (.inr (3, [.int (g.1 5), .ref el30, .int (nI (g.2 5))])) := by rw [he102, tw_up_n (fun q => absurd (k22) (by rw [q, kx]; decide))]; exact f63
        rcases hr104 with ei108 | ⟨ei108, ei108b⟩
        · rw [ei108]
          refine tw_if_eq 57 dX10_ofDebt_50 (by decide) (fun c109 => absurd c109 (by decide)) (fun _ => ?_)
          refine tw_iconst (v := 0) dX10_ofDebt_53 (by decide) ?_
          refine tw_goto 73 dX10_ofDebt_54 (by decide) ?_
          exact tw_iret dX10_ofDebt_73 rfl (Or.inl ⟨_, rfl, sp106⟩)
        · exact absurd ei108b (by decide)
      · rw [q67r]
        refine tw_if_ne 45 dX10_ofDebt_38 (by decide) (fun _ => ?_) (fun c110 => absurd c110 (by decide))
        refine tw_iconst (v := 0) dX10_ofDebt_45 (by decide) ?_
        refine tw_iconst (v := 2) dX10_ofDebt_46 (by decide) ?_
        obtain ⟨e111, f112, th_113, td_114, ds_115, fr_116, ca_117, us_118, wo_119, cm_120, lc_121, lh_122, ld_123, rfl, k124, k125, k126, k127, k128, k129, k130, k131, k132, k133, k134, k135, k136, k137⟩ := sp62.1 x 36 kx (by decide)
        refine tw_bi (tw_callV (M := mX10_ofDebt) (pc := 47) okX10_refuse dX10_ofDebt_47 w_1204 rfl f112 [.int 0, .int 2] [] rfl rfl ⟨by decide, by decide⟩ (Nat.le_of_ble_eq_true rfl) (c_X10_refuse d g τ h55 sp62.1 x kx 0 2 (by decide)) 1 7 (Nat.le_of_ble_eq_true rfl) (Nat.le_of_ble_eq_true rfl)) (fun r140 h139 q138 => ?_) (fun E h1 q => q.elim)
        obtain ⟨e141, he142, hs143, hr144, h3145⟩ := q138
        have sp146 : tw_sp d τ h g τ h139 := by rw [he142]; exact sp62.set kx (by decide) hs143
        have f147 : h139 ld_13 = some (.inr (3, [.int (g.1 5), .ref el30, .int (nI (g.2 5))])) := by rw [he142, tw_up_n (fun q => absurd (k22) (by rw [q, kx]; decide))]; exact f63
        rcases hr144 with ei148 | ⟨ei148, ei148b⟩
        · rw [ei148]
          refine tw_if_eq 57 dX10_ofDebt_50 (by decide) (fun c149 => absurd c149 (by decide)) (fun _ => ?_)
          refine tw_iconst (v := 0) dX10_ofDebt_53 (by decide) ?_
          refine tw_goto 73 dX10_ofDebt_54 (by decide) ?_
          exact tw_iret dX10_ofDebt_73 rfl (Or.inl ⟨_, rfl, sp146⟩)
        · rw [ei148]
          refine tw_if_eq 57 dX10_ofDebt_50 (by decide) (fun _ => ?_) (fun c150 => absurd (by decide) c150)
          refine tw_aload_n 0 dX10_ofDebt_57 rfl rfl ?_
          refine tw_aload_n 0 dX10_ofDebt_58 rfl rfl ?_
          obtain ⟨e151, f152, th_153, td_154, ds_155, fr_156, ca_157, us_158, wo_159, cm_160, lc_161, lh_162, ld_163, rfl, k164, k165, k166, k167, k168, k169, k170, k171, k172, k173, k174, k175, k176, k177⟩ := sp146.1 x 36 kx (by decide)
          refine tw_get (v := .ref ld_163) rfl in_14 11 dX10_ofDebt_59 w_1162 rfl (by decide) f152 rfl ?_
          refine tw_iload_n 1 dX10_ofDebt_62 rfl rfl ?_
          obtain ⟨j178, hj179, ej180⟩ := tw_isc q37a q37b ev36 (by omega)
          subst ej180
          obtain ⟨e181, f182, ⟨el183, rfl, k184⟩, k185⟩ := sp146.1 ld_163 26 k172 (by decide)
          refine tw_br (tw_callV (M := mX10_ofDebt) (pc := 63) okJx4a65c_get_915e3 dX10_ofDebt_63 w_1296 rfl f182 [.int (nI j178)] [.ref x] rfl rfl ⟨by decide, by decide⟩ (Nat.le_of_ble_eq_true rfl) (c26_get d g τ h139 sp146.1 ld_163 k172 j178 (by omega) (by omega)) 1 7 (Nat.le_of_ble_eq_true rfl) (Nat.le_of_ble_eq_true rfl)) (fun r188 h187 q186 => ?_) (fun E h1 q => q.elim)
          obtain ⟨q186e, q186k⟩ := q186
          rw [q186e]
          have el189 : tw_el h139 (g.2 14) j178 = r188 := by rw [← k185]; exact q186k.2.symm
          have kl190 : τ (g.2 14) = 26 := by rw [← k185]; exact k172
          obtain ⟨e191, f192, v_193, dy_194, pd_195, i_196, j_197, rfl, k198, k199, k200⟩ := sp146.1 r188 22 q186k.1 (by decide)
          refine tw_castS (ci := 12) rfl dX10_ofDebt_66 w_1437 f192 ?_
          refine tw_iload_n 2 dX10_ofDebt_69 rfl rfl ?_
          refine tw_bi (tw_callV (M := mX10_ofDebt) (pc := 70) okX10_ofDebtNow dX10_ofDebt_70 w_1525 rfl f152 [.ref r188, .int w9] [] rfl rfl ⟨by decide, by decide⟩ (Nat.le_of_ble_eq_true rfl) (c_X10_ofDebtNow d g τ h139 sp146.1 x kx r188 q186k.1 w9 (tw_irng (N := 7) q67a q67b (by decide) (by decide))) 0 0 (Nat.le_of_ble_eq_true rfl) (Nat.le_of_ble_eq_true rfl)) (fun r203 h202 q201 => ?_) (fun E h1 q => q.elim)
          have sp204 := sp146.tr q201
          exact tw_iret dX10_ofDebt_73 rfl (Or.inl ⟨_, rfl, sp204⟩)

set_option maxHeartbeats 4000000 in
set_option maxRecDepth 100000 in
theorem c_X10_isSoundNow (d : tw_D) (g : tw_G) (τ : tw_K) (h : tw_H) (hw : tw_wt d g τ h) (x : Nat) (kx : τ x = 36) : tw_Ct d mX10_isSoundNow 62 284 [.ref x] h (tw_qi (fun r h1 => tw_sp d τ h g τ h1 ∧ tw_01 r) tw_nx) := by
  refine tw_of (by decide +kernel) (Nat.le_of_ble_eq_true rfl) ?_
  show tw_W d mX10_isSoundNow _ 0 [(0, .ref x)] [] h 62 284
  have sp0 := tw_sp.rf hw
  refine tw_iconst (v := 0) dX10_isSoundNow_0 (by decide) ?_
  refine tw_istore_n [(1, .int 0), (0, .ref x)] dX10_isSoundNow_1 rfl (by decide) rfl ?_
  have L4 : ∀ (r2 k1 : Nat) (h5 : tw_H) (sp6 : tw_sp d τ h g τ h5), 2 + 1 ≤ k1 + r2 → k1 ≤ 2 → tw_W d mX10_isSoundNow (tw_qi (fun r h1 => tw_sp d τ h g τ h1 ∧ tw_01 r) tw_nx) 2 [(0, .ref x), (1, .int (nI k1))] [] h5 (2 + 20 * r2) (8 + 92 * r2) := by
    intro r2
    induction r2 with
    | zero => intro k1 h5 sp6 hk8 hk9; exact absurd hk8 (by omega)
    | succ r2 ih3 =>
      intro k1 h5 sp6 hk8 hk9
      refine tw_iload_n 1 dX10_isSoundNow_2 rfl rfl ?_
      refine tw_iconst (v := 2) dX10_isSoundNow_3 (by decide) ?_
      refine tw_icmp_ge 163 dX10_isSoundNow_4 (by decide) (fun c10 => ?_) (fun c10 => ?_)
      · refine tw_aload_n 0 dX10_isSoundNow_163 rfl rfl ?_
        obtain ⟨e11, f12, th_13, td_14, ds_15, fr_16, ca_17, us_18, wo_19, cm_20, lc_21, lh_22, ld_23, rfl, k24, k25, k26, k27, k28, k29, k30, k31, k32, k33, k34, k35, k36, k37⟩ := sp6.1 x 36 kx (by decide)
        refine tw_get (v := .ref lc_21) rfl in_14 9 dX10_isSoundNow_164 w_1160 rfl (by decide) f12 rfl ?_
        obtain ⟨e38, f39, ⟨el40, rfl, k41⟩, k42⟩ := sp6.1 lc_21 24 k30 (by decide)
        refine tw_br (tw_callV (M := mX10_isSoundNow) (pc := 167) okJx4a65c_iterator_32c93 dX10_isSoundNow_167 w_1386 rfl f39 [] [] rfl rfl ⟨by decide, by decide⟩ (Nat.le_of_ble_eq_true rfl) (c_iterator d h5 lc_21 el40 (g.1 3) (nI (g.2 3)) f39) ((2 + 20 * (r2 + 1)) - 1) ((8 + 92 * (r2 + 1)) - 4) (by omega) (by omega)) (fun it43 h44 q45 => ?_) (fun E h1 q => q.elim)
        obtain ⟨q45n, q45e⟩ := q45
        rw [q45e]
        have n46 := sp6.nn q45n
        have z47 := sp6.1.none q45n
        obtain ⟨h48, eh48⟩ : ∃ z : tw_H, z = tw_up h5 it43 (.inr (2, [.int 0, .int (-1), .int (g.1 3), .ref lc_21])) := ⟨_, rfl⟩
        rw [← eh48]
        have sp49 : tw_sp d τ h g τ h48 := by rw [eh48]; exact sp6.mk q45n
        have f50 : h48 it43 = some (.inr (2, [.int 0, .int (-1), .int (g.1 3), .ref lc_21])) := by rw [eh48]; exact tw_up_s
        refine tw_astore_n [(1, .ref it43), (0, .ref x)] dX10_isSoundNow_170 rfl (by decide) rfl ?_
        have L55 : ∀ (r51 j52 : Nat) (l53 : Int32) (h56 : tw_H) (sp57 : tw_sp d τ (tw_rm h48 it43) g τ h56) (ft58 : h56 it43 = some (.inr (2, [.int (nI j52), .int l53, .int (g.1 3), .ref lc_21]))) (zt59 : τ it43 = 0), g.2 3 + 1 ≤ j52 + r51 → j52 ≤ g.2 3 → tw_W d mX10_isSoundNow (tw_qi (fun r h1 => tw_sp d τ h g τ h1 ∧ tw_01 r) tw_nx) 171 [(0, .ref x), (1, .ref it43)] [] h56 ((2 + 20 * (r2 + 1)) - 1) ((8 + 92 * (r2 + 1)) - 4) := by
          intro r51
          induction r51 with
          | zero => intro j52 l53 h56 sp57 ft58 zt59 hk60 hk61; exact absurd hk60 (by omega)
          | succ r51 ih54 =>
            intro j52 l53 h56 sp57 ft58 zt59 hk60 hk61
            refine tw_aload_n 1 dX10_isSoundNow_171 rfl rfl ?_
            obtain ⟨e62, f63, ⟨el64, rfl, k65⟩, k66⟩ := sp57.1 lc_21 24 k30 (by decide)
            refine tw_bi (tw_callF (M := mX10_isSoundNow) (pc := 172) (n9 := 0) (ci := 2) tw_hasNext ok_itHas w_1416 w_1414 (fun s H z => z.2.2.2.2.2.2.2.2.1) (by decide +kernel) dX10_isSoundNow_172 w_1410 rfl ft58 [] [] rfl rfl ⟨by decide, by decide⟩ (Nat.le_of_ble_eq_true rfl) (c_hasNext d h56 it43 lc_21 el64 j52 (g.2 3) l53 (g.1 3) (g.1 3) ft58 f63 (by omega) (tw_lim24 sp57.1 k30)) ((2 + 20 * (r2 + 1)) - 1) ((8 + 92 * (r2 + 1)) - 4) (by omega) (by omega)) (fun r69 h68 q67 => ?_) (fun E h1 q => q.elim)
            obtain ⟨q67e, q67q⟩ := q67
            rw [q67e]
            rcases q67q with ⟨q67r, q67j⟩ | ⟨q67r, q67j⟩
            · rw [q67r]
              refine tw_if_eq 231 dX10_isSoundNow_177 (by decide) (fun _ => ?_) (fun c70 => absurd (by decide) c70)
              refine tw_iconst (v := 0) dX10_isSoundNow_231 (by decide) ?_
              refine tw_istore_n [(1, .int 0), (0, .ref x)] dX10_isSoundNow_232 rfl (by decide) rfl ?_
              have L74 : ∀ (r72 k71 : Nat), 4 + 1 ≤ k71 + r72 → k71 ≤ 4 → tw_W d mX10_isSoundNow (tw_qi (fun r h1 => tw_sp d τ h g τ h1 ∧ tw_01 r) tw_nx) 233 [(0, .ref x), (1, .int (nI k71))] [] h56 ((2 + 20 * (r2 + 1)) - 1) ((8 + 92 * (r2 + 1)) - 4) := by
                intro r72
                induction r72 with
                | zero => intro k71  hk78 hk79; exact absurd hk78 (by omega)
                | succ r72 ih73 =>
                  intro k71  hk78 hk79
                  refine tw_iload_n 1 dX10_isSoundNow_233 rfl rfl ?_
                  refine tw_iconst (v := 4) dX10_isSoundNow_234 (by decide) ?_
                  refine tw_icmp_ge 297 dX10_isSoundNow_235 (by decide) (fun c80 => ?_) (fun c80 => ?_)
                  · refine tw_iconst (v := 1) dX10_isSoundNow_297 (by decide) ?_
                    exact tw_zret dX10_isSoundNow_298 rfl rfl (Or.inl ⟨_, rfl, ⟨(sp0.tr (sp49.trm n46 sp57)), (by unfold tw_01; decide)⟩⟩)
                  · have kl81 := tw_klt (N := 4) c80 hk79 (by decide)
                    refine tw_iconst (v := 0) dX10_isSoundNow_238 (by decide) ?_
                    refine tw_istore_n [(2, .int 0), (0, .ref x), (1, .int (nI k71))] dX10_isSoundNow_239 rfl (by decide) rfl ?_
                    have L85 : ∀ (r83 k82 : Nat), 4 + 1 ≤ k82 + r83 → k82 ≤ 4 → tw_W d mX10_isSoundNow (tw_qi (fun r h1 => tw_sp d τ h g τ h1 ∧ tw_01 r) tw_nx) 240 [(0, .ref x), (1, .int (nI k71)), (2, .int (nI k82))] [] h56 ((2 + 20 * (r2 + 1)) - 1) ((8 + 92 * (r2 + 1)) - 4) := by
                      intro r83
                      induction r83 with
                      | zero => intro k82  hk89 hk90; exact absurd hk89 (by omega)
                      | succ r83 ih84 =>
                        intro k82  hk89 hk90
                        refine tw_iload_n 2 dX10_isSoundNow_240 rfl rfl ?_
                        refine tw_iconst (v := 4) dX10_isSoundNow_241 (by decide) ?_
                        refine tw_icmp_ge 291 dX10_isSoundNow_242 (by decide) (fun c91 => ?_) (fun c91 => ?_)
                        · obtain ⟨v92, ev92⟩ : ∃ y : Int32, y = (nI k71) + 1 := ⟨_, rfl⟩
                          refine tw_iinc [(1, .int v92), (0, .ref x), (2, .int (nI k82))] 1 dX10_isSoundNow_291 rfl (by rw [ev92]; rfl) (by decide) rfl ?_
                          refine tw_goto 233 dX10_isSoundNow_294 (by decide) ?_
                          have qv92 := tw_nI3 ev92
                          rw [qv92]
                          refine tw_lv [1, 0] rfl ?_
                          exact ih73 (k71 + 1)  (by omega) (by omega)
                        · have kl93 := tw_klt (N := 4) c91 hk90 (by decide)
                          refine tw_aload_n 0 dX10_isSoundNow_245 rfl rfl ?_
                          obtain ⟨e94, f95, th_96, td_97, ds_98, fr_99, ca_100, us_101, wo_102, cm_103, lc_104, lh_105, ld_106, rfl, k107, k108, k109, k110, k111, k112, k113, k114, k115, k116, k117, k118, k119, k120⟩ := sp57.1 x 36 kx (by decide)
                          refine tw_get (v := .ref ds_98) rfl in_14 3 dX10_isSoundNow_246 w_1154 rfl (by decide) f95 rfl ?_
                          refine tw_iload_n 1 dX10_isSoundNow_249 rfl rfl ?_
                          obtain ⟨e121, f122, F123, rfl, k124⟩ := sp57.1 ds_98 34 k107 (by decide)
                          obtain ⟨q125, k126, k127⟩ := k124 ((nI k71)).toNatClampNeg (by rw [nI_clamp (by omega)]; omega)
                          refine tw_aald (v := .ref q125) 8 rfl rfl dX10_isSoundNow_250 f122 (vp_in_nI (by omega) (by decide)) (by rw [k126]; rfl) ?_
                          refine tw_iload_n 2 dX10_isSoundNow_251 rfl rfl ?_
                          obtain ⟨e128, f129, F130, rfl⟩ := sp57.1 q125 6 k127 (by decide)
                          obtain ⟨v131, ev131⟩ : ∃ y : Int32, F130 ((nI k82)).toNatClampNeg = y := ⟨_, rfl⟩
                          refine tw_iald (v := v131) dX10_isSoundNow_252 f129 (vp_in_nI (by omega) (by decide)) ev131 ?_
                          refine tw_aload_n 0 dX10_isSoundNow_253 rfl rfl ?_
                          refine tw_get (v := .ref ds_98) rfl in_14 3 dX10_isSoundNow_254 w_1154 rfl (by decide) f95 rfl ?_
                          refine tw_iload_n 2 dX10_isSoundNow_257 rfl rfl ?_
                          obtain ⟨q132, k133, k134⟩ := k124 ((nI k82)).toNatClampNeg (by rw [nI_clamp (by omega)]; omega)
                          refine tw_aald (v := .ref q132) 8 rfl rfl dX10_isSoundNow_258 f122 (vp_in_nI (by omega) (by decide)) (by rw [k133]; rfl) ?_
                          refine tw_iload_n 1 dX10_isSoundNow_259 rfl rfl ?_
                          obtain ⟨e135, f136, F137, rfl⟩ := sp57.1 q132 6 k134 (by decide)
                          obtain ⟨v138, ev138⟩ : ∃ y : Int32, F137 ((nI k71)).toNatClampNeg = y := ⟨_, rfl⟩
                          refine tw_iald (v := v138) dX10_isSoundNow_260 f136 (vp_in_nI (by omega) (by decide)) ev138 ?_
                          refine tw_icmp_ne 283 dX10_isSoundNow_261 (by decide) (fun c139 => ?_) (fun c139 => ?_)
                          · refine tw_iconst (v := 0) dX10_isSoundNow_283 (by decide) ?_
                            exact tw_zret dX10_isSoundNow_284 rfl rfl (Or.inl ⟨_, rfl, ⟨(sp0.tr (sp49.trm n46 sp57)), (by unfold tw_01; decide)⟩⟩)
                          · refine tw_aload_n 0 dX10_isSoundNow_264 rfl rfl ?_
                            refine tw_get (v := .ref fr_99) rfl in_14 4 dX10_isSoundNow_265 w_1155 rfl (by decide) f95 rfl ?_
                            refine tw_iload_n 1 dX10_isSoundNow_268 rfl rfl ?_
                            obtain ⟨e140, f141, F142, rfl, k143⟩ := sp57.1 fr_99 34 k108 (by decide)
                            obtain ⟨q144, k145, k146⟩ := k143 ((nI k71)).toNatClampNeg (by rw [nI_clamp (by omega)]; omega)
                            refine tw_aald (v := .ref q144) 8 rfl rfl dX10_isSoundNow_269 f141 (vp_in_nI (by omega) (by decide)) (by rw [k145]; rfl) ?_
                            refine tw_iload_n 2 dX10_isSoundNow_270 rfl rfl ?_
                            obtain ⟨e147, f148, F149, rfl⟩ := sp57.1 q144 6 k146 (by decide)
                            obtain ⟨v150, ev150⟩ : ∃ y : Int32, F149 ((nI k82)).toNatClampNeg = y := ⟨_, rfl⟩
                            refine tw_iald (v := v150) dX10_isSoundNow_271 f148 (vp_in_nI (by omega) (by decide)) ev150 ?_
                            refine tw_aload_n 0 dX10_isSoundNow_272 rfl rfl ?_
                            refine tw_get (v := .ref fr_99) rfl in_14 4 dX10_isSoundNow_273 w_1155 rfl (by decide) f95 rfl ?_
                            refine tw_iload_n 2 dX10_isSoundNow_276 rfl rfl ?_
                            obtain ⟨q151, k152, k153⟩ := k143 ((nI k82)).toNatClampNeg (by rw [nI_clamp (by omega)]; omega)
                            refine tw_aald (v := .ref q151) 8 rfl rfl dX10_isSoundNow_277 f141 (vp_in_nI (by omega) (by decide)) (by rw [k152]; rfl) ?_
                            refine tw_iload_n 1 dX10_isSoundNow_278 rfl rfl ?_
                            obtain ⟨e154, f155, F156, rfl⟩ := sp57.1 q151 6 k153 (by decide)
                            obtain ⟨v157, ev157⟩ : ∃ y : Int32, F156 ((nI k71)).toNatClampNeg = y := ⟨_, rfl⟩
                            refine tw_iald (v := v157) dX10_isSoundNow_279 f155 (vp_in_nI (by omega) (by decide)) ev157 ?_
                            refine tw_icmp_eq 285 dX10_isSoundNow_280 (by decide) (fun c158 => ?_) (fun c158 => ?_)
                            · obtain ⟨v159, ev159⟩ : ∃ y : Int32, y = (nI k82) + 1 := ⟨_, rfl⟩
                              refine tw_iinc [(2, .int v159), (0, .ref x), (1, .int (nI k71))] 2 dX10_isSoundNow_285 rfl (by rw [ev159]; rfl) (by decide) rfl ?_
                              refine tw_goto 240 dX10_isSoundNow_288 (by decide) ?_
                              have qv159 := tw_nI3 ev159
                              rw [qv159]
                              refine tw_lv [1, 2, 0] rfl ?_
                              exact ih84 (k82 + 1)  (by omega) (by omega)
                            · refine tw_iconst (v := 0) dX10_isSoundNow_283 (by decide) ?_
                              exact tw_zret dX10_isSoundNow_284 rfl rfl (Or.inl ⟨_, rfl, ⟨(sp0.tr (sp49.trm n46 sp57)), (by unfold tw_01; decide)⟩⟩)
                    refine tw_lv [1, 2, 0] rfl ?_
                    exact L85 (4 + 1) 0  (by omega) (by omega)
              refine tw_lv [1, 0] rfl ?_
              exact L74 (4 + 1) 0  (by omega) (by omega)
            · rw [q67r]
              refine tw_if_eq 231 dX10_isSoundNow_177 (by decide) (fun c160 => absurd c160 (by decide)) (fun _ => ?_)
              refine tw_aload_n 1 dX10_isSoundNow_180 rfl rfl ?_
              have k161 : τ el64 = 27 := k65.resolve_left (fun q => absurd q67j (by rw [q.2.1]; exact Nat.not_lt_zero _))
              obtain ⟨e162, f163, ⟨F164, rfl, hc165, hc166⟩, un167⟩ := sp57.1 el64 27 k161 (by decide)
              obtain ⟨y168, hy169, ky170⟩ := hc166 j52 q67j
              refine tw_br (tw_callF (M := mX10_isSoundNow) (pc := 181) (n9 := 0) (ci := 2) tw_next ok_itNext w_1425 w_1423 (fun s H z => z.2.2.2.2.2.2.2.2.2) (by decide +kernel) dX10_isSoundNow_181 w_1420 rfl ft58 [] [] rfl rfl ⟨by decide, by decide⟩ (Nat.le_of_ble_eq_true rfl) (c_next d h56 it43 lc_21 el64 j52 (g.2 3) y168 l53 (g.1 3) F164 ft58 f63 f163 q67j hc165 hy169) ((2 + 20 * (r2 + 1)) - 1) ((8 + 92 * (r2 + 1)) - 4) (by omega) (by omega)) (fun r173 h172 q171 => ?_) (fun E h1 q => q.elim)
              obtain ⟨q171r, q171e⟩ := q171
              rw [q171r]
              have sp174 : tw_sp d τ (tw_rm h48 it43) g τ h172 := by rw [q171e]; exact sp57.wl tw_rm_s zt59
              have f175 : h172 it43 = some (.inr (2, [.int (nI (j52 + 1)), .int (nI j52), .int (g.1 3), .ref lc_21])) := by rw [q171e]; exact tw_up_s
              obtain ⟨e176, f177, r_178, c_179, v_180, o_181, t_182, rfl, k183, k184, k185, k186, k187⟩ := sp174.1 y168 21 ky170 (by decide)
              refine tw_castS (ci := 11) rfl dX10_isSoundNow_186 w_1212 f177 ?_
              refine tw_astore_n [(2, .ref y168), (0, .ref x), (1, .ref it43)] dX10_isSoundNow_189 rfl (by decide) rfl ?_
              refine tw_aload_n 0 dX10_isSoundNow_190 rfl rfl ?_
              refine tw_get (v := .ref t_182) rfl in_11 4 dX10_isSoundNow_191 w_1225 rfl (by decide) f177 rfl ?_
              refine tw_astore_n [(3, .ref t_182), (2, .ref y168), (0, .ref x), (1, .ref it43)] dX10_isSoundNow_194 rfl (by decide) rfl ?_
              refine tw_aload_n 0 dX10_isSoundNow_195 rfl rfl ?_
              obtain ⟨e188, f189, F190, rfl, k191⟩ := sp174.1 t_182 33 k185 (by decide)
              refine tw_alen (v := nI 5) 0 rfl dX10_isSoundNow_196 f189 rfl ?_
              refine tw_istore [(4, .int (nI 5)), (3, .ref t_182), (2, .ref y168), (0, .ref x), (1, .ref it43)] dX10_isSoundNow_197 (by decide) rfl ?_
              refine tw_iconst (v := 0) dX10_isSoundNow_199 (by decide) ?_
              refine tw_istore [(5, .int 0), (4, .int (nI 5)), (3, .ref t_182), (2, .ref y168), (0, .ref x), (1, .ref it43)] dX10_isSoundNow_200 (by decide) rfl ?_
              have L195 : ∀ (r193 k192 : Nat), 5 + 1 ≤ k192 + r193 → k192 ≤ 5 → tw_W d mX10_isSoundNow (tw_qi (fun r h1 => tw_sp d τ h g τ h1 ∧ tw_01 r) tw_nx) 202 [(0, .ref x), (1, .ref it43), (2, .ref y168), (3, .ref t_182), (4, .int (nI 5)), (5, .int (nI k192))] [] h172 ((2 + 20 * (r2 + 1)) - 1) ((8 + 92 * (r2 + 1)) - 4) := by
                intro r193
                induction r193 with
                | zero => intro k192  hk199 hk200; exact absurd hk199 (by omega)
                | succ r193 ih194 =>
                  intro k192  hk199 hk200
                  refine tw_iload 5 dX10_isSoundNow_202 rfl ?_
                  refine tw_iload 4 dX10_isSoundNow_204 rfl ?_
                  refine tw_icmp_ge 228 dX10_isSoundNow_206 (by decide) (fun c201 => ?_) (fun c201 => ?_)
                  · refine tw_goto 171 dX10_isSoundNow_228 (by decide) ?_
                    refine tw_lv [0, 1] rfl ?_
                    exact ih54 ((j52 + 1)) (nI j52)  _ sp174 f175 zt59  (by omega) (by omega)
                  · have kl202 := tw_klt (N := 5) c201 hk200 (by decide)
                    refine tw_aload_n 3 dX10_isSoundNow_209 rfl rfl ?_
                    refine tw_iload 5 dX10_isSoundNow_210 rfl ?_
                    obtain ⟨v203, ev203⟩ : ∃ y : Int32, F190 ((nI k192)).toNatClampNeg = y := ⟨_, rfl⟩
                    refine tw_iald (v := v203) dX10_isSoundNow_212 f189 (vp_in_nI (by omega) (by decide)) ev203 ?_
                    refine tw_istore [(6, .int v203), (0, .ref x), (1, .ref it43), (2, .ref y168), (3, .ref t_182), (4, .int (nI 5)), (5, .int (nI k192))] dX10_isSoundNow_213 (by decide) rfl ?_
                    refine tw_iload 0 dX10_isSoundNow_215 rfl ?_
                    refine tw_if_ge 222 dX10_isSoundNow_217 (by decide) (fun c204 => ?_) (fun c204 => ?_)
                    · obtain ⟨v205, ev205⟩ : ∃ y : Int32, y = (nI k192) + 1 := ⟨_, rfl⟩
                      refine tw_iinc [(5, .int v205), (6, .int v203), (0, .ref x), (1, .ref it43), (2, .ref y168), (3, .ref t_182), (4, .int (nI 5))] 6 dX10_isSoundNow_222 rfl (by rw [ev205]; rfl) (by decide) rfl ?_
                      refine tw_goto 202 dX10_isSoundNow_225 (by decide) ?_
                      have qv205 := tw_nI3 ev205
                      rw [qv205]
                      refine tw_lv [2, 3, 4, 5, 6, 0] rfl ?_
                      exact ih194 (k192 + 1)  (by omega) (by omega)
                    · refine tw_iconst (v := 0) dX10_isSoundNow_220 (by decide) ?_
                      exact tw_zret dX10_isSoundNow_221 rfl rfl (Or.inl ⟨_, rfl, ⟨(sp0.tr (sp49.trm n46 sp174)), (by unfold tw_01; decide)⟩⟩)
              refine tw_lv [4, 5, 3, 2, 1, 0] rfl ?_
              exact L195 (5 + 1) 0  (by omega) (by omega)
        refine tw_lv [1, 0] rfl ?_
        exact L55 (g.2 3 + 1) 0 (-1)  _ (tw_sp.rm sp49.1 it43) f50 z47 (by omega) (Nat.zero_le _)
      · have kl206 := tw_klt (N := 2) c10 hk9 (by decide)
        refine tw_aload_n 0 dX10_isSoundNow_7 rfl rfl ?_
        refine tw_iload_n 1 dX10_isSoundNow_8 rfl rfl ?_
        refine tw_iconst (v := 0) dX10_isSoundNow_9 (by decide) ?_
        obtain ⟨e207, f208, th_209, td_210, ds_211, fr_212, ca_213, us_214, wo_215, cm_216, lc_217, lh_218, ld_219, rfl, k220, k221, k222, k223, k224, k225, k226, k227, k228, k229, k230, k231, k232, k233⟩ := sp6.1 x 36 kx (by decide)
        refine tw_bi (tw_callV (M := mX10_isSoundNow) (pc := 10) okX10_worldNow dX10_isSoundNow_10 w_1537 rfl f208 [.int (nI k1), .int 0] [] rfl rfl ⟨by decide, by decide⟩ (Nat.le_of_ble_eq_true rfl) (c_X10_worldNow d g τ h5 sp6.1 x kx (nI k1) 0 (vp_in_nI (by omega) (by decide)) (vp_in_nI (n := 0) (by decide) (by decide))) ((2 + 20 * (r2 + 1)) - 3) ((8 + 92 * (r2 + 1)) - 14) (by omega) (by omega)) (fun r236 h235 q234 => ?_) (fun E h1 q => q.elim)
        have sp237 := sp6.tr q234
        refine tw_aload_n 0 dX10_isSoundNow_13 rfl rfl ?_
        refine tw_iload_n 1 dX10_isSoundNow_14 rfl rfl ?_
        refine tw_iconst (v := 1) dX10_isSoundNow_15 (by decide) ?_
        obtain ⟨e238, f239, th_240, td_241, ds_242, fr_243, ca_244, us_245, wo_246, cm_247, lc_248, lh_249, ld_250, rfl, k251, k252, k253, k254, k255, k256, k257, k258, k259, k260, k261, k262, k263, k264⟩ := sp237.1 x 36 kx (by decide)
        refine tw_bi (tw_callV (M := mX10_isSoundNow) (pc := 16) okX10_worldNow dX10_isSoundNow_16 w_1537 rfl f239 [.int (nI k1), .int 1] [.int r236] rfl rfl ⟨by decide, by decide⟩ (Nat.le_of_ble_eq_true rfl) (c_X10_worldNow d g τ h235 sp237.1 x kx (nI k1) 1 (vp_in_nI (by omega) (by decide)) (vp_in_nI (n := 1) (by decide) (by decide))) (((2 + 20 * (r2 + 1)) - 3) - 3) (((8 + 92 * (r2 + 1)) - 14) - 14) (by omega) (by omega)) (fun r267 h266 q265 => ?_) (fun E h1 q => q.elim)
        have sp268 := sp237.tr q265
        refine tw_iadd dX10_isSoundNow_19 ?_
        refine tw_nmi (fun v269 ev269 => ?_)
        refine tw_aload_n 0 dX10_isSoundNow_20 rfl rfl ?_
        refine tw_iload_n 1 dX10_isSoundNow_21 rfl rfl ?_
        refine tw_iconst (v := 2) dX10_isSoundNow_22 (by decide) ?_
        obtain ⟨e270, f271, th_272, td_273, ds_274, fr_275, ca_276, us_277, wo_278, cm_279, lc_280, lh_281, ld_282, rfl, k283, k284, k285, k286, k287, k288, k289, k290, k291, k292, k293, k294, k295, k296⟩ := sp268.1 x 36 kx (by decide)
        refine tw_bi (tw_callV (M := mX10_isSoundNow) (pc := 23) okX10_worldNow dX10_isSoundNow_23 w_1537 rfl f271 [.int (nI k1), .int 2] [.int v269] rfl rfl ⟨by decide, by decide⟩ (Nat.le_of_ble_eq_true rfl) (c_X10_worldNow d g τ h266 sp268.1 x kx (nI k1) 2 (vp_in_nI (by omega) (by decide)) (vp_in_nI (n := 2) (by decide) (by decide))) ((((2 + 20 * (r2 + 1)) - 3) - 3) - 3) ((((8 + 92 * (r2 + 1)) - 14) - 14) - 14) (by omega) (by omega)) (fun r299 h298 q297 => ?_) (fun E h1 q => q.elim)
        have sp300 := sp268.tr q297
        refine tw_iadd dX10_isSoundNow_26 ?_
        refine tw_nmi (fun v301 ev301 => ?_)
        refine tw_aload_n 0 dX10_isSoundNow_27 rfl rfl ?_
        refine tw_iload_n 1 dX10_isSoundNow_28 rfl rfl ?_
        refine tw_iconst (v := 3) dX10_isSoundNow_29 (by decide) ?_
        obtain ⟨e302, f303, th_304, td_305, ds_306, fr_307, ca_308, us_309, wo_310, cm_311, lc_312, lh_313, ld_314, rfl, k315, k316, k317, k318, k319, k320, k321, k322, k323, k324, k325, k326, k327, k328⟩ := sp300.1 x 36 kx (by decide)
        refine tw_bi (tw_callV (M := mX10_isSoundNow) (pc := 30) okX10_worldNow dX10_isSoundNow_30 w_1537 rfl f303 [.int (nI k1), .int 3] [.int v301] rfl rfl ⟨by decide, by decide⟩ (Nat.le_of_ble_eq_true rfl) (c_X10_worldNow d g τ h298 sp300.1 x kx (nI k1) 3 (vp_in_nI (by omega) (by decide)) (vp_in_nI (n := 3) (by decide) (by decide))) (((((2 + 20 * (r2 + 1)) - 3) - 3) - 3) - 3) (((((8 + 92 * (r2 + 1)) - 14) - 14) - 14) - 14) (by omega) (by omega)) (fun r331 h330 q329 => ?_) (fun E h1 q => q.elim)
        have sp332 := sp300.tr q329
        refine tw_iadd dX10_isSoundNow_33 ?_
        refine tw_nmi (fun v333 ev333 => ?_)
        refine tw_aload_n 0 dX10_isSoundNow_34 rfl rfl ?_
        refine tw_iload_n 1 dX10_isSoundNow_35 rfl rfl ?_
        refine tw_iconst (v := 4) dX10_isSoundNow_36 (by decide) ?_
        obtain ⟨e334, f335, th_336, td_337, ds_338, fr_339, ca_340, us_341, wo_342, cm_343, lc_344, lh_345, ld_346, rfl, k347, k348, k349, k350, k351, k352, k353, k354, k355, k356, k357, k358, k359, k360⟩ := sp332.1 x 36 kx (by decide)
        refine tw_bi (tw_callV (M := mX10_isSoundNow) (pc := 37) okX10_worldNow dX10_isSoundNow_37 w_1537 rfl f335 [.int (nI k1), .int 4] [.int v333] rfl rfl ⟨by decide, by decide⟩ (Nat.le_of_ble_eq_true rfl) (c_X10_worldNow d g τ h330 sp332.1 x kx (nI k1) 4 (vp_in_nI (by omega) (by decide)) (vp_in_nI (n := 4) (by decide) (by decide))) ((((((2 + 20 * (r2 + 1)) - 3) - 3) - 3) - 3) - 3) ((((((8 + 92 * (r2 + 1)) - 14) - 14) - 14) - 14) - 14) (by omega) (by omega)) (fun r363 h362 q361 => ?_) (fun E h1 q => q.elim)
        have sp364 := sp332.tr q361
        refine tw_iadd dX10_isSoundNow_40 ?_
        refine tw_nmi (fun v365 ev365 => ?_)
        refine tw_aload_n 0 dX10_isSoundNow_41 rfl rfl ?_
        refine tw_iload_n 1 dX10_isSoundNow_42 rfl rfl ?_
        refine tw_iconst (v := 5) dX10_isSoundNow_43 (by decide) ?_
        obtain ⟨e366, f367, th_368, td_369, ds_370, fr_371, ca_372, us_373, wo_374, cm_375, lc_376, lh_377, ld_378, rfl, k379, k380, k381, k382, k383, k384, k385, k386, k387, k388, k389, k390, k391, k392⟩ := sp364.1 x 36 kx (by decide)
        refine tw_bi (tw_callV (M := mX10_isSoundNow) (pc := 44) okX10_worldNow dX10_isSoundNow_44 w_1537 rfl f367 [.int (nI k1), .int 5] [.int v365] rfl rfl ⟨by decide, by decide⟩ (Nat.le_of_ble_eq_true rfl) (c_X10_worldNow d g τ h362 sp364.1 x kx (nI k1) 5 (vp_in_nI (by omega) (by decide)) (vp_in_nI (n := 5) (by decide) (by decide))) (((((((2 + 20 * (r2 + 1)) - 3) - 3) - 3) - 3) - 3) - 3) (((((((8 + 92 * (r2 + 1)) - 14) - 14) - 14) - 14) - 14) - 14) (by omega) (by omega)) (fun r395 h394 q393 => ?_) (fun E h1 q => q.elim)
        have sp396 := sp364.tr q393
        refine tw_icmp_eq 52 dX10_isSoundNow_47 (by decide) (fun c397 => ?_) (fun c397 => ?_)
        · refine tw_aload_n 0 dX10_isSoundNow_52 rfl rfl ?_
          obtain ⟨e398, f399, th_400, td_401, ds_402, fr_403, ca_404, us_405, wo_406, cm_407, lc_408, lh_409, ld_410, rfl, k411, k412, k413, k414, k415, k416, k417, k418, k419, k420, k421, k422, k423, k424⟩ := sp396.1 x 36 kx (by decide)
          refine tw_get (v := .ref lc_408) rfl in_14 9 dX10_isSoundNow_53 w_1160 rfl (by decide) f399 rfl ?_
          obtain ⟨e425, f426, ⟨el427, rfl, k428⟩, k429⟩ := sp396.1 lc_408 24 k417 (by decide)
          refine tw_br (tw_callV (M := mX10_isSoundNow) (pc := 56) okJx4a65c_iterator_32c93 dX10_isSoundNow_56 w_1386 rfl f426 [] [] rfl rfl ⟨by decide, by decide⟩ (Nat.le_of_ble_eq_true rfl) (c_iterator d h394 lc_408 el427 (g.1 3) (nI (g.2 3)) f426) ((((((((2 + 20 * (r2 + 1)) - 3) - 3) - 3) - 3) - 3) - 3) - 1) ((((((((8 + 92 * (r2 + 1)) - 14) - 14) - 14) - 14) - 14) - 14) - 4) (by omega) (by omega)) (fun it430 h431 q432 => ?_) (fun E h1 q => q.elim)
          obtain ⟨q432n, q432e⟩ := q432
          rw [q432e]
          have n433 := sp396.nn q432n
          have z434 := sp396.1.none q432n
          obtain ⟨h435, eh435⟩ : ∃ z : tw_H, z = tw_up h394 it430 (.inr (2, [.int 0, .int (-1), .int (g.1 3), .ref lc_408])) := ⟨_, rfl⟩
          rw [← eh435]
          have sp436 : tw_sp d τ h g τ h435 := by rw [eh435]; exact sp396.mk q432n
          have f437 : h435 it430 = some (.inr (2, [.int 0, .int (-1), .int (g.1 3), .ref lc_408])) := by rw [eh435]; exact tw_up_s
          refine tw_astore_n [(2, .ref it430), (0, .ref x), (1, .int (nI k1))] dX10_isSoundNow_59 rfl (by decide) rfl ?_
          have L442 : ∀ (r438 j439 : Nat) (l440 : Int32) (h443 : tw_H) (sp444 : tw_sp d τ (tw_rm h435 it430) g τ h443) (ft445 : h443 it430 = some (.inr (2, [.int (nI j439), .int l440, .int (g.1 3), .ref lc_408]))) (zt446 : τ it430 = 0), g.2 3 + 1 ≤ j439 + r438 → j439 ≤ g.2 3 → tw_W d mX10_isSoundNow (tw_qi (fun r h1 => tw_sp d τ h g τ h1 ∧ tw_01 r) tw_nx) 60 [(0, .ref x), (1, .int (nI k1)), (2, .ref it430)] [] h443 ((((((((2 + 20 * (r2 + 1)) - 3) - 3) - 3) - 3) - 3) - 3) - 1) ((((((((8 + 92 * (r2 + 1)) - 14) - 14) - 14) - 14) - 14) - 14) - 4) := by
            intro r438
            induction r438 with
            | zero => intro j439 l440 h443 sp444 ft445 zt446 hk447 hk448; exact absurd hk447 (by omega)
            | succ r438 ih441 =>
              intro j439 l440 h443 sp444 ft445 zt446 hk447 hk448
              refine tw_aload_n 2 dX10_isSoundNow_60 rfl rfl ?_
              obtain ⟨e449, f450, ⟨el451, rfl, k452⟩, k453⟩ := sp444.1 lc_408 24 k417 (by decide)
              refine tw_bi (tw_callF (M := mX10_isSoundNow) (pc := 61) (n9 := 0) (ci := 2) tw_hasNext ok_itHas w_1416 w_1414 (fun s H z => z.2.2.2.2.2.2.2.2.1) (by decide +kernel) dX10_isSoundNow_61 w_1410 rfl ft445 [] [] rfl rfl ⟨by decide, by decide⟩ (Nat.le_of_ble_eq_true rfl) (c_hasNext d h443 it430 lc_408 el451 j439 (g.2 3) l440 (g.1 3) (g.1 3) ft445 f450 (by omega) (tw_lim24 sp444.1 k417)) ((((((((2 + 20 * (r2 + 1)) - 3) - 3) - 3) - 3) - 3) - 3) - 1) ((((((((8 + 92 * (r2 + 1)) - 14) - 14) - 14) - 14) - 14) - 14) - 4) (by omega) (by omega)) (fun r456 h455 q454 => ?_) (fun E h1 q => q.elim)
              obtain ⟨q454e, q454q⟩ := q454
              rw [q454e]
              rcases q454q with ⟨q454r, q454j⟩ | ⟨q454r, q454j⟩
              · rw [q454r]
                refine tw_if_eq 95 dX10_isSoundNow_66 (by decide) (fun _ => ?_) (fun c457 => absurd (by decide) c457)
                refine tw_aload_n 0 dX10_isSoundNow_95 rfl rfl ?_
                obtain ⟨e458, f459, th_460, td_461, ds_462, fr_463, ca_464, us_465, wo_466, cm_467, lc_468, lh_469, ld_470, rfl, k471, k472, k473, k474, k475, k476, k477, k478, k479, k480, k481, k482, k483, k484⟩ := sp444.1 x 36 kx (by decide)
                refine tw_get (v := .ref lh_469) rfl in_14 10 dX10_isSoundNow_96 w_1161 rfl (by decide) f459 rfl ?_
                obtain ⟨e485, f486, ⟨el487, rfl, k488⟩, k489⟩ := sp444.1 lh_469 25 k478 (by decide)
                refine tw_br (tw_callV (M := mX10_isSoundNow) (pc := 99) okJx4a65c_iterator_32c93 dX10_isSoundNow_99 w_1386 rfl f486 [] [] rfl rfl ⟨by decide, by decide⟩ (Nat.le_of_ble_eq_true rfl) (c_iterator d h443 lh_469 el487 (g.1 4) (nI (g.2 4)) f486) (((((((((2 + 20 * (r2 + 1)) - 3) - 3) - 3) - 3) - 3) - 3) - 1) - 1) (((((((((8 + 92 * (r2 + 1)) - 14) - 14) - 14) - 14) - 14) - 14) - 4) - 4) (by omega) (by omega)) (fun it490 h491 q492 => ?_) (fun E h1 q => q.elim)
                obtain ⟨q492n, q492e⟩ := q492
                rw [q492e]
                have n493 := sp444.nn q492n
                have z494 := sp444.1.none q492n
                have ne495 := tw_neF ft445 q492n
                obtain ⟨h496, eh496⟩ : ∃ z : tw_H, z = tw_up h443 it490 (.inr (2, [.int 0, .int (-1), .int (g.1 4), .ref lh_469])) := ⟨_, rfl⟩
                rw [← eh496]
                have sp497 : tw_sp d τ (tw_rm h435 it430) g τ h496 := by rw [eh496]; exact sp444.mk q492n
                have f498 : h496 it430 = some (.inr (2, [.int (nI j439), .int l440, .int (g.1 3), .ref lc_408])) := by rw [eh496, tw_up_n ne495]; exact ft445
                have f499 : h496 it490 = some (.inr (2, [.int 0, .int (-1), .int (g.1 4), .ref lh_469])) := by rw [eh496]; exact tw_up_s
                refine tw_astore_n [(2, .ref it490), (0, .ref x), (1, .int (nI k1))] dX10_isSoundNow_102 rfl (by decide) rfl ?_
                have L504 : ∀ (r500 j501 : Nat) (l502 : Int32) (h505 : tw_H) (sp506 : tw_sp d τ (tw_rm h496 it490) g τ h505) (ft507 : h505 it490 = some (.inr (2, [.int (nI j501), .int l502, .int (g.1 4), .ref lh_469]))) (zt508 : τ it490 = 0), g.2 4 + 1 ≤ j501 + r500 → j501 ≤ g.2 4 → tw_W d mX10_isSoundNow (tw_qi (fun r h1 => tw_sp d τ h g τ h1 ∧ tw_01 r) tw_nx) 103 [(0, .ref x), (1, .int (nI k1)), (2, .ref it490)] [] h505 (((((((((2 + 20 * (r2 + 1)) - 3) - 3) - 3) - 3) - 3) - 3) - 1) - 1) (((((((((8 + 92 * (r2 + 1)) - 14) - 14) - 14) - 14) - 14) - 14) - 4) - 4) := by
                  intro r500
                  induction r500 with
                  | zero => intro j501 l502 h505 sp506 ft507 zt508 hk509 hk510; exact absurd hk509 (by omega)
                  | succ r500 ih503 =>
                    intro j501 l502 h505 sp506 ft507 zt508 hk509 hk510
                    have f511 := (sp506.2.2 _ _ (by unfold tw_rm; rw [if_neg ne495]; exact f498) zt446).1
                    have z512 := (sp506.2.2 _ _ (by unfold tw_rm; rw [if_neg ne495]; exact f498) zt446).2
                    refine tw_aload_n 2 dX10_isSoundNow_103 rfl rfl ?_
                    obtain ⟨e513, f514, ⟨el515, rfl, k516⟩, k517⟩ := sp506.1 lh_469 25 k478 (by decide)
                    refine tw_bi (tw_callF (M := mX10_isSoundNow) (pc := 104) (n9 := 0) (ci := 2) tw_hasNext ok_itHas w_1416 w_1414 (fun s H z => z.2.2.2.2.2.2.2.2.1) (by decide +kernel) dX10_isSoundNow_104 w_1410 rfl ft507 [] [] rfl rfl ⟨by decide, by decide⟩ (Nat.le_of_ble_eq_true rfl) (c_hasNext d h505 it490 lh_469 el515 j501 (g.2 4) l502 (g.1 4) (g.1 4) ft507 f514 (by omega) (tw_lim25 sp506.1 k478)) (((((((((2 + 20 * (r2 + 1)) - 3) - 3) - 3) - 3) - 3) - 3) - 1) - 1) (((((((((8 + 92 * (r2 + 1)) - 14) - 14) - 14) - 14) - 14) - 14) - 4) - 4) (by omega) (by omega)) (fun r520 h519 q518 => ?_) (fun E h1 q => q.elim)
                    obtain ⟨q518e, q518q⟩ := q518
                    rw [q518e]
                    rcases q518q with ⟨q518r, q518j⟩ | ⟨q518r, q518j⟩
                    · rw [q518r]
                      refine tw_if_eq 157 dX10_isSoundNow_109 (by decide) (fun _ => ?_) (fun c521 => absurd (by decide) c521)
                      obtain ⟨v522, ev522⟩ : ∃ y : Int32, y = (nI k1) + 1 := ⟨_, rfl⟩
                      refine tw_iinc [(1, .int v522), (0, .ref x), (2, .ref it490)] 1 dX10_isSoundNow_157 rfl (by rw [ev522]; rfl) (by decide) rfl ?_
                      refine tw_goto 2 dX10_isSoundNow_160 (by decide) ?_
                      have qv522 := tw_nI3 ev522
                      rw [qv522]
                      refine tw_lv [1, 0] rfl ?_
                      refine tw_less (c2 := 2 + 20 * r2) (n2 := 8 + 92 * r2) (by omega) (by omega) ?_
                      exact ih3 (k1 + 1)  _ (sp436.trm n433 (sp497.trm n493 sp506)) (by omega) (by omega)
                    · rw [q518r]
                      refine tw_if_eq 157 dX10_isSoundNow_109 (by decide) (fun c523 => absurd c523 (by decide)) (fun _ => ?_)
                      refine tw_aload_n 2 dX10_isSoundNow_112 rfl rfl ?_
                      have k524 : τ el515 = 28 := k516.resolve_left (fun q => absurd q518j (by rw [q.2.1]; exact Nat.not_lt_zero _))
                      obtain ⟨e525, f526, ⟨F527, rfl, hc528, hc529⟩, un530⟩ := sp506.1 el515 28 k524 (by decide)
                      obtain ⟨y531, hy532, ky533⟩ := hc529 j501 q518j
                      refine tw_br (tw_callF (M := mX10_isSoundNow) (pc := 113) (n9 := 0) (ci := 2) tw_next ok_itNext w_1425 w_1423 (fun s H z => z.2.2.2.2.2.2.2.2.2) (by decide +kernel) dX10_isSoundNow_113 w_1420 rfl ft507 [] [] rfl rfl ⟨by decide, by decide⟩ (Nat.le_of_ble_eq_true rfl) (c_next d h505 it490 lh_469 el515 j501 (g.2 4) y531 l502 (g.1 4) F527 ft507 f514 f526 q518j hc528 hy532) (((((((((2 + 20 * (r2 + 1)) - 3) - 3) - 3) - 3) - 3) - 3) - 1) - 1) (((((((((8 + 92 * (r2 + 1)) - 14) - 14) - 14) - 14) - 14) - 14) - 4) - 4) (by omega) (by omega)) (fun r536 h535 q534 => ?_) (fun E h1 q => q.elim)
                      obtain ⟨q534r, q534e⟩ := q534
                      rw [q534r]
                      have sp537 : tw_sp d τ (tw_rm h496 it490) g τ h535 := by rw [q534e]; exact sp506.wl tw_rm_s zt508
                      have f538 : h535 it430 = some (.inr (2, [.int (nI j439), .int l440, .int (g.1 3), .ref lc_408])) := by rw [q534e, tw_up_n ne495]; exact f511
                      have f539 : h535 it490 = some (.inr (2, [.int (nI (j501 + 1)), .int (nI j501), .int (g.1 4), .ref lh_469])) := by rw [q534e]; exact tw_up_s
                      obtain ⟨e540, f541, x_542, y_543, dy_544, p_545, rfl, k546, k547, k548⟩ := sp537.1 y531 23 ky533 (by decide)
                      refine tw_castS (ci := 13) rfl dX10_isSoundNow_118 w_1336 f541 ?_
                      refine tw_astore_n [(3, .ref y531), (0, .ref x), (1, .int (nI k1)), (2, .ref it490)] dX10_isSoundNow_121 rfl (by decide) rfl ?_
                      refine tw_aload_n 0 dX10_isSoundNow_122 rfl rfl ?_
                      refine tw_get (v := .ref p_545) rfl in_13 3 dX10_isSoundNow_123 w_1348 rfl (by decide) f541 rfl ?_
                      refine tw_iload_n 2 dX10_isSoundNow_126 rfl rfl ?_
                      obtain ⟨e549, f550, F551, rfl⟩ := sp537.1 p_545 31 k546 (by decide)
                      obtain ⟨v552, ev552⟩ : ∃ y : Int64, F551 ((nI k1)).toNatClampNeg = y := ⟨_, rfl⟩
                      refine tw_lald (v := v552) dX10_isSoundNow_127 f550 (vp_in_nI (by omega) (by decide)) ev552 ?_
                      refine tw_lconst (v := 0) dX10_isSoundNow_128 (by decide) ?_
                      refine tw_lcmp dX10_isSoundNow_129 ?_
                      refine tw_nmi (fun v553 ev553 => ?_)
                      refine tw_if_lt 152 dX10_isSoundNow_130 (by decide) (fun c554 => ?_) (fun c554 => ?_)
                      · refine tw_iconst (v := 0) dX10_isSoundNow_152 (by decide) ?_
                        exact tw_zret dX10_isSoundNow_153 rfl rfl (Or.inl ⟨_, rfl, ⟨(sp0.tr (sp436.trm n433 (sp497.trm n493 sp537))), (by unfold tw_01; decide)⟩⟩)
                      · refine tw_aload_n 0 dX10_isSoundNow_133 rfl rfl ?_
                        refine tw_get (v := .int x_542) rfl in_13 0 dX10_isSoundNow_134 w_1342 rfl (by decide) f541 rfl ?_
                        refine tw_iconst (v := -1) dX10_isSoundNow_137 (by decide) ?_
                        refine tw_icmp_ne 154 dX10_isSoundNow_138 (by decide) (fun c555 => ?_) (fun c555 => ?_)
                        · refine tw_goto 103 dX10_isSoundNow_154 (by decide) ?_
                          refine tw_lv [1, 2, 3] rfl ?_
                          exact ih503 ((j501 + 1)) (nI j501)  _ sp537 f539 zt508  (by omega) (by omega)
                        · refine tw_aload_n 0 dX10_isSoundNow_141 rfl rfl ?_
                          refine tw_get (v := .int dy_544) rfl in_13 2 dX10_isSoundNow_142 w_1346 rfl (by decide) f541 rfl ?_
                          refine tw_aload_n 1 dX10_isSoundNow_145 rfl rfl ?_
                          obtain ⟨e556, f557, th_558, td_559, ds_560, fr_561, ca_562, us_563, wo_564, cm_565, lc_566, lh_567, ld_568, rfl, k569, k570, k571, k572, k573, k574, k575, k576, k577, k578, k579, k580, k581, k582⟩ := sp537.1 x 36 kx (by decide)
                          refine tw_get (v := .int td_559) rfl in_14 1 dX10_isSoundNow_146 w_1152 rfl (by decide) f557 rfl ?_
                          refine tw_icmp_gt 154 dX10_isSoundNow_149 (by decide) (fun c583 => ?_) (fun c583 => ?_)
                          · refine tw_goto 103 dX10_isSoundNow_154 (by decide) ?_
                            refine tw_lv [1, 2, 3] rfl ?_
                            exact ih503 ((j501 + 1)) (nI j501)  _ sp537 f539 zt508  (by omega) (by omega)
                          · refine tw_iconst (v := 0) dX10_isSoundNow_152 (by decide) ?_
                            exact tw_zret dX10_isSoundNow_153 rfl rfl (Or.inl ⟨_, rfl, ⟨(sp0.tr (sp436.trm n433 (sp497.trm n493 sp537))), (by unfold tw_01; decide)⟩⟩)
                refine tw_lv [1, 2, 0] rfl ?_
                exact L504 (g.2 4 + 1) 0 (-1)  _ (tw_sp.rm sp497.1 it490) f499 z494 (by omega) (Nat.zero_le _)
              · rw [q454r]
                refine tw_if_eq 95 dX10_isSoundNow_66 (by decide) (fun c584 => absurd c584 (by decide)) (fun _ => ?_)
                refine tw_aload_n 2 dX10_isSoundNow_69 rfl rfl ?_
                have k585 : τ el451 = 27 := k452.resolve_left (fun q => absurd q454j (by rw [q.2.1]; exact Nat.not_lt_zero _))
                obtain ⟨e586, f587, ⟨F588, rfl, hc589, hc590⟩, un591⟩ := sp444.1 el451 27 k585 (by decide)
                obtain ⟨y592, hy593, ky594⟩ := hc590 j439 q454j
                refine tw_br (tw_callF (M := mX10_isSoundNow) (pc := 70) (n9 := 0) (ci := 2) tw_next ok_itNext w_1425 w_1423 (fun s H z => z.2.2.2.2.2.2.2.2.2) (by decide +kernel) dX10_isSoundNow_70 w_1420 rfl ft445 [] [] rfl rfl ⟨by decide, by decide⟩ (Nat.le_of_ble_eq_true rfl) (c_next d h443 it430 lc_408 el451 j439 (g.2 3) y592 l440 (g.1 3) F588 ft445 f450 f587 q454j hc589 hy593) ((((((((2 + 20 * (r2 + 1)) - 3) - 3) - 3) - 3) - 3) - 3) - 1) ((((((((8 + 92 * (r2 + 1)) - 14) - 14) - 14) - 14) - 14) - 14) - 4) (by omega) (by omega)) (fun r597 h596 q595 => ?_) (fun E h1 q => q.elim)
                obtain ⟨q595r, q595e⟩ := q595
                rw [q595r]
                have sp598 : tw_sp d τ (tw_rm h435 it430) g τ h596 := by rw [q595e]; exact sp444.wl tw_rm_s zt446
                have f599 : h596 it430 = some (.inr (2, [.int (nI (j439 + 1)), .int (nI j439), .int (g.1 3), .ref lc_408])) := by rw [q595e]; exact tw_up_s
                obtain ⟨e600, f601, r_602, c_603, v_604, o_605, t_606, rfl, k607, k608, k609, k610, k611⟩ := sp598.1 y592 21 ky594 (by decide)
                refine tw_castS (ci := 11) rfl dX10_isSoundNow_75 w_1212 f601 ?_
                refine tw_astore_n [(3, .ref y592), (0, .ref x), (1, .int (nI k1)), (2, .ref it430)] dX10_isSoundNow_78 rfl (by decide) rfl ?_
                refine tw_aload_n 0 dX10_isSoundNow_79 rfl rfl ?_
                refine tw_get (v := .ref v_604) rfl in_11 2 dX10_isSoundNow_80 w_1221 rfl (by decide) f601 rfl ?_
                refine tw_iload_n 2 dX10_isSoundNow_83 rfl rfl ?_
                obtain ⟨e612, f613, F614, rfl⟩ := sp598.1 v_604 31 k607 (by decide)
                obtain ⟨v615, ev615⟩ : ∃ y : Int64, F614 ((nI k1)).toNatClampNeg = y := ⟨_, rfl⟩
                refine tw_lald (v := v615) dX10_isSoundNow_84 f613 (vp_in_nI (by omega) (by decide)) ev615 ?_
                refine tw_lconst (v := 0) dX10_isSoundNow_85 (by decide) ?_
                refine tw_lcmp dX10_isSoundNow_86 ?_
                refine tw_nmi (fun v616 ev616 => ?_)
                refine tw_if_ge 92 dX10_isSoundNow_87 (by decide) (fun c617 => ?_) (fun c617 => ?_)
                · refine tw_goto 60 dX10_isSoundNow_92 (by decide) ?_
                  refine tw_lv [1, 2, 3] rfl ?_
                  exact ih441 ((j439 + 1)) (nI j439)  _ sp598 f599 zt446  (by omega) (by omega)
                · refine tw_iconst (v := 0) dX10_isSoundNow_90 (by decide) ?_
                  exact tw_zret dX10_isSoundNow_91 rfl rfl (Or.inl ⟨_, rfl, ⟨(sp0.tr (sp436.trm n433 sp598)), (by unfold tw_01; decide)⟩⟩)
          refine tw_lv [1, 2, 0] rfl ?_
          exact L442 (g.2 3 + 1) 0 (-1)  _ (tw_sp.rm sp436.1 it430) f437 z434 (by omega) (Nat.zero_le _)
        · refine tw_iconst (v := 0) dX10_isSoundNow_50 (by decide) ?_
          exact tw_zret dX10_isSoundNow_51 rfl rfl (Or.inl ⟨_, rfl, ⟨(sp0.tr sp396), (by unfold tw_01; decide)⟩⟩)
  refine tw_lv [1, 0] rfl ?_
  refine tw_less (c2 := 2 + 20 * 3) (n2 := 8 + 92 * 3) (by omega) (by omega) ?_
  exact L4 3 0  _ (tw_sp.rf sp0.1) (by omega) (by omega)

set_option maxHeartbeats 4000000 in
set_option maxRecDepth 100000 in
theorem c_X10_isSound (d : tw_D) (g : tw_G) (τ : tw_K) (h : tw_H) (hw : tw_wt d g τ h) (x : Nat) (kx : τ x = 36) : tw_Ct d mX10_isSound 62 284 [.ref x] h (tw_qi (fun r h1 => tw_sp d τ h g τ h1 ∧ tw_01 r) tw_nx) := by
  refine tw_of (by decide +kernel) (Nat.le_of_ble_eq_true rfl) ?_
  show tw_W d mX10_isSound _ 0 [(0, .ref x)] [] h 62 284
  have sp0 := tw_sp.rf hw
  refine tw_aload_n 0 dX10_isSound_0 rfl rfl ?_
  refine tw_iconst (v := 0) dX10_isSound_1 (by decide) ?_
  obtain ⟨e1, f2, th_3, td_4, ds_5, fr_6, ca_7, us_8, wo_9, cm_10, lc_11, lh_12, ld_13, rfl, k14, k15, k16, k17, k18, k19, k20, k21, k22, k23, k24, k25, k26, k27⟩ := sp0.1 x 36 kx (by decide)
  refine tw_put rfl in_14 tyX10 tyX10_ok nmX10 0 dX10_isSound_2 w_1151 rfl (by decide) f2 rfl rfl rfl rfl (Nat.le_of_ble_eq_true rfl) [.int 0, .int td_4, .int (g.1 1), .ref ds_5, .ref fr_6, .ref ca_7, .ref us_8, .ref wo_9, .ref cm_10, .ref lc_11, .ref lh_12, .ref ld_13] rfl ?_
  obtain ⟨h28, eh28⟩ : ∃ z : tw_H, z = tw_up h x (.inr (14, [.int 0, .int td_4, .int (g.1 1), .ref ds_5, .ref fr_6, .ref ca_7, .ref us_8, .ref wo_9, .ref cm_10, .ref lc_11, .ref lh_12, .ref ld_13])) := ⟨_, rfl⟩
  rw [← eh28]
  have sp29 : tw_sp d τ h g τ h28 := by rw [eh28]; exact sp0.set kx (by decide) ⟨0, td_4, ds_5, fr_6, ca_7, us_8, wo_9, cm_10, lc_11, lh_12, ld_13, rfl, k14, k15, k16, k17, k18, k19, k20, k21, k22, k23, k24, k25, k26, (by decide)⟩
  have f30 : h28 x = some (.inr (14, [.int 0, .int td_4, .int (g.1 1), .ref ds_5, .ref fr_6, .ref ca_7, .ref us_8, .ref wo_9, .ref cm_10, .ref lc_11, .ref lh_12, .ref ld_13])) := by rw [eh28]; exact tw_up_s
  refine tw_aload_n 0 dX10_isSound_5 rfl rfl ?_
  refine tw_bi (tw_callV (M := mX10_isSound) (pc := 6) okX10_isSoundNow dX10_isSound_6 w_1589 rfl f30 [] [] rfl rfl ⟨by decide, by decide⟩ (Nat.le_of_ble_eq_true rfl) (c_X10_isSoundNow d g τ h28 sp29.1 x kx) 0 0 (Nat.le_of_ble_eq_true rfl) (Nat.le_of_ble_eq_true rfl)) (fun r33 h32 q31 => ?_) (fun E h1 q => q.elim)
  obtain ⟨q31s, p35⟩ := q31
  have sp34 := sp29.tr q31s
  exact tw_zret dX10_isSound_9 rfl (tw_nar01 p35) (Or.inl ⟨_, rfl, ⟨sp34, p35⟩⟩)

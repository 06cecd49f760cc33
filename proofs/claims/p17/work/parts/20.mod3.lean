/-! the class's methods over the typed heap. Laid by wip/p5/mkclass.py. -/
set_option maxHeartbeats 4000000 in
set_option maxRecDepth 100000 in
theorem c_X10_trip (d : tw_D) (g : tw_G) (τ : tw_K) (h : tw_H) (hw : tw_wt d g τ h) (x : Nat) (kx : τ x = 36) (a : Int32) (b : Int32) (m : Int32) (gr : Int32) : tw_Ct d mX10_trip 0 0 [.ref x, .int a, .int b, .int m, .int gr] h (tw_qi (fun r h1 => tw_sp d τ h g τ h1) tw_nx) := by
  refine tw_of (by decide +kernel) (Nat.le_of_ble_eq_true rfl) ?_
  show tw_W d mX10_trip _ 0 [(0, .ref x), (1, .int a), (2, .int b), (3, .int m), (4, .int gr)] [] h 0 0
  have sp0 := tw_sp.rf hw
  refine tw_aload_n 0 dX10_trip_0 rfl rfl ?_
  refine tw_aload_n 0 dX10_trip_1 rfl rfl ?_
  refine tw_iload_n 1 dX10_trip_2 rfl rfl ?_
  obtain ⟨e1, f2, th_3, td_4, ds_5, fr_6, ca_7, us_8, wo_9, cm_10, lc_11, lh_12, ld_13, rfl, k14, k15, k16, k17, k18, k19, k20, k21, k22, k23, k24, k25, k26, k27, k28, k29, k30, k31⟩ := sp0.1 x 36 kx (by decide)
  refine tw_bi (tw_callV (M := mX10_trip) (pc := 3) okX10_isNoCountry dX10_trip_3 w_1292 rfl f2 [.int a] [.ref x] rfl rfl ⟨by decide, by decide⟩ (Nat.le_of_ble_eq_true rfl) (c_X10_isNoCountry d g τ h sp0.1 x kx a) 0 0 (Nat.le_of_ble_eq_true rfl) (Nat.le_of_ble_eq_true rfl)) (fun r34 h33 q32 => ?_) (fun E h1 q => q.elim)
  obtain ⟨q32e, q32d⟩ := q32
  rw [q32e]
  rcases q32d with q32r | ⟨q32r, j35, q32j, q32k⟩
  · rw [q32r]
    refine tw_if_ne 17 dX10_trip_6 (by decide) (fun _ => ?_) (fun c36 => absurd c36 (by decide))
    refine tw_iconst (v := 1) dX10_trip_17 (by decide) ?_
    refine tw_goto 22 dX10_trip_18 (by decide) ?_
    refine tw_iconst (v := 1) dX10_trip_22 (by decide) ?_
    refine tw_bi (tw_callV (M := mX10_trip) (pc := 23) okX10_start dX10_trip_23 w_1200 rfl f2 [.int 1, .int 1] [] rfl rfl ⟨by decide, by decide⟩ (Nat.le_of_ble_eq_true rfl) (c_X10_start d g τ h sp0.1 x kx 1 1 (by decide)) 0 0 (Nat.le_of_ble_eq_true rfl) (Nat.le_of_ble_eq_true rfl)) (fun r39 h38 q37 => ?_) (fun E h1 q => q.elim)
    obtain ⟨e40, he41, hs42, hr43, h344⟩ := q37
    have sp45 : tw_sp d τ h g τ h38 := by rw [he41]; exact sp0.set kx (by decide) hs42
    rcases hr43 with ei46 | ⟨ei46, ei46b⟩
    · rw [ei46]
      refine tw_if_ne 65 dX10_trip_26 (by decide) (fun _ => ?_) (fun c47 => absurd c47 (by decide))
      refine tw_iconst (v := 0) dX10_trip_65 (by decide) ?_
      refine tw_goto 80 dX10_trip_66 (by decide) ?_
      exact tw_iret dX10_trip_80 rfl (Or.inl ⟨_, rfl, sp45⟩)
    · exact absurd ei46b (by decide)
  · rw [q32r]
    subst q32k
    refine tw_if_ne 17 dX10_trip_6 (by decide) (fun c48 => absurd (by decide) c48) (fun _ => ?_)
    refine tw_aload_n 0 dX10_trip_9 rfl rfl ?_
    refine tw_iload_n 2 dX10_trip_10 rfl rfl ?_
    refine tw_bi (tw_callV (M := mX10_trip) (pc := 11) okX10_isNoCountry dX10_trip_11 w_1292 rfl f2 [.int b] [.ref x] rfl rfl ⟨by decide, by decide⟩ (Nat.le_of_ble_eq_true rfl) (c_X10_isNoCountry d g τ h sp0.1 x kx b) 0 0 (Nat.le_of_ble_eq_true rfl) (Nat.le_of_ble_eq_true rfl)) (fun r51 h50 q49 => ?_) (fun E h1 q => q.elim)
    obtain ⟨q49e, q49d⟩ := q49
    rw [q49e]
    rcases q49d with q49r | ⟨q49r, j52, q49j, q49k⟩
    · rw [q49r]
      refine tw_if_eq 21 dX10_trip_14 (by decide) (fun c53 => absurd c53 (by decide)) (fun _ => ?_)
      refine tw_iconst (v := 1) dX10_trip_17 (by decide) ?_
      refine tw_goto 22 dX10_trip_18 (by decide) ?_
      refine tw_iconst (v := 1) dX10_trip_22 (by decide) ?_
      refine tw_bi (tw_callV (M := mX10_trip) (pc := 23) okX10_start dX10_trip_23 w_1200 rfl f2 [.int 1, .int 1] [] rfl rfl ⟨by decide, by decide⟩ (Nat.le_of_ble_eq_true rfl) (c_X10_start d g τ h sp0.1 x kx 1 1 (by decide)) 0 0 (Nat.le_of_ble_eq_true rfl) (Nat.le_of_ble_eq_true rfl)) (fun r56 h55 q54 => ?_) (fun E h1 q => q.elim)
      obtain ⟨e57, he58, hs59, hr60, h361⟩ := q54
      have sp62 : tw_sp d τ h g τ h55 := by rw [he58]; exact sp0.set kx (by decide) hs59
      rcases hr60 with ei63 | ⟨ei63, ei63b⟩
      · rw [ei63]
        refine tw_if_ne 65 dX10_trip_26 (by decide) (fun _ => ?_) (fun c64 => absurd c64 (by decide))
        refine tw_iconst (v := 0) dX10_trip_65 (by decide) ?_
        refine tw_goto 80 dX10_trip_66 (by decide) ?_
        exact tw_iret dX10_trip_80 rfl (Or.inl ⟨_, rfl, sp62⟩)
      · exact absurd ei63b (by decide)
    · rw [q49r]
      subst q49k
      refine tw_if_eq 21 dX10_trip_14 (by decide) (fun _ => ?_) (fun c65 => absurd (by decide) c65)
      refine tw_iconst (v := 0) dX10_trip_21 (by decide) ?_
      refine tw_iconst (v := 1) dX10_trip_22 (by decide) ?_
      refine tw_bi (tw_callV (M := mX10_trip) (pc := 23) okX10_start dX10_trip_23 w_1200 rfl f2 [.int 0, .int 1] [] rfl rfl ⟨by decide, by decide⟩ (Nat.le_of_ble_eq_true rfl) (c_X10_start d g τ h sp0.1 x kx 0 1 (by decide)) 0 0 (Nat.le_of_ble_eq_true rfl) (Nat.le_of_ble_eq_true rfl)) (fun r68 h67 q66 => ?_) (fun E h1 q => q.elim)
      obtain ⟨e69, he70, hs71, hr72, h373⟩ := q66
      have sp74 : tw_sp d τ h g τ h67 := by rw [he70]; exact sp0.set kx (by decide) hs71
      rcases hr72 with ei75 | ⟨ei75, ei75b⟩
      · rw [ei75]
        refine tw_if_ne 65 dX10_trip_26 (by decide) (fun _ => ?_) (fun c76 => absurd c76 (by decide))
        refine tw_iconst (v := 0) dX10_trip_65 (by decide) ?_
        refine tw_goto 80 dX10_trip_66 (by decide) ?_
        exact tw_iret dX10_trip_80 rfl (Or.inl ⟨_, rfl, sp74⟩)
      · rw [ei75]
        refine tw_if_ne 65 dX10_trip_26 (by decide) (fun c77 => absurd (by decide) c77) (fun _ => ?_)
        refine tw_aload_n 0 dX10_trip_29 rfl rfl ?_
        refine tw_iload_n 1 dX10_trip_30 rfl rfl ?_
        refine tw_iload_n 2 dX10_trip_31 rfl rfl ?_
        refine tw_icmp_eq 53 dX10_trip_32 (by decide) (fun c78 => ?_) (fun c78 => ?_)
        · refine tw_iconst (v := 1) dX10_trip_53 (by decide) ?_
          refine tw_goto 58 dX10_trip_54 (by decide) ?_
          refine tw_iconst (v := 2) dX10_trip_58 (by decide) ?_
          obtain ⟨e79, f80, th_81, td_82, ds_83, fr_84, ca_85, us_86, wo_87, cm_88, lc_89, lh_90, ld_91, rfl, k92, k93, k94, k95, k96, k97, k98, k99, k100, k101, k102, k103, k104, k105, k106, k107, k108, k109⟩ := sp74.1 x 36 kx (by decide)
          refine tw_bi (tw_callV (M := mX10_trip) (pc := 59) okX10_refuse dX10_trip_59 w_1204 rfl f80 [.int 1, .int 2] [] rfl rfl ⟨by decide, by decide⟩ (Nat.le_of_ble_eq_true rfl) (c_X10_refuse d g τ h67 sp74.1 x kx 1 2 (by decide)) 0 0 (Nat.le_of_ble_eq_true rfl) (Nat.le_of_ble_eq_true rfl)) (fun r112 h111 q110 => ?_) (fun E h1 q => q.elim)
          obtain ⟨e113, he114, hs115, hr116, h3117⟩ := q110
          have sp118 : tw_sp d τ h g τ h111 := by rw [he114]; exact sp74.set kx (by decide) hs115
          rcases hr116 with ei119 | ⟨ei119, ei119b⟩
          · rw [ei119]
            refine tw_if_eq 69 dX10_trip_62 (by decide) (fun c120 => absurd c120 (by decide)) (fun _ => ?_)
            refine tw_iconst (v := 0) dX10_trip_65 (by decide) ?_
            refine tw_goto 80 dX10_trip_66 (by decide) ?_
            exact tw_iret dX10_trip_80 rfl (Or.inl ⟨_, rfl, sp118⟩)
          · exact absurd ei119b (by decide)
        · refine tw_iload_n 3 dX10_trip_35 rfl rfl ?_
          refine tw_bi (tw_callS (M := mX10_trip) (pc := 36) okX10_isNoMetal dX10_trip_36 w_1312 [.int m] [.ref x] rfl rfl ⟨by decide, by decide⟩ (Nat.le_of_ble_eq_true rfl) (c_X10_isNoMetal d g τ h67 sp74.1 m) 0 0 (Nat.le_of_ble_eq_true rfl) (Nat.le_of_ble_eq_true rfl)) (fun r123 h122 q121 => ?_) (fun E h1 q => q.elim)
          obtain ⟨q121e, q121d⟩ := q121
          rw [q121e]
          rcases q121d with q121r | ⟨q121r, q121m⟩
          · rw [q121r]
            refine tw_if_ne 53 dX10_trip_39 (by decide) (fun _ => ?_) (fun c124 => absurd c124 (by decide))
            refine tw_iconst (v := 1) dX10_trip_53 (by decide) ?_
            refine tw_goto 58 dX10_trip_54 (by decide) ?_
            refine tw_iconst (v := 2) dX10_trip_58 (by decide) ?_
            obtain ⟨e125, f126, th_127, td_128, ds_129, fr_130, ca_131, us_132, wo_133, cm_134, lc_135, lh_136, ld_137, rfl, k138, k139, k140, k141, k142, k143, k144, k145, k146, k147, k148, k149, k150, k151, k152, k153, k154, k155⟩ := sp74.1 x 36 kx (by decide)
            refine tw_bi (tw_callV (M := mX10_trip) (pc := 59) okX10_refuse dX10_trip_59 w_1204 rfl f126 [.int 1, .int 2] [] rfl rfl ⟨by decide, by decide⟩ (Nat.le_of_ble_eq_true rfl) (c_X10_refuse d g τ h67 sp74.1 x kx 1 2 (by decide)) 0 0 (Nat.le_of_ble_eq_true rfl) (Nat.le_of_ble_eq_true rfl)) (fun r158 h157 q156 => ?_) (fun E h1 q => q.elim)
            obtain ⟨e159, he160, hs161, hr162, h3163⟩ := q156
            have sp164 : tw_sp d τ h g τ h157 := by rw [he160]; exact sp74.set kx (by decide) hs161
            rcases hr162 with ei165 | ⟨ei165, ei165b⟩
            · rw [ei165]
              refine tw_if_eq 69 dX10_trip_62 (by decide) (fun c166 => absurd c166 (by decide)) (fun _ => ?_)
              refine tw_iconst (v := 0) dX10_trip_65 (by decide) ?_
              refine tw_goto 80 dX10_trip_66 (by decide) ?_
              exact tw_iret dX10_trip_80 rfl (Or.inl ⟨_, rfl, sp164⟩)
            · exact absurd ei165b (by decide)
          · rw [q121r]
            refine tw_if_ne 53 dX10_trip_39 (by decide) (fun c167 => absurd (by decide) c167) (fun _ => ?_)
            refine tw_iload 4 dX10_trip_42 rfl ?_
            refine tw_iconst (v := 0) dX10_trip_44 (by decide) ?_
            refine tw_ldc (v := 99999) dX10_trip_45 w_1199 ?_
            refine tw_bi (tw_callS (M := mX10_trip) (pc := 47) okX10_isIn dX10_trip_47 w_1196 [.int gr, .int 0, .int 99999] [.ref x] rfl rfl ⟨by decide, by decide⟩ (Nat.le_of_ble_eq_true rfl) (c_X10_isIn d g τ h67 sp74.1 gr 0 99999) 0 0 (Nat.le_of_ble_eq_true rfl) (Nat.le_of_ble_eq_true rfl)) (fun r170 h169 q168 => ?_) (fun E h1 q => q.elim)
            obtain ⟨q168e, q168d⟩ := q168
            rw [q168e]
            rcases q168d with ⟨q168r, q168n⟩ | ⟨q168r, q168a, q168b⟩
            · rw [q168r]
              refine tw_if_ne 57 dX10_trip_50 (by decide) (fun c171 => absurd (by decide) c171) (fun _ => ?_)
              refine tw_iconst (v := 1) dX10_trip_53 (by decide) ?_
              refine tw_goto 58 dX10_trip_54 (by decide) ?_
              refine tw_iconst (v := 2) dX10_trip_58 (by decide) ?_
              obtain ⟨e172, f173, th_174, td_175, ds_176, fr_177, ca_178, us_179, wo_180, cm_181, lc_182, lh_183, ld_184, rfl, k185, k186, k187, k188, k189, k190, k191, k192, k193, k194, k195, k196, k197, k198, k199, k200, k201, k202⟩ := sp74.1 x 36 kx (by decide)
              refine tw_bi (tw_callV (M := mX10_trip) (pc := 59) okX10_refuse dX10_trip_59 w_1204 rfl f173 [.int 1, .int 2] [] rfl rfl ⟨by decide, by decide⟩ (Nat.le_of_ble_eq_true rfl) (c_X10_refuse d g τ h67 sp74.1 x kx 1 2 (by decide)) 0 0 (Nat.le_of_ble_eq_true rfl) (Nat.le_of_ble_eq_true rfl)) (fun r205 h204 q203 => ?_) (fun E h1 q => q.elim)
              obtain ⟨e206, he207, hs208, hr209, h3210⟩ := q203
              have sp211 : tw_sp d τ h g τ h204 := by rw [he207]; exact sp74.set kx (by decide) hs208
              rcases hr209 with ei212 | ⟨ei212, ei212b⟩
              · rw [ei212]
                refine tw_if_eq 69 dX10_trip_62 (by decide) (fun c213 => absurd c213 (by decide)) (fun _ => ?_)
                refine tw_iconst (v := 0) dX10_trip_65 (by decide) ?_
                refine tw_goto 80 dX10_trip_66 (by decide) ?_
                exact tw_iret dX10_trip_80 rfl (Or.inl ⟨_, rfl, sp211⟩)
              · exact absurd ei212b (by decide)
            · rw [q168r]
              refine tw_if_ne 57 dX10_trip_50 (by decide) (fun _ => ?_) (fun c214 => absurd c214 (by decide))
              refine tw_iconst (v := 0) dX10_trip_57 (by decide) ?_
              refine tw_iconst (v := 2) dX10_trip_58 (by decide) ?_
              obtain ⟨e215, f216, th_217, td_218, ds_219, fr_220, ca_221, us_222, wo_223, cm_224, lc_225, lh_226, ld_227, rfl, k228, k229, k230, k231, k232, k233, k234, k235, k236, k237, k238, k239, k240, k241, k242, k243, k244, k245⟩ := sp74.1 x 36 kx (by decide)
              refine tw_bi (tw_callV (M := mX10_trip) (pc := 59) okX10_refuse dX10_trip_59 w_1204 rfl f216 [.int 0, .int 2] [] rfl rfl ⟨by decide, by decide⟩ (Nat.le_of_ble_eq_true rfl) (c_X10_refuse d g τ h67 sp74.1 x kx 0 2 (by decide)) 0 0 (Nat.le_of_ble_eq_true rfl) (Nat.le_of_ble_eq_true rfl)) (fun r248 h247 q246 => ?_) (fun E h1 q => q.elim)
              obtain ⟨e249, he250, hs251, hr252, h3253⟩ := q246
              have sp254 : tw_sp d τ h g τ h247 := by rw [he250]; exact sp74.set kx (by decide) hs251
              rcases hr252 with ei255 | ⟨ei255, ei255b⟩
              · rw [ei255]
                refine tw_if_eq 69 dX10_trip_62 (by decide) (fun c256 => absurd c256 (by decide)) (fun _ => ?_)
                refine tw_iconst (v := 0) dX10_trip_65 (by decide) ?_
                refine tw_goto 80 dX10_trip_66 (by decide) ?_
                exact tw_iret dX10_trip_80 rfl (Or.inl ⟨_, rfl, sp254⟩)
              · rw [ei255]
                refine tw_if_eq 69 dX10_trip_62 (by decide) (fun _ => ?_) (fun c257 => absurd (by decide) c257)
                refine tw_aload_n 0 dX10_trip_69 rfl rfl ?_
                refine tw_iload_n 1 dX10_trip_70 rfl rfl ?_
                refine tw_iload_n 2 dX10_trip_71 rfl rfl ?_
                refine tw_iload_n 3 dX10_trip_72 rfl rfl ?_
                refine tw_iload 4 dX10_trip_73 rfl ?_
                refine tw_i2l dX10_trip_75 ?_
                refine tw_nml (fun v258 ev258 => ?_)
                obtain ⟨e259, f260, th_261, td_262, ds_263, fr_264, ca_265, us_266, wo_267, cm_268, lc_269, lh_270, ld_271, rfl, k272, k273, k274, k275, k276, k277, k278, k279, k280, k281, k282, k283, k284, k285, k286, k287, k288, k289⟩ := sp254.1 x 36 kx (by decide)
                refine tw_bl (tw_callV (M := mX10_trip) (pc := 76) okX10_tripNow dX10_trip_76 w_1557 rfl f260 [.int (nI j35), .int (nI j52), .int m, .long v258] [] rfl rfl ⟨by decide, by decide⟩ (Nat.le_of_ble_eq_true rfl) (c_X10_tripNow d g τ h247 sp254.1 x kx m v258 j35 j52 (by omega) (by omega)) 0 0 (Nat.le_of_ble_eq_true rfl) (Nat.le_of_ble_eq_true rfl)) (fun r292 h291 q290 => ?_) (fun E h1 q => q.elim)
                rw [q290]
                refine tw_l2i dX10_trip_79 ?_
                refine tw_nmi (fun v293 ev293 => ?_)
                exact tw_iret dX10_trip_80 rfl (Or.inl ⟨_, rfl, sp254⟩)

set_option maxHeartbeats 4000000 in
set_option maxRecDepth 100000 in
theorem c_X10_bestTripNow (d : tw_D) (g : tw_G) (τ : tw_K) (h : tw_H) (hw : tw_wt d g τ h) (x : Nat) (kx : τ x = 36) (m : Int32) (gr : Int32) (a : Nat) (ha : a < g.2 3) : tw_Ct d mX10_bestTripNow 0 0 [.ref x, .int (nI a), .int m, .int gr] h (tw_qi (fun r h1 => h1 = h) tw_nx) := by
  refine tw_of (by decide +kernel) (Nat.le_of_ble_eq_true rfl) ?_
  show tw_W d mX10_bestTripNow _ 0 [(0, .ref x), (1, .int (nI a)), (2, .int m), (3, .int gr)] [] h 0 0
  have sp0 := tw_sp.rf hw
  refine tw_iconst (v := -1) dX10_bestTripNow_0 (by decide) ?_
  refine tw_istore [(4, .int (-1)), (0, .ref x), (1, .int (nI a)), (2, .int m), (3, .int gr)] dX10_bestTripNow_1 (by decide) rfl ?_
  refine tw_iconst (v := 0) dX10_bestTripNow_3 (by decide) ?_
  refine tw_istore [(5, .int 0), (4, .int (-1)), (0, .ref x), (1, .int (nI a)), (2, .int m), (3, .int gr)] dX10_bestTripNow_4 (by decide) rfl ?_
  have L5 : ∀ (r3 k2 : Nat) (x1 : Int32) (li8 : (x1 = -1 ∨ ∃ i, i < g.2 3 ∧ x1 = nI i)), (g.2 3) + 1 ≤ k2 + r3 → k2 ≤ (g.2 3) → tw_W d mX10_bestTripNow (tw_qi (fun r h1 => h1 = h) tw_nx) 6 [(0, .ref x), (1, .int (nI a)), (2, .int m), (3, .int gr), (4, .int x1), (5, .int (nI k2))] [] h 0 0 := by
    intro r3
    induction r3 with
    | zero => intro k2 x1 li8 hk9 hk10; exact absurd hk9 (by omega)
    | succ r3 ih4 =>
      intro k2 x1 li8 hk9 hk10
      refine tw_iload 5 dX10_bestTripNow_6 rfl ?_
      refine tw_aload_n 0 dX10_bestTripNow_8 rfl rfl ?_
      obtain ⟨e11, f12, th_13, td_14, ds_15, fr_16, ca_17, us_18, wo_19, cm_20, lc_21, lh_22, ld_23, rfl, k24, k25, k26, k27, k28, k29, k30, k31, k32, k33, k34, k35, k36, k37, k38, k39, k40, k41⟩ := sp0.1 x 36 kx (by decide)
      refine tw_get (v := .ref lc_21) rfl in_14 9 dX10_bestTripNow_9 w_1160 rfl (by decide) f12 rfl ?_
      obtain ⟨e42, f43, ⟨el44, rfl, k45⟩, k46⟩ := sp0.1 lc_21 24 k30 (by decide)
      refine tw_bi (tw_callV (M := mX10_bestTripNow) (pc := 12) okJx4a65c_size_8abf5 dX10_bestTripNow_12 w_1208 rfl f43 [] [.int (nI k2)] rfl rfl ⟨by decide, by decide⟩ (Nat.le_of_ble_eq_true rfl) (c24_size d g τ h sp0.1 lc_21 k30) 0 0 (Nat.le_of_ble_eq_true rfl) (Nat.le_of_ble_eq_true rfl)) (fun r49 h48 q47 => ?_) (fun E h1 q => q.elim)
      obtain ⟨q47e, q47r⟩ := q47
      rw [q47e, q47r]
      refine tw_icmp_ge 83 dX10_bestTripNow_15 (by decide) (fun c50 => ?_) (fun c50 => ?_)
      · refine tw_iload 4 dX10_bestTripNow_83 rfl ?_
        exact tw_iret dX10_bestTripNow_85 rfl (Or.inl ⟨_, rfl, rfl⟩)
      · have kl51 : k2 < (g.2 3) := tw_klt (N := (g.2 3)) c50 hk10 (by omega)
        refine tw_iload 5 dX10_bestTripNow_18 rfl ?_
        refine tw_iload_n 1 dX10_bestTripNow_20 rfl rfl ?_
        refine tw_icmp_eq 77 dX10_bestTripNow_21 (by decide) (fun c52 => ?_) (fun c52 => ?_)
        · obtain ⟨v53, ev53⟩ : ∃ y : Int32, y = (nI k2) + 1 := ⟨_, rfl⟩
          refine tw_iinc [(5, .int v53), (0, .ref x), (1, .int (nI a)), (2, .int m), (3, .int gr), (4, .int x1)] 5 dX10_bestTripNow_77 rfl (by rw [ev53]; rfl) (by decide) rfl ?_
          refine tw_goto 6 dX10_bestTripNow_80 (by decide) ?_
          have qv53 := tw_nI3 ev53
          rw [qv53]
          refine tw_lv [1, 2, 3, 4, 5, 0] rfl ?_
          exact ih4 (k2 + 1) x1 (li8) (by omega) (by omega)
        · refine tw_aload_n 0 dX10_bestTripNow_24 rfl rfl ?_
          refine tw_iload_n 1 dX10_bestTripNow_25 rfl rfl ?_
          refine tw_iload 5 dX10_bestTripNow_26 rfl ?_
          refine tw_iload_n 2 dX10_bestTripNow_28 rfl rfl ?_
          refine tw_iload_n 3 dX10_bestTripNow_29 rfl rfl ?_
          refine tw_i2l dX10_bestTripNow_30 ?_
          refine tw_nml (fun v54 ev54 => ?_)
          refine tw_bl (tw_callV (M := mX10_bestTripNow) (pc := 31) okX10_tripNow dX10_bestTripNow_31 w_1557 rfl f12 [.int (nI a), .int (nI k2), .int m, .long v54] [] rfl rfl ⟨by decide, by decide⟩ (Nat.le_of_ble_eq_true rfl) (c_X10_tripNow d g τ h sp0.1 x kx m v54 a k2 (by omega) (by omega)) 0 0 (Nat.le_of_ble_eq_true rfl) (Nat.le_of_ble_eq_true rfl)) (fun r57 h56 q55 => ?_) (fun E h1 q => q.elim)
          rw [q55]
          refine tw_iload_n 3 dX10_bestTripNow_34 rfl rfl ?_
          refine tw_i2l dX10_bestTripNow_35 ?_
          refine tw_nml (fun v58 ev58 => ?_)
          refine tw_lcmp dX10_bestTripNow_36 ?_
          refine tw_nmi (fun v59 ev59 => ?_)
          refine tw_if_gt 43 dX10_bestTripNow_37 (by decide) (fun c60 => ?_) (fun c60 => ?_)
          · refine tw_iload 4 dX10_bestTripNow_43 rfl ?_
            refine tw_iconst (v := -1) dX10_bestTripNow_45 (by decide) ?_
            refine tw_icmp_eq 73 dX10_bestTripNow_46 (by decide) (fun c61 => ?_) (fun c61 => ?_)
            · refine tw_iload 5 dX10_bestTripNow_73 rfl ?_
              refine tw_istore [(4, .int (nI k2)), (0, .ref x), (1, .int (nI a)), (2, .int m), (3, .int gr), (5, .int (nI k2))] dX10_bestTripNow_75 (by decide) rfl ?_
              obtain ⟨v62, ev62⟩ : ∃ y : Int32, y = (nI k2) + 1 := ⟨_, rfl⟩
              refine tw_iinc [(5, .int v62), (4, .int (nI k2)), (0, .ref x), (1, .int (nI a)), (2, .int m), (3, .int gr)] 5 dX10_bestTripNow_77 rfl (by rw [ev62]; rfl) (by decide) rfl ?_
              refine tw_goto 6 dX10_bestTripNow_80 (by decide) ?_
              have qv62 := tw_nI3 ev62
              rw [qv62]
              refine tw_lv [2, 3, 4, 5, 1, 0] rfl ?_
              exact ih4 (k2 + 1) (nI k2) (Or.inr ⟨_, by omega, rfl⟩) (by omega) (by omega)
            · refine tw_aload_n 0 dX10_bestTripNow_49 rfl rfl ?_
              refine tw_iload_n 1 dX10_bestTripNow_50 rfl rfl ?_
              refine tw_iload 5 dX10_bestTripNow_51 rfl ?_
              refine tw_iload_n 2 dX10_bestTripNow_53 rfl rfl ?_
              refine tw_iload_n 3 dX10_bestTripNow_54 rfl rfl ?_
              refine tw_i2l dX10_bestTripNow_55 ?_
              refine tw_nml (fun v63 ev63 => ?_)
              refine tw_bl (tw_callV (M := mX10_bestTripNow) (pc := 56) okX10_tripNow dX10_bestTripNow_56 w_1557 rfl f12 [.int (nI a), .int (nI k2), .int m, .long v63] [] rfl rfl ⟨by decide, by decide⟩ (Nat.le_of_ble_eq_true rfl) (c_X10_tripNow d g τ h sp0.1 x kx m v63 a k2 (by omega) (by omega)) 0 0 (Nat.le_of_ble_eq_true rfl) (Nat.le_of_ble_eq_true rfl)) (fun r66 h65 q64 => ?_) (fun E h1 q => q.elim)
              rw [q64]
              refine tw_aload_n 0 dX10_bestTripNow_59 rfl rfl ?_
              refine tw_iload_n 1 dX10_bestTripNow_60 rfl rfl ?_
              refine tw_iload 4 dX10_bestTripNow_61 rfl ?_
              refine tw_iload_n 2 dX10_bestTripNow_63 rfl rfl ?_
              refine tw_iload_n 3 dX10_bestTripNow_64 rfl rfl ?_
              refine tw_i2l dX10_bestTripNow_65 ?_
              refine tw_nml (fun v67 ev67 => ?_)
              obtain ⟨j68, hj69, ej70⟩ := li8.resolve_left c61
              subst ej70
              refine tw_bl (tw_callV (M := mX10_bestTripNow) (pc := 66) okX10_tripNow dX10_bestTripNow_66 w_1557 rfl f12 [.int (nI a), .int (nI j68), .int m, .long v67] [.long r66] rfl rfl ⟨by decide, by decide⟩ (Nat.le_of_ble_eq_true rfl) (c_X10_tripNow d g τ h sp0.1 x kx m v67 a j68 (by omega) (by omega)) 0 0 (Nat.le_of_ble_eq_true rfl) (Nat.le_of_ble_eq_true rfl)) (fun r73 h72 q71 => ?_) (fun E h1 q => q.elim)
              rw [q71]
              refine tw_lcmp dX10_bestTripNow_69 ?_
              refine tw_nmi (fun v74 ev74 => ?_)
              refine tw_if_le 77 dX10_bestTripNow_70 (by decide) (fun c75 => ?_) (fun c75 => ?_)
              · obtain ⟨v76, ev76⟩ : ∃ y : Int32, y = (nI k2) + 1 := ⟨_, rfl⟩
                refine tw_iinc [(5, .int v76), (0, .ref x), (1, .int (nI a)), (2, .int m), (3, .int gr), (4, .int (nI j68))] 5 dX10_bestTripNow_77 rfl (by rw [ev76]; rfl) (by decide) rfl ?_
                refine tw_goto 6 dX10_bestTripNow_80 (by decide) ?_
                have qv76 := tw_nI3 ev76
                rw [qv76]
                refine tw_lv [1, 2, 3, 4, 5, 0] rfl ?_
                exact ih4 (k2 + 1) (nI j68) (Or.inr ⟨_, by omega, rfl⟩) (by omega) (by omega)
              · refine tw_iload 5 dX10_bestTripNow_73 rfl ?_
                refine tw_istore [(4, .int (nI k2)), (0, .ref x), (1, .int (nI a)), (2, .int m), (3, .int gr), (5, .int (nI k2))] dX10_bestTripNow_75 (by decide) rfl ?_
                obtain ⟨v77, ev77⟩ : ∃ y : Int32, y = (nI k2) + 1 := ⟨_, rfl⟩
                refine tw_iinc [(5, .int v77), (4, .int (nI k2)), (0, .ref x), (1, .int (nI a)), (2, .int m), (3, .int gr)] 5 dX10_bestTripNow_77 rfl (by rw [ev77]; rfl) (by decide) rfl ?_
                refine tw_goto 6 dX10_bestTripNow_80 (by decide) ?_
                have qv77 := tw_nI3 ev77
                rw [qv77]
                refine tw_lv [2, 3, 4, 5, 1, 0] rfl ?_
                exact ih4 (k2 + 1) (nI k2) (Or.inr ⟨_, by omega, rfl⟩) (by omega) (by omega)
          · refine tw_goto 77 dX10_bestTripNow_40 (by decide) ?_
            obtain ⟨v78, ev78⟩ : ∃ y : Int32, y = (nI k2) + 1 := ⟨_, rfl⟩
            refine tw_iinc [(5, .int v78), (0, .ref x), (1, .int (nI a)), (2, .int m), (3, .int gr), (4, .int x1)] 5 dX10_bestTripNow_77 rfl (by rw [ev78]; rfl) (by decide) rfl ?_
            refine tw_goto 6 dX10_bestTripNow_80 (by decide) ?_
            have qv78 := tw_nI3 ev78
            rw [qv78]
            refine tw_lv [1, 2, 3, 4, 5, 0] rfl ?_
            exact ih4 (k2 + 1) x1 (li8) (by omega) (by omega)
  refine tw_lv [2, 3, 4, 5, 1, 0] rfl ?_
  exact L5 ((g.2 3) + 1) 0 (-1) (Or.inl rfl) (by omega) (by omega)

set_option maxHeartbeats 4000000 in
set_option maxRecDepth 100000 in
theorem c_X10_bestTrip (d : tw_D) (g : tw_G) (τ : tw_K) (h : tw_H) (hw : tw_wt d g τ h) (x : Nat) (kx : τ x = 36) (a : Int32) (m : Int32) (gr : Int32) : tw_Ct d mX10_bestTrip 0 0 [.ref x, .int a, .int m, .int gr] h (tw_qi (fun r h1 => tw_sp d τ h g τ h1) tw_nx) := by
  refine tw_of (by decide +kernel) (Nat.le_of_ble_eq_true rfl) ?_
  show tw_W d mX10_bestTrip _ 0 [(0, .ref x), (1, .int a), (2, .int m), (3, .int gr)] [] h 0 0
  have sp0 := tw_sp.rf hw
  refine tw_aload_n 0 dX10_bestTrip_0 rfl rfl ?_
  refine tw_aload_n 0 dX10_bestTrip_1 rfl rfl ?_
  refine tw_iload_n 1 dX10_bestTrip_2 rfl rfl ?_
  obtain ⟨e1, f2, th_3, td_4, ds_5, fr_6, ca_7, us_8, wo_9, cm_10, lc_11, lh_12, ld_13, rfl, k14, k15, k16, k17, k18, k19, k20, k21, k22, k23, k24, k25, k26, k27, k28, k29, k30, k31⟩ := sp0.1 x 36 kx (by decide)
  refine tw_bi (tw_callV (M := mX10_bestTrip) (pc := 3) okX10_isNoCountry dX10_bestTrip_3 w_1292 rfl f2 [.int a] [.ref x] rfl rfl ⟨by decide, by decide⟩ (Nat.le_of_ble_eq_true rfl) (c_X10_isNoCountry d g τ h sp0.1 x kx a) 0 0 (Nat.le_of_ble_eq_true rfl) (Nat.le_of_ble_eq_true rfl)) (fun r34 h33 q32 => ?_) (fun E h1 q => q.elim)
  obtain ⟨q32e, q32d⟩ := q32
  rw [q32e]
  rcases q32d with q32r | ⟨q32r, j35, q32j, q32k⟩
  · rw [q32r]
    refine tw_iconst (v := 1) dX10_bestTrip_6 (by decide) ?_
    refine tw_bi (tw_callV (M := mX10_bestTrip) (pc := 7) okX10_start dX10_bestTrip_7 w_1200 rfl f2 [.int 1, .int 1] [] rfl rfl ⟨by decide, by decide⟩ (Nat.le_of_ble_eq_true rfl) (c_X10_start d g τ h sp0.1 x kx 1 1 (by decide)) 0 0 (Nat.le_of_ble_eq_true rfl) (Nat.le_of_ble_eq_true rfl)) (fun r38 h37 q36 => ?_) (fun E h1 q => q.elim)
    obtain ⟨e39, he40, hs41, hr42, h343⟩ := q36
    have sp44 : tw_sp d τ h g τ h37 := by rw [he40]; exact sp0.set kx (by decide) hs41
    rcases hr42 with ei45 | ⟨ei45, ei45b⟩
    · rw [ei45]
      refine tw_if_ne 43 dX10_bestTrip_10 (by decide) (fun _ => ?_) (fun c46 => absurd c46 (by decide))
      refine tw_iconst (v := 0) dX10_bestTrip_43 (by decide) ?_
      refine tw_goto 54 dX10_bestTrip_44 (by decide) ?_
      exact tw_iret dX10_bestTrip_54 rfl (Or.inl ⟨_, rfl, sp44⟩)
    · exact absurd ei45b (by decide)
  · rw [q32r]
    subst q32k
    refine tw_iconst (v := 1) dX10_bestTrip_6 (by decide) ?_
    refine tw_bi (tw_callV (M := mX10_bestTrip) (pc := 7) okX10_start dX10_bestTrip_7 w_1200 rfl f2 [.int 0, .int 1] [] rfl rfl ⟨by decide, by decide⟩ (Nat.le_of_ble_eq_true rfl) (c_X10_start d g τ h sp0.1 x kx 0 1 (by decide)) 0 0 (Nat.le_of_ble_eq_true rfl) (Nat.le_of_ble_eq_true rfl)) (fun r49 h48 q47 => ?_) (fun E h1 q => q.elim)
    obtain ⟨e50, he51, hs52, hr53, h354⟩ := q47
    have sp55 : tw_sp d τ h g τ h48 := by rw [he51]; exact sp0.set kx (by decide) hs52
    rcases hr53 with ei56 | ⟨ei56, ei56b⟩
    · rw [ei56]
      refine tw_if_ne 43 dX10_bestTrip_10 (by decide) (fun _ => ?_) (fun c57 => absurd c57 (by decide))
      refine tw_iconst (v := 0) dX10_bestTrip_43 (by decide) ?_
      refine tw_goto 54 dX10_bestTrip_44 (by decide) ?_
      exact tw_iret dX10_bestTrip_54 rfl (Or.inl ⟨_, rfl, sp55⟩)
    · rw [ei56]
      refine tw_if_ne 43 dX10_bestTrip_10 (by decide) (fun c58 => absurd (by decide) c58) (fun _ => ?_)
      refine tw_aload_n 0 dX10_bestTrip_13 rfl rfl ?_
      refine tw_iload_n 2 dX10_bestTrip_14 rfl rfl ?_
      refine tw_bi (tw_callS (M := mX10_bestTrip) (pc := 15) okX10_isNoMetal dX10_bestTrip_15 w_1312 [.int m] [.ref x] rfl rfl ⟨by decide, by decide⟩ (Nat.le_of_ble_eq_true rfl) (c_X10_isNoMetal d g τ h48 sp55.1 m) 0 0 (Nat.le_of_ble_eq_true rfl) (Nat.le_of_ble_eq_true rfl)) (fun r61 h60 q59 => ?_) (fun E h1 q => q.elim)
      obtain ⟨q59e, q59d⟩ := q59
      rw [q59e]
      rcases q59d with q59r | ⟨q59r, q59m⟩
      · rw [q59r]
        refine tw_if_ne 31 dX10_bestTrip_18 (by decide) (fun _ => ?_) (fun c62 => absurd c62 (by decide))
        refine tw_iconst (v := 1) dX10_bestTrip_31 (by decide) ?_
        refine tw_goto 36 dX10_bestTrip_32 (by decide) ?_
        refine tw_iconst (v := 2) dX10_bestTrip_36 (by decide) ?_
        obtain ⟨e63, f64, th_65, td_66, ds_67, fr_68, ca_69, us_70, wo_71, cm_72, lc_73, lh_74, ld_75, rfl, k76, k77, k78, k79, k80, k81, k82, k83, k84, k85, k86, k87, k88, k89, k90, k91, k92, k93⟩ := sp55.1 x 36 kx (by decide)
        refine tw_bi (tw_callV (M := mX10_bestTrip) (pc := 37) okX10_refuse dX10_bestTrip_37 w_1204 rfl f64 [.int 1, .int 2] [] rfl rfl ⟨by decide, by decide⟩ (Nat.le_of_ble_eq_true rfl) (c_X10_refuse d g τ h48 sp55.1 x kx 1 2 (by decide)) 0 0 (Nat.le_of_ble_eq_true rfl) (Nat.le_of_ble_eq_true rfl)) (fun r96 h95 q94 => ?_) (fun E h1 q => q.elim)
        obtain ⟨e97, he98, hs99, hr100, h3101⟩ := q94
        have sp102 : tw_sp d τ h g τ h95 := by rw [he98]; exact sp55.set kx (by decide) hs99
        rcases hr100 with ei103 | ⟨ei103, ei103b⟩
        · rw [ei103]
          refine tw_if_eq 47 dX10_bestTrip_40 (by decide) (fun c104 => absurd c104 (by decide)) (fun _ => ?_)
          refine tw_iconst (v := 0) dX10_bestTrip_43 (by decide) ?_
          refine tw_goto 54 dX10_bestTrip_44 (by decide) ?_
          exact tw_iret dX10_bestTrip_54 rfl (Or.inl ⟨_, rfl, sp102⟩)
        · exact absurd ei103b (by decide)
      · rw [q59r]
        refine tw_if_ne 31 dX10_bestTrip_18 (by decide) (fun c105 => absurd (by decide) c105) (fun _ => ?_)
        refine tw_iload_n 3 dX10_bestTrip_21 rfl rfl ?_
        refine tw_iconst (v := 0) dX10_bestTrip_22 (by decide) ?_
        refine tw_ldc (v := 99999) dX10_bestTrip_23 w_1199 ?_
        refine tw_bi (tw_callS (M := mX10_bestTrip) (pc := 25) okX10_isIn dX10_bestTrip_25 w_1196 [.int gr, .int 0, .int 99999] [.ref x] rfl rfl ⟨by decide, by decide⟩ (Nat.le_of_ble_eq_true rfl) (c_X10_isIn d g τ h48 sp55.1 gr 0 99999) 0 0 (Nat.le_of_ble_eq_true rfl) (Nat.le_of_ble_eq_true rfl)) (fun r108 h107 q106 => ?_) (fun E h1 q => q.elim)
        obtain ⟨q106e, q106d⟩ := q106
        rw [q106e]
        rcases q106d with ⟨q106r, q106n⟩ | ⟨q106r, q106a, q106b⟩
        · rw [q106r]
          refine tw_if_ne 35 dX10_bestTrip_28 (by decide) (fun c109 => absurd (by decide) c109) (fun _ => ?_)
          refine tw_iconst (v := 1) dX10_bestTrip_31 (by decide) ?_
          refine tw_goto 36 dX10_bestTrip_32 (by decide) ?_
          refine tw_iconst (v := 2) dX10_bestTrip_36 (by decide) ?_
          obtain ⟨e110, f111, th_112, td_113, ds_114, fr_115, ca_116, us_117, wo_118, cm_119, lc_120, lh_121, ld_122, rfl, k123, k124, k125, k126, k127, k128, k129, k130, k131, k132, k133, k134, k135, k136, k137, k138, k139, k140⟩ := sp55.1 x 36 kx (by decide)
          refine tw_bi (tw_callV (M := mX10_bestTrip) (pc := 37) okX10_refuse dX10_bestTrip_37 w_1204 rfl f111 [.int 1, .int 2] [] rfl rfl ⟨by decide, by decide⟩ (Nat.le_of_ble_eq_true rfl) (c_X10_refuse d g τ h48 sp55.1 x kx 1 2 (by decide)) 0 0 (Nat.le_of_ble_eq_true rfl) (Nat.le_of_ble_eq_true rfl)) (fun r143 h142 q141 => ?_) (fun E h1 q => q.elim)
          obtain ⟨e144, he145, hs146, hr147, h3148⟩ := q141
          have sp149 : tw_sp d τ h g τ h142 := by rw [he145]; exact sp55.set kx (by decide) hs146
          rcases hr147 with ei150 | ⟨ei150, ei150b⟩
          · rw [ei150]
            refine tw_if_eq 47 dX10_bestTrip_40 (by decide) (fun c151 => absurd c151 (by decide)) (fun _ => ?_)
            refine tw_iconst (v := 0) dX10_bestTrip_43 (by decide) ?_
            refine tw_goto 54 dX10_bestTrip_44 (by decide) ?_
            exact tw_iret dX10_bestTrip_54 rfl (Or.inl ⟨_, rfl, sp149⟩)
          · exact absurd ei150b (by decide)
        · rw [q106r]
          refine tw_if_ne 35 dX10_bestTrip_28 (by decide) (fun _ => ?_) (fun c152 => absurd c152 (by decide))
          refine tw_iconst (v := 0) dX10_bestTrip_35 (by decide) ?_
          refine tw_iconst (v := 2) dX10_bestTrip_36 (by decide) ?_
          obtain ⟨e153, f154, th_155, td_156, ds_157, fr_158, ca_159, us_160, wo_161, cm_162, lc_163, lh_164, ld_165, rfl, k166, k167, k168, k169, k170, k171, k172, k173, k174, k175, k176, k177, k178, k179, k180, k181, k182, k183⟩ := sp55.1 x 36 kx (by decide)
          refine tw_bi (tw_callV (M := mX10_bestTrip) (pc := 37) okX10_refuse dX10_bestTrip_37 w_1204 rfl f154 [.int 0, .int 2] [] rfl rfl ⟨by decide, by decide⟩ (Nat.le_of_ble_eq_true rfl) (c_X10_refuse d g τ h48 sp55.1 x kx 0 2 (by decide)) 0 0 (Nat.le_of_ble_eq_true rfl) (Nat.le_of_ble_eq_true rfl)) (fun r186 h185 q184 => ?_) (fun E h1 q => q.elim)
          obtain ⟨e187, he188, hs189, hr190, h3191⟩ := q184
          have sp192 : tw_sp d τ h g τ h185 := by rw [he188]; exact sp55.set kx (by decide) hs189
          rcases hr190 with ei193 | ⟨ei193, ei193b⟩
          · rw [ei193]
            refine tw_if_eq 47 dX10_bestTrip_40 (by decide) (fun c194 => absurd c194 (by decide)) (fun _ => ?_)
            refine tw_iconst (v := 0) dX10_bestTrip_43 (by decide) ?_
            refine tw_goto 54 dX10_bestTrip_44 (by decide) ?_
            exact tw_iret dX10_bestTrip_54 rfl (Or.inl ⟨_, rfl, sp192⟩)
          · rw [ei193]
            refine tw_if_eq 47 dX10_bestTrip_40 (by decide) (fun _ => ?_) (fun c195 => absurd (by decide) c195)
            refine tw_aload_n 0 dX10_bestTrip_47 rfl rfl ?_
            refine tw_iload_n 1 dX10_bestTrip_48 rfl rfl ?_
            refine tw_iload_n 2 dX10_bestTrip_49 rfl rfl ?_
            refine tw_iload_n 3 dX10_bestTrip_50 rfl rfl ?_
            obtain ⟨e196, f197, th_198, td_199, ds_200, fr_201, ca_202, us_203, wo_204, cm_205, lc_206, lh_207, ld_208, rfl, k209, k210, k211, k212, k213, k214, k215, k216, k217, k218, k219, k220, k221, k222, k223, k224, k225, k226⟩ := sp192.1 x 36 kx (by decide)
            refine tw_bi (tw_callV (M := mX10_bestTrip) (pc := 51) okX10_bestTripNow dX10_bestTrip_51 w_1565 rfl f197 [.int (nI j35), .int m, .int gr] [] rfl rfl ⟨by decide, by decide⟩ (Nat.le_of_ble_eq_true rfl) (c_X10_bestTripNow d g τ h185 sp192.1 x kx m gr j35 (by omega) ) 0 0 (Nat.le_of_ble_eq_true rfl) (Nat.le_of_ble_eq_true rfl)) (fun r229 h228 q227 => ?_) (fun E h1 q => q.elim)
            rw [q227]
            exact tw_iret dX10_bestTrip_54 rfl (Or.inl ⟨_, rfl, sp192⟩)

set_option maxHeartbeats 4000000 in
set_option maxRecDepth 100000 in
theorem c_X10_restNow (d : tw_D) (g : tw_G) (τ : tw_K) (h : tw_H) (hw : tw_wt d g τ h) (x : Nat) (kx : τ x = 36) (gr : Int32) : tw_Ct d mX10_restNow 0 0 [.ref x, .int gr] h (tw_qi (fun r h1 => h1 = h ∧ tw_01 r) tw_nx) := by
  refine tw_of (by decide +kernel) (Nat.le_of_ble_eq_true rfl) ?_
  show tw_W d mX10_restNow _ 0 [(0, .ref x), (1, .int gr)] [] h 0 0
  have sp0 := tw_sp.rf hw
  refine tw_iconst (v := 0) dX10_restNow_0 (by decide) ?_
  refine tw_istore_n [(2, .int 0), (0, .ref x), (1, .int gr)] dX10_restNow_1 rfl (by decide) rfl ?_
  have L4 : ∀ (r2 k1 : Nat), (g.2 3) + 1 ≤ k1 + r2 → k1 ≤ (g.2 3) → tw_W d mX10_restNow (tw_qi (fun r h1 => h1 = h ∧ tw_01 r) tw_nx) 2 [(0, .ref x), (1, .int gr), (2, .int (nI k1))] [] h 0 0 := by
    intro r2
    induction r2 with
    | zero => intro k1  hk8 hk9; exact absurd hk8 (by omega)
    | succ r2 ih3 =>
      intro k1  hk8 hk9
      refine tw_iload_n 2 dX10_restNow_2 rfl rfl ?_
      refine tw_aload_n 0 dX10_restNow_3 rfl rfl ?_
      obtain ⟨e10, f11, th_12, td_13, ds_14, fr_15, ca_16, us_17, wo_18, cm_19, lc_20, lh_21, ld_22, rfl, k23, k24, k25, k26, k27, k28, k29, k30, k31, k32, k33, k34, k35, k36, k37, k38, k39, k40⟩ := sp0.1 x 36 kx (by decide)
      refine tw_get (v := .ref lc_20) rfl in_14 9 dX10_restNow_4 w_1160 rfl (by decide) f11 rfl ?_
      obtain ⟨e41, f42, ⟨el43, rfl, k44⟩, k45⟩ := sp0.1 lc_20 24 k29 (by decide)
      refine tw_bi (tw_callV (M := mX10_restNow) (pc := 7) okJx4a65c_size_8abf5 dX10_restNow_7 w_1208 rfl f42 [] [.int (nI k1)] rfl rfl ⟨by decide, by decide⟩ (Nat.le_of_ble_eq_true rfl) (c24_size d g τ h sp0.1 lc_20 k29) 0 0 (Nat.le_of_ble_eq_true rfl) (Nat.le_of_ble_eq_true rfl)) (fun r48 h47 q46 => ?_) (fun E h1 q => q.elim)
      obtain ⟨q46e, q46r⟩ := q46
      rw [q46e, q46r]
      refine tw_icmp_ge 45 dX10_restNow_10 (by decide) (fun c49 => ?_) (fun c49 => ?_)
      · refine tw_iconst (v := 1) dX10_restNow_45 (by decide) ?_
        exact tw_zret dX10_restNow_46 rfl rfl (Or.inl ⟨_, rfl, ⟨rfl, (by unfold tw_01; decide)⟩⟩)
      · have kl50 : k1 < (g.2 3) := tw_klt (N := (g.2 3)) c49 hk9 (by omega)
        refine tw_iconst (v := 0) dX10_restNow_13 (by decide) ?_
        refine tw_istore_n [(3, .int 0), (0, .ref x), (1, .int gr), (2, .int (nI k1))] dX10_restNow_14 rfl (by decide) rfl ?_
        have L54 : ∀ (r52 k51 : Nat), 2 + 1 ≤ k51 + r52 → k51 ≤ 2 → tw_W d mX10_restNow (tw_qi (fun r h1 => h1 = h ∧ tw_01 r) tw_nx) 15 [(0, .ref x), (1, .int gr), (2, .int (nI k1)), (3, .int (nI k51))] [] h 0 0 := by
          intro r52
          induction r52 with
          | zero => intro k51  hk58 hk59; exact absurd hk58 (by omega)
          | succ r52 ih53 =>
            intro k51  hk58 hk59
            refine tw_iload_n 3 dX10_restNow_15 rfl rfl ?_
            refine tw_iconst (v := 2) dX10_restNow_16 (by decide) ?_
            refine tw_icmp_ge 39 dX10_restNow_17 (by decide) (fun c60 => ?_) (fun c60 => ?_)
            · obtain ⟨v61, ev61⟩ : ∃ y : Int32, y = (nI k1) + 1 := ⟨_, rfl⟩
              refine tw_iinc [(2, .int v61), (0, .ref x), (1, .int gr), (3, .int (nI k51))] 2 dX10_restNow_39 rfl (by rw [ev61]; rfl) (by decide) rfl ?_
              refine tw_goto 2 dX10_restNow_42 (by decide) ?_
              have qv61 := tw_nI3 ev61
              rw [qv61]
              refine tw_lv [1, 2, 0] rfl ?_
              exact ih3 (k1 + 1)  (by omega) (by omega)
            · have kl62 := tw_klt (N := 2) c60 hk59 (by decide)
              refine tw_aload_n 0 dX10_restNow_20 rfl rfl ?_
              refine tw_iload_n 2 dX10_restNow_21 rfl rfl ?_
              refine tw_iload_n 3 dX10_restNow_22 rfl rfl ?_
              refine tw_iload_n 1 dX10_restNow_23 rfl rfl ?_
              refine tw_bi (tw_callV (M := mX10_restNow) (pc := 24) okX10_bestTripNow dX10_restNow_24 w_1565 rfl f11 [.int (nI k1), .int (nI k51), .int gr] [] rfl rfl ⟨by decide, by decide⟩ (Nat.le_of_ble_eq_true rfl) (c_X10_bestTripNow d g τ h sp0.1 x kx (nI k51) gr k1 (by omega) ) 0 0 (Nat.le_of_ble_eq_true rfl) (Nat.le_of_ble_eq_true rfl)) (fun r65 h64 q63 => ?_) (fun E h1 q => q.elim)
              rw [q63]
              refine tw_iconst (v := -1) dX10_restNow_27 (by decide) ?_
              refine tw_icmp_eq 33 dX10_restNow_28 (by decide) (fun c66 => ?_) (fun c66 => ?_)
              · obtain ⟨v67, ev67⟩ : ∃ y : Int32, y = (nI k51) + 1 := ⟨_, rfl⟩
                refine tw_iinc [(3, .int v67), (0, .ref x), (1, .int gr), (2, .int (nI k1))] 3 dX10_restNow_33 rfl (by rw [ev67]; rfl) (by decide) rfl ?_
                refine tw_goto 15 dX10_restNow_36 (by decide) ?_
                have qv67 := tw_nI3 ev67
                rw [qv67]
                refine tw_lv [1, 2, 3, 0] rfl ?_
                exact ih53 (k51 + 1)  (by omega) (by omega)
              · refine tw_iconst (v := 0) dX10_restNow_31 (by decide) ?_
                exact tw_zret dX10_restNow_32 rfl rfl (Or.inl ⟨_, rfl, ⟨rfl, (by unfold tw_01; decide)⟩⟩)
        refine tw_lv [1, 2, 3, 0] rfl ?_
        exact L54 (2 + 1) 0  (by omega) (by omega)
  refine tw_lv [1, 2, 0] rfl ?_
  exact L4 ((g.2 3) + 1) 0  (by omega) (by omega)

set_option maxHeartbeats 4000000 in
set_option maxRecDepth 100000 in
theorem c_X10_rest (d : tw_D) (g : tw_G) (τ : tw_K) (h : tw_H) (hw : tw_wt d g τ h) (x : Nat) (kx : τ x = 36) (gr : Int32) : tw_Ct d mX10_rest 0 0 [.ref x, .int gr] h (tw_qi (fun r h1 => tw_sp d τ h g τ h1 ∧ tw_01 r) tw_nx) := by
  refine tw_of (by decide +kernel) (Nat.le_of_ble_eq_true rfl) ?_
  show tw_W d mX10_rest _ 0 [(0, .ref x), (1, .int gr)] [] h 0 0
  have sp0 := tw_sp.rf hw
  refine tw_aload_n 0 dX10_rest_0 rfl rfl ?_
  refine tw_iload_n 1 dX10_rest_1 rfl rfl ?_
  refine tw_iconst (v := 0) dX10_rest_2 (by decide) ?_
  refine tw_ldc (v := 99999) dX10_rest_3 w_1199 ?_
  refine tw_bi (tw_callS (M := mX10_rest) (pc := 5) okX10_isIn dX10_rest_5 w_1196 [.int gr, .int 0, .int 99999] [.ref x] rfl rfl ⟨by decide, by decide⟩ (Nat.le_of_ble_eq_true rfl) (c_X10_isIn d g τ h sp0.1 gr 0 99999) 0 0 (Nat.le_of_ble_eq_true rfl) (Nat.le_of_ble_eq_true rfl)) (fun r3 h2 q1 => ?_) (fun E h1 q => q.elim)
  obtain ⟨q1e, q1d⟩ := q1
  rw [q1e]
  rcases q1d with ⟨q1r, q1n⟩ | ⟨q1r, q1a, q1b⟩
  · rw [q1r]
    refine tw_if_ne 15 dX10_rest_8 (by decide) (fun c4 => absurd (by decide) c4) (fun _ => ?_)
    refine tw_iconst (v := 1) dX10_rest_11 (by decide) ?_
    refine tw_goto 16 dX10_rest_12 (by decide) ?_
    refine tw_iconst (v := 1) dX10_rest_16 (by decide) ?_
    obtain ⟨e5, f6, th_7, td_8, ds_9, fr_10, ca_11, us_12, wo_13, cm_14, lc_15, lh_16, ld_17, rfl, k18, k19, k20, k21, k22, k23, k24, k25, k26, k27, k28, k29, k30, k31, k32, k33, k34, k35⟩ := sp0.1 x 36 kx (by decide)
    refine tw_bi (tw_callV (M := mX10_rest) (pc := 17) okX10_start dX10_rest_17 w_1200 rfl f6 [.int 1, .int 1] [] rfl rfl ⟨by decide, by decide⟩ (Nat.le_of_ble_eq_true rfl) (c_X10_start d g τ h sp0.1 x kx 1 1 (by decide)) 0 0 (Nat.le_of_ble_eq_true rfl) (Nat.le_of_ble_eq_true rfl)) (fun r38 h37 q36 => ?_) (fun E h1 q => q.elim)
    obtain ⟨e39, he40, hs41, hr42, h343⟩ := q36
    have sp44 : tw_sp d τ h g τ h37 := by rw [he40]; exact sp0.set kx (by decide) hs41
    rcases hr42 with ei45 | ⟨ei45, ei45b⟩
    · rw [ei45]
      refine tw_if_ne 35 dX10_rest_20 (by decide) (fun _ => ?_) (fun c46 => absurd c46 (by decide))
      refine tw_iconst (v := 0) dX10_rest_35 (by decide) ?_
      exact tw_zret dX10_rest_36 rfl rfl (Or.inl ⟨_, rfl, ⟨sp44, (by unfold tw_01; decide)⟩⟩)
    · exact absurd ei45b (by decide)
  · rw [q1r]
    refine tw_if_ne 15 dX10_rest_8 (by decide) (fun _ => ?_) (fun c47 => absurd c47 (by decide))
    refine tw_iconst (v := 0) dX10_rest_15 (by decide) ?_
    refine tw_iconst (v := 1) dX10_rest_16 (by decide) ?_
    obtain ⟨e48, f49, th_50, td_51, ds_52, fr_53, ca_54, us_55, wo_56, cm_57, lc_58, lh_59, ld_60, rfl, k61, k62, k63, k64, k65, k66, k67, k68, k69, k70, k71, k72, k73, k74, k75, k76, k77, k78⟩ := sp0.1 x 36 kx (by decide)
    refine tw_bi (tw_callV (M := mX10_rest) (pc := 17) okX10_start dX10_rest_17 w_1200 rfl f49 [.int 0, .int 1] [] rfl rfl ⟨by decide, by decide⟩ (Nat.le_of_ble_eq_true rfl) (c_X10_start d g τ h sp0.1 x kx 0 1 (by decide)) 0 0 (Nat.le_of_ble_eq_true rfl) (Nat.le_of_ble_eq_true rfl)) (fun r81 h80 q79 => ?_) (fun E h1 q => q.elim)
    obtain ⟨e82, he83, hs84, hr85, h386⟩ := q79
    have sp87 : tw_sp d τ h g τ h80 := by rw [he83]; exact sp0.set kx (by decide) hs84
    rcases hr85 with ei88 | ⟨ei88, ei88b⟩
    · rw [ei88]
      refine tw_if_ne 35 dX10_rest_20 (by decide) (fun _ => ?_) (fun c89 => absurd c89 (by decide))
      refine tw_iconst (v := 0) dX10_rest_35 (by decide) ?_
      exact tw_zret dX10_rest_36 rfl rfl (Or.inl ⟨_, rfl, ⟨sp87, (by unfold tw_01; decide)⟩⟩)
    · rw [ei88]
      refine tw_if_ne 35 dX10_rest_20 (by decide) (fun c90 => absurd (by decide) c90) (fun _ => ?_)
      refine tw_aload_n 0 dX10_rest_23 rfl rfl ?_
      refine tw_iload_n 1 dX10_rest_24 rfl rfl ?_
      obtain ⟨e91, f92, th_93, td_94, ds_95, fr_96, ca_97, us_98, wo_99, cm_100, lc_101, lh_102, ld_103, rfl, k104, k105, k106, k107, k108, k109, k110, k111, k112, k113, k114, k115, k116, k117, k118, k119, k120, k121⟩ := sp87.1 x 36 kx (by decide)
      refine tw_bi (tw_callV (M := mX10_rest) (pc := 25) okX10_restNow dX10_rest_25 w_1573 rfl f92 [.int gr] [] rfl rfl ⟨by decide, by decide⟩ (Nat.le_of_ble_eq_true rfl) (c_X10_restNow d g τ h80 sp87.1 x kx gr) 0 0 (Nat.le_of_ble_eq_true rfl) (Nat.le_of_ble_eq_true rfl)) (fun r124 h123 q122 => ?_) (fun E h1 q => q.elim)
      obtain ⟨q122e, p125⟩ := q122
      rw [q122e]
      refine tw_if_eq 35 dX10_rest_28 (by decide) (fun c126 => ?_) (fun c126 => ?_)
      · refine tw_iconst (v := 0) dX10_rest_35 (by decide) ?_
        exact tw_zret dX10_rest_36 rfl rfl (Or.inl ⟨_, rfl, ⟨sp87, (by unfold tw_01; decide)⟩⟩)
      · refine tw_iconst (v := 1) dX10_rest_31 (by decide) ?_
        refine tw_goto 36 dX10_rest_32 (by decide) ?_
        exact tw_zret dX10_rest_36 rfl rfl (Or.inl ⟨_, rfl, ⟨sp87, (by unfold tw_01; decide)⟩⟩)

set_option maxHeartbeats 4000000 in
set_option maxRecDepth 100000 in
theorem c_X10_lastNow (d : tw_D) (g : tw_G) (τ : tw_K) (h : tw_H) (hw : tw_wt d g τ h) (x : Nat) (kx : τ x = 36) (m : Int32) (gr : Int32) (a : Nat) (ha : a < g.2 3) (hm : m = 0 ∨ m = 1) : tw_Ct d mX10_lastNow 0 0 [.ref x, .int (nI a), .int m, .int gr] h (tw_qi (fun r h1 => h1 = h) tw_nx) := by
  refine tw_of (by decide +kernel) (Nat.le_of_ble_eq_true rfl) ?_
  show tw_W d mX10_lastNow _ 0 [(0, .ref x), (1, .int (nI a)), (2, .int m), (3, .int gr)] [] h 0 0
  have sp0 := tw_sp.rf hw
  refine tw_aload_n 0 dX10_lastNow_0 rfl rfl ?_
  obtain ⟨e1, f2, th_3, td_4, ds_5, fr_6, ca_7, us_8, wo_9, cm_10, lc_11, lh_12, ld_13, rfl, k14, k15, k16, k17, k18, k19, k20, k21, k22, k23, k24, k25, k26, k27, k28, k29, k30, k31⟩ := sp0.1 x 36 kx (by decide)
  refine tw_get (v := .ref lc_11) rfl in_14 9 dX10_lastNow_1 w_1160 rfl (by decide) f2 rfl ?_
  refine tw_iload_n 1 dX10_lastNow_4 rfl rfl ?_
  obtain ⟨e32, f33, ⟨el34, rfl, k35⟩, k36⟩ := sp0.1 lc_11 24 k20 (by decide)
  refine tw_br (tw_callV (M := mX10_lastNow) (pc := 5) okJx4a65c_get_915e3 dX10_lastNow_5 w_1296 rfl f33 [.int (nI a)] [] rfl rfl ⟨by decide, by decide⟩ (Nat.le_of_ble_eq_true rfl) (c24_get d g τ h sp0.1 lc_11 k20 a (by omega) (by omega)) 0 0 (Nat.le_of_ble_eq_true rfl) (Nat.le_of_ble_eq_true rfl)) (fun r39 h38 q37 => ?_) (fun E h1 q => q.elim)
  obtain ⟨q37e, q37k⟩ := q37
  rw [q37e]
  have el40 : tw_el h (g.2 12) a = r39 := by rw [← k36]; exact q37k.2.symm
  have kl41 : τ (g.2 12) = 24 := by rw [← k36]; exact k20
  obtain ⟨e42, f43, r_44, c_45, v_46, o_47, t_48, rfl, k49, k50, k51, k52, k53, k54⟩ := sp0.1 r39 21 q37k.1 (by decide)
  refine tw_castS (ci := 11) rfl dX10_lastNow_8 w_1212 f43 ?_
  refine tw_get (v := .ref v_46) rfl in_11 2 dX10_lastNow_11 w_1221 rfl (by decide) f43 rfl ?_
  refine tw_iload_n 2 dX10_lastNow_14 rfl rfl ?_
  obtain ⟨e55, f56, F57, rfl⟩ := sp0.1 v_46 31 k49 (by decide)
  obtain ⟨v58, ev58⟩ : ∃ y : Int64, F57 (m).toNatClampNeg = y := ⟨_, rfl⟩
  refine tw_lald (v := v58) dX10_lastNow_15 f56 (tw_in01 hm (by decide)) ev58 ?_
  refine tw_lstore [(4, .long v58), (0, .ref x), (1, .int (nI a)), (2, .int m), (3, .int gr)] dX10_lastNow_16 (by decide) rfl ?_
  refine tw_aload_n 1 dX10_lastNow_18 rfl rfl ?_
  refine tw_get (v := .int td_4) rfl in_14 1 dX10_lastNow_19 w_1152 rfl (by decide) f2 rfl ?_
  refine tw_istore [(6, .int td_4), (4, .long v58), (0, .ref x), (1, .int (nI a)), (2, .int m), (3, .int gr)] dX10_lastNow_22 (by decide) rfl ?_
  have L63 : ∀ (r61 : Nat) (x59 : Int64) (x60 : Int32), ((3001 : Int) - x60.toInt).toNat < r61 → tw_W d mX10_lastNow (tw_qi (fun r h1 => h1 = h) tw_nx) 24 [(0, .ref x), (1, .int (nI a)), (2, .int m), (3, .int gr), (4, .long x59), (6, .int x60)] [] h 0 0 := by
    intro r61
    induction r61 with
    | zero => intro x59 x60 hk67; exact absurd hk67 (Nat.not_lt_zero _)
    | succ r61 ih62 =>
      intro x59 x60 hk67
      refine tw_iload 5 dX10_lastNow_24 rfl ?_
      refine tw_sipush (v := 3000) dX10_lastNow_26 (by decide) ?_
      refine tw_icmp_gt 89 dX10_lastNow_29 (by decide) (fun c69 => ?_) (fun c69 => ?_)
      · refine tw_iconst (v := -1) dX10_lastNow_89 (by decide) ?_
        exact tw_iret dX10_lastNow_90 rfl (Or.inl ⟨_, rfl, rfl⟩)
      · refine tw_iload 5 dX10_lastNow_32 rfl ?_
        refine tw_aload_n 0 dX10_lastNow_34 rfl rfl ?_
        refine tw_get (v := .int td_4) rfl in_14 1 dX10_lastNow_35 w_1152 rfl (by decide) f2 rfl ?_
        refine tw_icmp_le 65 dX10_lastNow_38 (by decide) (fun c70 => ?_) (fun c70 => ?_)
        · refine tw_lload 4 dX10_lastNow_65 rfl ?_
          refine tw_iload_n 3 dX10_lastNow_67 rfl rfl ?_
          refine tw_i2l dX10_lastNow_68 ?_
          refine tw_nml (fun v71 ev71 => ?_)
          refine tw_lcmp dX10_lastNow_69 ?_
          refine tw_nmi (fun v72 ev72 => ?_)
          refine tw_if_ge 76 dX10_lastNow_70 (by decide) (fun c73 => ?_) (fun c73 => ?_)
          · refine tw_lload 4 dX10_lastNow_76 rfl ?_
            refine tw_iload_n 3 dX10_lastNow_78 rfl rfl ?_
            refine tw_i2l dX10_lastNow_79 ?_
            refine tw_nml (fun v74 ev74 => ?_)
            refine tw_lsub dX10_lastNow_80 ?_
            refine tw_nml (fun v75 ev75 => ?_)
            refine tw_lstore [(4, .long v75), (0, .ref x), (1, .int (nI a)), (2, .int m), (3, .int gr), (6, .int x60)] dX10_lastNow_81 (by decide) rfl ?_
            obtain ⟨v76, ev76⟩ : ∃ y : Int32, y = x60 + 1 := ⟨_, rfl⟩
            refine tw_iinc [(6, .int v76), (4, .long v75), (0, .ref x), (1, .int (nI a)), (2, .int m), (3, .int gr)] 5 dX10_lastNow_83 rfl (by rw [ev76]; rfl) (by decide) rfl ?_
            refine tw_goto 24 dX10_lastNow_86 (by decide) ?_
            refine tw_lv [2, 3, 4, 5, 1, 0] rfl ?_
            exact ih62 v75 v76 (tw_mle ev76 c69 hk67)
          · refine tw_iload 5 dX10_lastNow_73 rfl ?_
            exact tw_iret dX10_lastNow_75 rfl (Or.inl ⟨_, rfl, rfl⟩)
        · refine tw_iload 5 dX10_lastNow_41 rfl ?_
          refine tw_bipush (v := 30) dX10_lastNow_43 (by decide) ?_
          refine tw_irem dX10_lastNow_45 (by decide) ?_
          refine tw_nmi (fun v77 ev77 => ?_)
          refine tw_if_ne 65 dX10_lastNow_46 (by decide) (fun c78 => ?_) (fun c78 => ?_)
          · refine tw_lload 4 dX10_lastNow_65 rfl ?_
            refine tw_iload_n 3 dX10_lastNow_67 rfl rfl ?_
            refine tw_i2l dX10_lastNow_68 ?_
            refine tw_nml (fun v79 ev79 => ?_)
            refine tw_lcmp dX10_lastNow_69 ?_
            refine tw_nmi (fun v80 ev80 => ?_)
            refine tw_if_ge 76 dX10_lastNow_70 (by decide) (fun c81 => ?_) (fun c81 => ?_)
            · refine tw_lload 4 dX10_lastNow_76 rfl ?_
              refine tw_iload_n 3 dX10_lastNow_78 rfl rfl ?_
              refine tw_i2l dX10_lastNow_79 ?_
              refine tw_nml (fun v82 ev82 => ?_)
              refine tw_lsub dX10_lastNow_80 ?_
              refine tw_nml (fun v83 ev83 => ?_)
              refine tw_lstore [(4, .long v83), (0, .ref x), (1, .int (nI a)), (2, .int m), (3, .int gr), (6, .int x60)] dX10_lastNow_81 (by decide) rfl ?_
              obtain ⟨v84, ev84⟩ : ∃ y : Int32, y = x60 + 1 := ⟨_, rfl⟩
              refine tw_iinc [(6, .int v84), (4, .long v83), (0, .ref x), (1, .int (nI a)), (2, .int m), (3, .int gr)] 5 dX10_lastNow_83 rfl (by rw [ev84]; rfl) (by decide) rfl ?_
              refine tw_goto 24 dX10_lastNow_86 (by decide) ?_
              refine tw_lv [2, 3, 4, 5, 1, 0] rfl ?_
              exact ih62 v83 v84 (tw_mle ev84 c69 hk67)
            · refine tw_iload 5 dX10_lastNow_73 rfl ?_
              exact tw_iret dX10_lastNow_75 rfl (Or.inl ⟨_, rfl, rfl⟩)
          · refine tw_iload_n 2 dX10_lastNow_49 rfl rfl ?_
            refine tw_iconst (v := 1) dX10_lastNow_50 (by decide) ?_
            refine tw_icmp_ne 65 dX10_lastNow_51 (by decide) (fun c85 => ?_) (fun c85 => ?_)
            · refine tw_lload 4 dX10_lastNow_65 rfl ?_
              refine tw_iload_n 3 dX10_lastNow_67 rfl rfl ?_
              refine tw_i2l dX10_lastNow_68 ?_
              refine tw_nml (fun v86 ev86 => ?_)
              refine tw_lcmp dX10_lastNow_69 ?_
              refine tw_nmi (fun v87 ev87 => ?_)
              refine tw_if_ge 76 dX10_lastNow_70 (by decide) (fun c88 => ?_) (fun c88 => ?_)
              · refine tw_lload 4 dX10_lastNow_76 rfl ?_
                refine tw_iload_n 3 dX10_lastNow_78 rfl rfl ?_
                refine tw_i2l dX10_lastNow_79 ?_
                refine tw_nml (fun v89 ev89 => ?_)
                refine tw_lsub dX10_lastNow_80 ?_
                refine tw_nml (fun v90 ev90 => ?_)
                refine tw_lstore [(4, .long v90), (0, .ref x), (1, .int (nI a)), (2, .int m), (3, .int gr), (6, .int x60)] dX10_lastNow_81 (by decide) rfl ?_
                obtain ⟨v91, ev91⟩ : ∃ y : Int32, y = x60 + 1 := ⟨_, rfl⟩
                refine tw_iinc [(6, .int v91), (4, .long v90), (0, .ref x), (1, .int (nI a)), (2, .int m), (3, .int gr)] 5 dX10_lastNow_83 rfl (by rw [ev91]; rfl) (by decide) rfl ?_
                refine tw_goto 24 dX10_lastNow_86 (by decide) ?_
                refine tw_lv [2, 3, 4, 5, 1, 0] rfl ?_
                exact ih62 v90 v91 (tw_mle ev91 c69 hk67)
              · refine tw_iload 5 dX10_lastNow_73 rfl ?_
                exact tw_iret dX10_lastNow_75 rfl (Or.inl ⟨_, rfl, rfl⟩)
            · refine tw_lload 4 dX10_lastNow_54 rfl ?_
              refine tw_lload 4 dX10_lastNow_56 rfl ?_
              refine tw_ldc2 (v := 10000) dX10_lastNow_58 w_1432 ?_
              refine tw_ldiv dX10_lastNow_61 (by decide) ?_
              refine tw_nml (fun v92 ev92 => ?_)
              refine tw_lsub dX10_lastNow_62 ?_
              refine tw_nml (fun v93 ev93 => ?_)
              refine tw_lstore [(4, .long v93), (0, .ref x), (1, .int (nI a)), (2, .int m), (3, .int gr), (6, .int x60)] dX10_lastNow_63 (by decide) rfl ?_
              refine tw_lload 0 dX10_lastNow_65 rfl ?_
              refine tw_iload_n 4 dX10_lastNow_67 rfl rfl ?_
              refine tw_i2l dX10_lastNow_68 ?_
              refine tw_nml (fun v94 ev94 => ?_)
              refine tw_lcmp dX10_lastNow_69 ?_
              refine tw_nmi (fun v95 ev95 => ?_)
              refine tw_if_ge 76 dX10_lastNow_70 (by decide) (fun c96 => ?_) (fun c96 => ?_)
              · refine tw_lload 0 dX10_lastNow_76 rfl ?_
                refine tw_iload_n 4 dX10_lastNow_78 rfl rfl ?_
                refine tw_i2l dX10_lastNow_79 ?_
                refine tw_nml (fun v97 ev97 => ?_)
                refine tw_lsub dX10_lastNow_80 ?_
                refine tw_nml (fun v98 ev98 => ?_)
                refine tw_lstore [(4, .long v98), (0, .ref x), (1, .int (nI a)), (2, .int m), (3, .int gr), (6, .int x60)] dX10_lastNow_81 (by decide) rfl ?_
                obtain ⟨v99, ev99⟩ : ∃ y : Int32, y = x60 + 1 := ⟨_, rfl⟩
                refine tw_iinc [(6, .int v99), (4, .long v98), (0, .ref x), (1, .int (nI a)), (2, .int m), (3, .int gr)] 5 dX10_lastNow_83 rfl (by rw [ev99]; rfl) (by decide) rfl ?_
                refine tw_goto 24 dX10_lastNow_86 (by decide) ?_
                refine tw_lv [2, 3, 4, 5, 1, 0] rfl ?_
                exact ih62 v98 v99 (tw_mle ev99 c69 hk67)
              · refine tw_iload 5 dX10_lastNow_73 rfl ?_
                exact tw_iret dX10_lastNow_75 rfl (Or.inl ⟨_, rfl, rfl⟩)
  refine tw_lv [2, 3, 4, 5, 1, 0] rfl ?_
  exact L63 _ v58 td_4 (Nat.lt_succ_self _)

set_option maxHeartbeats 4000000 in
set_option maxRecDepth 100000 in
theorem c_X10_last (d : tw_D) (g : tw_G) (τ : tw_K) (h : tw_H) (hw : tw_wt d g τ h) (x : Nat) (kx : τ x = 36) (a : Int32) (m : Int32) (gr : Int32) : tw_Ct d mX10_last 0 0 [.ref x, .int a, .int m, .int gr] h (tw_qi (fun r h1 => tw_sp d τ h g τ h1) tw_nx) := by
  refine tw_of (by decide +kernel) (Nat.le_of_ble_eq_true rfl) ?_
  show tw_W d mX10_last _ 0 [(0, .ref x), (1, .int a), (2, .int m), (3, .int gr)] [] h 0 0
  have sp0 := tw_sp.rf hw
  refine tw_aload_n 0 dX10_last_0 rfl rfl ?_
  refine tw_aload_n 0 dX10_last_1 rfl rfl ?_
  refine tw_iload_n 1 dX10_last_2 rfl rfl ?_
  obtain ⟨e1, f2, th_3, td_4, ds_5, fr_6, ca_7, us_8, wo_9, cm_10, lc_11, lh_12, ld_13, rfl, k14, k15, k16, k17, k18, k19, k20, k21, k22, k23, k24, k25, k26, k27, k28, k29, k30, k31⟩ := sp0.1 x 36 kx (by decide)
  refine tw_bi (tw_callV (M := mX10_last) (pc := 3) okX10_isNoCountry dX10_last_3 w_1292 rfl f2 [.int a] [.ref x] rfl rfl ⟨by decide, by decide⟩ (Nat.le_of_ble_eq_true rfl) (c_X10_isNoCountry d g τ h sp0.1 x kx a) 0 0 (Nat.le_of_ble_eq_true rfl) (Nat.le_of_ble_eq_true rfl)) (fun r34 h33 q32 => ?_) (fun E h1 q => q.elim)
  obtain ⟨q32e, q32d⟩ := q32
  rw [q32e]
  rcases q32d with q32r | ⟨q32r, j35, q32j, q32k⟩
  · rw [q32r]
    refine tw_iconst (v := 1) dX10_last_6 (by decide) ?_
    refine tw_bi (tw_callV (M := mX10_last) (pc := 7) okX10_start dX10_last_7 w_1200 rfl f2 [.int 1, .int 1] [] rfl rfl ⟨by decide, by decide⟩ (Nat.le_of_ble_eq_true rfl) (c_X10_start d g τ h sp0.1 x kx 1 1 (by decide)) 0 0 (Nat.le_of_ble_eq_true rfl) (Nat.le_of_ble_eq_true rfl)) (fun r38 h37 q36 => ?_) (fun E h1 q => q.elim)
    obtain ⟨e39, he40, hs41, hr42, h343⟩ := q36
    have sp44 : tw_sp d τ h g τ h37 := by rw [he40]; exact sp0.set kx (by decide) hs41
    rcases hr42 with ei45 | ⟨ei45, ei45b⟩
    · rw [ei45]
      refine tw_if_ne 43 dX10_last_10 (by decide) (fun _ => ?_) (fun c46 => absurd c46 (by decide))
      refine tw_iconst (v := 0) dX10_last_43 (by decide) ?_
      refine tw_goto 54 dX10_last_44 (by decide) ?_
      exact tw_iret dX10_last_54 rfl (Or.inl ⟨_, rfl, sp44⟩)
    · exact absurd ei45b (by decide)
  · rw [q32r]
    subst q32k
    refine tw_iconst (v := 1) dX10_last_6 (by decide) ?_
    refine tw_bi (tw_callV (M := mX10_last) (pc := 7) okX10_start dX10_last_7 w_1200 rfl f2 [.int 0, .int 1] [] rfl rfl ⟨by decide, by decide⟩ (Nat.le_of_ble_eq_true rfl) (c_X10_start d g τ h sp0.1 x kx 0 1 (by decide)) 0 0 (Nat.le_of_ble_eq_true rfl) (Nat.le_of_ble_eq_true rfl)) (fun r49 h48 q47 => ?_) (fun E h1 q => q.elim)
    obtain ⟨e50, he51, hs52, hr53, h354⟩ := q47
    have sp55 : tw_sp d τ h g τ h48 := by rw [he51]; exact sp0.set kx (by decide) hs52
    rcases hr53 with ei56 | ⟨ei56, ei56b⟩
    · rw [ei56]
      refine tw_if_ne 43 dX10_last_10 (by decide) (fun _ => ?_) (fun c57 => absurd c57 (by decide))
      refine tw_iconst (v := 0) dX10_last_43 (by decide) ?_
      refine tw_goto 54 dX10_last_44 (by decide) ?_
      exact tw_iret dX10_last_54 rfl (Or.inl ⟨_, rfl, sp55⟩)
    · rw [ei56]
      refine tw_if_ne 43 dX10_last_10 (by decide) (fun c58 => absurd (by decide) c58) (fun _ => ?_)
      refine tw_aload_n 0 dX10_last_13 rfl rfl ?_
      refine tw_iload_n 2 dX10_last_14 rfl rfl ?_
      refine tw_bi (tw_callS (M := mX10_last) (pc := 15) okX10_isNoMetal dX10_last_15 w_1312 [.int m] [.ref x] rfl rfl ⟨by decide, by decide⟩ (Nat.le_of_ble_eq_true rfl) (c_X10_isNoMetal d g τ h48 sp55.1 m) 0 0 (Nat.le_of_ble_eq_true rfl) (Nat.le_of_ble_eq_true rfl)) (fun r61 h60 q59 => ?_) (fun E h1 q => q.elim)
      obtain ⟨q59e, q59d⟩ := q59
      rw [q59e]
      rcases q59d with q59r | ⟨q59r, q59m⟩
      · rw [q59r]
        refine tw_if_ne 31 dX10_last_18 (by decide) (fun _ => ?_) (fun c62 => absurd c62 (by decide))
        refine tw_iconst (v := 1) dX10_last_31 (by decide) ?_
        refine tw_goto 36 dX10_last_32 (by decide) ?_
        refine tw_iconst (v := 2) dX10_last_36 (by decide) ?_
        obtain ⟨e63, f64, th_65, td_66, ds_67, fr_68, ca_69, us_70, wo_71, cm_72, lc_73, lh_74, ld_75, rfl, k76, k77, k78, k79, k80, k81, k82, k83, k84, k85, k86, k87, k88, k89, k90, k91, k92, k93⟩ := sp55.1 x 36 kx (by decide)
        refine tw_bi (tw_callV (M := mX10_last) (pc := 37) okX10_refuse dX10_last_37 w_1204 rfl f64 [.int 1, .int 2] [] rfl rfl ⟨by decide, by decide⟩ (Nat.le_of_ble_eq_true rfl) (c_X10_refuse d g τ h48 sp55.1 x kx 1 2 (by decide)) 0 0 (Nat.le_of_ble_eq_true rfl) (Nat.le_of_ble_eq_true rfl)) (fun r96 h95 q94 => ?_) (fun E h1 q => q.elim)
        obtain ⟨e97, he98, hs99, hr100, h3101⟩ := q94
        have sp102 : tw_sp d τ h g τ h95 := by rw [he98]; exact sp55.set kx (by decide) hs99
        rcases hr100 with ei103 | ⟨ei103, ei103b⟩
        · rw [ei103]
          refine tw_if_eq 47 dX10_last_40 (by decide) (fun c104 => absurd c104 (by decide)) (fun _ => ?_)
          refine tw_iconst (v := 0) dX10_last_43 (by decide) ?_
          refine tw_goto 54 dX10_last_44 (by decide) ?_
          exact tw_iret dX10_last_54 rfl (Or.inl ⟨_, rfl, sp102⟩)
        · exact absurd ei103b (by decide)
      · rw [q59r]
        refine tw_if_ne 31 dX10_last_18 (by decide) (fun c105 => absurd (by decide) c105) (fun _ => ?_)
        refine tw_iload_n 3 dX10_last_21 rfl rfl ?_
        refine tw_iconst (v := 1) dX10_last_22 (by decide) ?_
        refine tw_ldc (v := 99999) dX10_last_23 w_1199 ?_
        refine tw_bi (tw_callS (M := mX10_last) (pc := 25) okX10_isIn dX10_last_25 w_1196 [.int gr, .int 1, .int 99999] [.ref x] rfl rfl ⟨by decide, by decide⟩ (Nat.le_of_ble_eq_true rfl) (c_X10_isIn d g τ h48 sp55.1 gr 1 99999) 0 0 (Nat.le_of_ble_eq_true rfl) (Nat.le_of_ble_eq_true rfl)) (fun r108 h107 q106 => ?_) (fun E h1 q => q.elim)
        obtain ⟨q106e, q106d⟩ := q106
        rw [q106e]
        rcases q106d with ⟨q106r, q106n⟩ | ⟨q106r, q106a, q106b⟩
        · rw [q106r]
          refine tw_if_ne 35 dX10_last_28 (by decide) (fun c109 => absurd (by decide) c109) (fun _ => ?_)
          refine tw_iconst (v := 1) dX10_last_31 (by decide) ?_
          refine tw_goto 36 dX10_last_32 (by decide) ?_
          refine tw_iconst (v := 2) dX10_last_36 (by decide) ?_
          obtain ⟨e110, f111, th_112, td_113, ds_114, fr_115, ca_116, us_117, wo_118, cm_119, lc_120, lh_121, ld_122, rfl, k123, k124, k125, k126, k127, k128, k129, k130, k131, k132, k133, k134, k135, k136, k137, k138, k139, k140⟩ := sp55.1 x 36 kx (by decide)
          refine tw_bi (tw_callV (M := mX10_last) (pc := 37) okX10_refuse dX10_last_37 w_1204 rfl f111 [.int 1, .int 2] [] rfl rfl ⟨by decide, by decide⟩ (Nat.le_of_ble_eq_true rfl) (c_X10_refuse d g τ h48 sp55.1 x kx 1 2 (by decide)) 0 0 (Nat.le_of_ble_eq_true rfl) (Nat.le_of_ble_eq_true rfl)) (fun r143 h142 q141 => ?_) (fun E h1 q => q.elim)
          obtain ⟨e144, he145, hs146, hr147, h3148⟩ := q141
          have sp149 : tw_sp d τ h g τ h142 := by rw [he145]; exact sp55.set kx (by decide) hs146
          rcases hr147 with ei150 | ⟨ei150, ei150b⟩
          · rw [ei150]
            refine tw_if_eq 47 dX10_last_40 (by decide) (fun c151 => absurd c151 (by decide)) (fun _ => ?_)
            refine tw_iconst (v := 0) dX10_last_43 (by decide) ?_
            refine tw_goto 54 dX10_last_44 (by decide) ?_
            exact tw_iret dX10_last_54 rfl (Or.inl ⟨_, rfl, sp149⟩)
          · exact absurd ei150b (by decide)
        · rw [q106r]
          refine tw_if_ne 35 dX10_last_28 (by decide) (fun _ => ?_) (fun c152 => absurd c152 (by decide))
          refine tw_iconst (v := 0) dX10_last_35 (by decide) ?_
          refine tw_iconst (v := 2) dX10_last_36 (by decide) ?_
          obtain ⟨e153, f154, th_155, td_156, ds_157, fr_158, ca_159, us_160, wo_161, cm_162, lc_163, lh_164, ld_165, rfl, k166, k167, k168, k169, k170, k171, k172, k173, k174, k175, k176, k177, k178, k179, k180, k181, k182, k183⟩ := sp55.1 x 36 kx (by decide)
          refine tw_bi (tw_callV (M := mX10_last) (pc := 37) okX10_refuse dX10_last_37 w_1204 rfl f154 [.int 0, .int 2] [] rfl rfl ⟨by decide, by decide⟩ (Nat.le_of_ble_eq_true rfl) (c_X10_refuse d g τ h48 sp55.1 x kx 0 2 (by decide)) 0 0 (Nat.le_of_ble_eq_true rfl) (Nat.le_of_ble_eq_true rfl)) (fun r186 h185 q184 => ?_) (fun E h1 q => q.elim)
          obtain ⟨e187, he188, hs189, hr190, h3191⟩ := q184
          have sp192 : tw_sp d τ h g τ h185 := by rw [he188]; exact sp55.set kx (by decide) hs189
          rcases hr190 with ei193 | ⟨ei193, ei193b⟩
          · rw [ei193]
            refine tw_if_eq 47 dX10_last_40 (by decide) (fun c194 => absurd c194 (by decide)) (fun _ => ?_)
            refine tw_iconst (v := 0) dX10_last_43 (by decide) ?_
            refine tw_goto 54 dX10_last_44 (by decide) ?_
            exact tw_iret dX10_last_54 rfl (Or.inl ⟨_, rfl, sp192⟩)
          · rw [ei193]
            refine tw_if_eq 47 dX10_last_40 (by decide) (fun _ => ?_) (fun c195 => absurd (by decide) c195)
            refine tw_aload_n 0 dX10_last_47 rfl rfl ?_
            refine tw_iload_n 1 dX10_last_48 rfl rfl ?_
            refine tw_iload_n 2 dX10_last_49 rfl rfl ?_
            refine tw_iload_n 3 dX10_last_50 rfl rfl ?_
            obtain ⟨e196, f197, th_198, td_199, ds_200, fr_201, ca_202, us_203, wo_204, cm_205, lc_206, lh_207, ld_208, rfl, k209, k210, k211, k212, k213, k214, k215, k216, k217, k218, k219, k220, k221, k222, k223, k224, k225, k226⟩ := sp192.1 x 36 kx (by decide)
            refine tw_bi (tw_callV (M := mX10_last) (pc := 51) okX10_lastNow dX10_last_51 w_1581 rfl f197 [.int (nI j35), .int m, .int gr] [] rfl rfl ⟨by decide, by decide⟩ (Nat.le_of_ble_eq_true rfl) (c_X10_lastNow d g τ h185 sp192.1 x kx m gr j35 (by omega) q59m) 0 0 (Nat.le_of_ble_eq_true rfl) (Nat.le_of_ble_eq_true rfl)) (fun r229 h228 q227 => ?_) (fun E h1 q => q.elim)
            rw [q227]
            exact tw_iret dX10_last_54 rfl (Or.inl ⟨_, rfl, sp192⟩)

set_option maxHeartbeats 4000000 in
set_option maxRecDepth 100000 in
theorem c_X10_worldNow (d : tw_D) (g : tw_G) (τ : tw_K) (h : tw_H) (hw : tw_wt d g τ h) (x : Nat) (kx : τ x = 36) (m : Int32) (w9 : Int32) (hm : vp_in m 2) (hw9 : vp_in w9 6) : tw_Ct d mX10_worldNow 3 14 [.ref x, .int m, .int w9] h (tw_qi (fun r h1 => tw_sp d τ h g τ h1) tw_nx) := by
  refine tw_of (by decide +kernel) (Nat.le_of_ble_eq_true rfl) ?_
  show tw_W d mX10_worldNow _ 0 [(0, .ref x), (1, .int m), (2, .int w9)] [] h 3 14
  have sp0 := tw_sp.rf hw
  refine tw_lconst (v := 0) dX10_worldNow_0 (by decide) ?_
  refine tw_lstore_n [(3, .long 0), (0, .ref x), (1, .int m), (2, .int w9)] dX10_worldNow_1 rfl (by decide) rfl ?_
  refine tw_lconst (v := 0) dX10_worldNow_2 (by decide) ?_
  refine tw_lstore [(5, .long 0), (3, .long 0), (0, .ref x), (1, .int m), (2, .int w9)] dX10_worldNow_3 (by decide) rfl ?_
  refine tw_aload_n 2 dX10_worldNow_5 rfl rfl ?_
  obtain ⟨e1, f2, th_3, td_4, ds_5, fr_6, ca_7, us_8, wo_9, cm_10, lc_11, lh_12, ld_13, rfl, k14, k15, k16, k17, k18, k19, k20, k21, k22, k23, k24, k25, k26, k27, k28, k29, k30, k31⟩ := sp0.1 x 36 kx (by decide)
  refine tw_get (v := .ref lc_11) rfl in_14 9 dX10_worldNow_6 w_1160 rfl (by decide) f2 rfl ?_
  obtain ⟨e32, f33, ⟨el34, rfl, k35⟩, k36⟩ := sp0.1 lc_11 24 k20 (by decide)
  refine tw_br (tw_callV (M := mX10_worldNow) (pc := 9) okJx4a65c_iterator_32c93 dX10_worldNow_9 w_1386 rfl f33 [] [] rfl rfl ⟨by decide, by decide⟩ (Nat.le_of_ble_eq_true rfl) (c_iterator d h lc_11 el34 (g.1 3) (nI (g.2 3)) f33) 2 10 (Nat.le_of_ble_eq_true rfl) (Nat.le_of_ble_eq_true rfl)) (fun it37 h38 q39 => ?_) (fun E h1 q => q.elim)
  obtain ⟨q39n, q39e⟩ := q39
  rw [q39e]
  have n40 := sp0.nn q39n
  have z41 := sp0.1.none q39n
  obtain ⟨h42, eh42⟩ : ∃ z : tw_H, z = tw_up h it37 (.inr (2, [.int 0, .int (-1), .int (g.1 3), .ref lc_11])) := ⟨_, rfl⟩
  rw [← eh42]
  have sp43 : tw_sp d τ h g τ h42 := by rw [eh42]; exact sp0.mk q39n
  have f44 : h42 it37 = some (.inr (2, [.int 0, .int (-1), .int (g.1 3), .ref lc_11])) := by rw [eh42]; exact tw_up_s
  refine tw_astore [(7, .ref it37), (5, .long 0), (3, .long 0), (0, .ref x), (1, .int m), (2, .int w9)] dX10_worldNow_12 (by decide) rfl ?_
  have L50 : ∀ (r46 j47 : Nat) (l48 : Int32) (x45 : Int64) (h51 : tw_H) (sp52 : tw_sp d τ (tw_rm h42 it37) g τ h51) (ft53 : h51 it37 = some (.inr (2, [.int (nI j47), .int l48, .int (g.1 3), .ref lc_11]))) (zt54 : τ it37 = 0), g.2 3 + 1 ≤ j47 + r46 → j47 ≤ g.2 3 → tw_W d mX10_worldNow (tw_qi (fun r h1 => tw_sp d τ h g τ h1) tw_nx) 14 [(0, .ref x), (1, .int m), (2, .int w9), (3, .long x45), (5, .long 0), (7, .ref it37)] [] h51 2 10 := by
    intro r46
    induction r46 with
    | zero => intro j47 l48 x45 h51 sp52 ft53 zt54 hk55 hk56; exact absurd hk55 (by omega)
    | succ r46 ih49 =>
      intro j47 l48 x45 h51 sp52 ft53 zt54 hk55 hk56
      refine tw_aload 5 dX10_worldNow_14 rfl ?_
      obtain ⟨e57, f58, ⟨el59, rfl, k60⟩, k61⟩ := sp52.1 lc_11 24 k20 (by decide)
      refine tw_bi (tw_callF (M := mX10_worldNow) (pc := 16) (n9 := 0) (ci := 2) tw_hasNext ok_itHas w_1416 w_1414 (fun s H z => z.2.2.2.2.2.2.2.2.1) (by decide +kernel) dX10_worldNow_16 w_1410 rfl ft53 [] [] rfl rfl ⟨by decide, by decide⟩ (Nat.le_of_ble_eq_true rfl) (c_hasNext d h51 it37 lc_11 el59 j47 (g.2 3) l48 (g.1 3) (g.1 3) ft53 f58 (by omega) (tw_lim24 sp52.1 k20)) 2 10 (Nat.le_of_ble_eq_true rfl) (Nat.le_of_ble_eq_true rfl)) (fun r64 h63 q62 => ?_) (fun E h1 q => q.elim)
      obtain ⟨q62e, q62q⟩ := q62
      rw [q62e]
      rcases q62q with ⟨q62r, q62j⟩ | ⟨q62r, q62j⟩
      · rw [q62r]
        refine tw_if_eq 49 dX10_worldNow_21 (by decide) (fun _ => ?_) (fun c65 => absurd (by decide) c65)
        refine tw_aload_n 0 dX10_worldNow_49 rfl rfl ?_
        obtain ⟨e66, f67, th_68, td_69, ds_70, fr_71, ca_72, us_73, wo_74, cm_75, lc_76, lh_77, ld_78, rfl, k79, k80, k81, k82, k83, k84, k85, k86, k87, k88, k89, k90, k91, k92, k93, k94, k95, k96⟩ := sp52.1 x 36 kx (by decide)
        refine tw_get (v := .ref lh_77) rfl in_14 10 dX10_worldNow_50 w_1161 rfl (by decide) f67 rfl ?_
        obtain ⟨e97, f98, ⟨el99, rfl, k100⟩, k101⟩ := sp52.1 lh_77 25 k86 (by decide)
        refine tw_br (tw_callV (M := mX10_worldNow) (pc := 53) okJx4a65c_iterator_32c93 dX10_worldNow_53 w_1386 rfl f98 [] [] rfl rfl ⟨by decide, by decide⟩ (Nat.le_of_ble_eq_true rfl) (c_iterator d h51 lh_77 el99 (g.1 4) (nI (g.2 4)) f98) 1 6 (Nat.le_of_ble_eq_true rfl) (Nat.le_of_ble_eq_true rfl)) (fun it102 h103 q104 => ?_) (fun E h1 q => q.elim)
        obtain ⟨q104n, q104e⟩ := q104
        rw [q104e]
        have n105 := sp52.nn q104n
        have z106 := sp52.1.none q104n
        have ne107 := tw_neF ft53 q104n
        obtain ⟨h108, eh108⟩ : ∃ z : tw_H, z = tw_up h51 it102 (.inr (2, [.int 0, .int (-1), .int (g.1 4), .ref lh_77])) := ⟨_, rfl⟩
        rw [← eh108]
        have sp109 : tw_sp d τ (tw_rm h42 it37) g τ h108 := by rw [eh108]; exact sp52.mk q104n
        have f110 : h108 it37 = some (.inr (2, [.int (nI j47), .int l48, .int (g.1 3), .ref lc_11])) := by rw [eh108, tw_up_n ne107]; exact ft53
        have f111 : h108 it102 = some (.inr (2, [.int 0, .int (-1), .int (g.1 4), .ref lh_77])) := by rw [eh108]; exact tw_up_s
        refine tw_astore [(7, .ref it102), (0, .ref x), (1, .int m), (2, .int w9), (3, .long x45), (5, .long 0)] dX10_worldNow_56 (by decide) rfl ?_
        have L117 : ∀ (r113 j114 : Nat) (l115 : Int32) (x112 : Int64) (h118 : tw_H) (sp119 : tw_sp d τ (tw_rm h108 it102) g τ h118) (ft120 : h118 it102 = some (.inr (2, [.int (nI j114), .int l115, .int (g.1 4), .ref lh_77]))) (zt121 : τ it102 = 0), g.2 4 + 1 ≤ j114 + r113 → j114 ≤ g.2 4 → tw_W d mX10_worldNow (tw_qi (fun r h1 => tw_sp d τ h g τ h1) tw_nx) 58 [(0, .ref x), (1, .int m), (2, .int w9), (3, .long x45), (5, .long x112), (7, .ref it102)] [] h118 1 6 := by
          intro r113
          induction r113 with
          | zero => intro j114 l115 x112 h118 sp119 ft120 zt121 hk122 hk123; exact absurd hk122 (by omega)
          | succ r113 ih116 =>
            intro j114 l115 x112 h118 sp119 ft120 zt121 hk122 hk123
            have f124 := (sp119.2.2 _ _ (by unfold tw_rm; rw [if_neg ne107]; exact f110) zt54).1
            have z125 := (sp119.2.2 _ _ (by unfold tw_rm; rw [if_neg ne107]; exact f110) zt54).2
            refine tw_aload 5 dX10_worldNow_58 rfl ?_
            obtain ⟨e126, f127, ⟨el128, rfl, k129⟩, k130⟩ := sp119.1 lh_77 25 k86 (by decide)
            refine tw_bi (tw_callF (M := mX10_worldNow) (pc := 60) (n9 := 0) (ci := 2) tw_hasNext ok_itHas w_1416 w_1414 (fun s H z => z.2.2.2.2.2.2.2.2.1) (by decide +kernel) dX10_worldNow_60 w_1410 rfl ft120 [] [] rfl rfl ⟨by decide, by decide⟩ (Nat.le_of_ble_eq_true rfl) (c_hasNext d h118 it102 lh_77 el128 j114 (g.2 4) l115 (g.1 4) (g.1 4) ft120 f127 (by omega) (tw_lim25 sp119.1 k86)) 1 6 (Nat.le_of_ble_eq_true rfl) (Nat.le_of_ble_eq_true rfl)) (fun r133 h132 q131 => ?_) (fun E h1 q => q.elim)
            obtain ⟨q131e, q131q⟩ := q131
            rw [q131e]
            rcases q131q with ⟨q131r, q131j⟩ | ⟨q131r, q131j⟩
            · rw [q131r]
              refine tw_if_eq 95 dX10_worldNow_65 (by decide) (fun _ => ?_) (fun c134 => absurd (by decide) c134)
              refine tw_bipush (v := 6) dX10_worldNow_95 (by decide) ?_
              refine tw_newa (a0 := (6, .inr (.inl (fun _ => 0)))) 1 rfl dX10_worldNow_97 rfl w_1150 (fun _ => rfl) (by decide) (by decide) (by decide) 0 0 (Nat.le_of_ble_eq_true rfl) (Nat.le_of_ble_eq_true rfl) (fun q135 hq136 hA137 => ?_)
              have n138 := sp119.nn hq136
              have z139 := sp119.1.none hq136
              have ne140 := tw_neF f124 hq136
              have ne141 := tw_neF ft120 hq136
              obtain ⟨h142, eh142⟩ : ∃ z : tw_H, z = tw_up h118 q135 (.inl (d.2 1, 6, .inr (.inl (fun _ => 0)))) := ⟨_, rfl⟩
              rw [← eh142]
              have sp143 : tw_sp d τ (tw_rm h108 it102) g τ h142 := by rw [eh142]; exact sp119.mk hq136
              have f144 : h142 it37 = some (.inr (2, [.int (nI j47), .int l48, .int (g.1 3), .ref lc_11])) := by rw [eh142, tw_up_n ne140]; exact f124
              have f145 : h142 it102 = some (.inr (2, [.int (nI j114), .int l115, .int (g.1 4), .ref lh_77])) := by rw [eh142, tw_up_n ne141]; exact ft120
              have f146 : h142 q135 = some (.inl (d.2 1, 6, .inr (.inl (fun _ => 0)))) := by rw [eh142]; exact tw_up_s
              refine tw_dup dX10_worldNow_99 rfl ?_
              refine tw_iconst (v := 0) dX10_worldNow_100 (by decide) ?_
              refine tw_lload_n 3 dX10_worldNow_101 rfl rfl ?_
              refine tw_last dX10_worldNow_102 f146 (vp_in_nI (n := 0) (by decide) (by decide)) ?_
              obtain ⟨F147, eF147⟩ : ∃ z : Nat → Int64, z = vp_updL (fun _ => 0) (0 : Int32).toNatClampNeg x45 := ⟨_, rfl⟩
              rw [← eF147]
              obtain ⟨h148, eh148⟩ : ∃ z : tw_H, z = tw_up h142 q135 (.inl (d.2 1, 6, .inr (.inl F147))) := ⟨_, rfl⟩
              rw [← eh148]
              have sp149 : tw_sp d τ (tw_rm h108 it102) g τ h148 := by rw [eh148]; exact sp143.wl n138 z139
              have f150 : h148 it37 = some (.inr (2, [.int (nI j47), .int l48, .int (g.1 3), .ref lc_11])) := by rw [eh148, tw_up_n ne140]; exact f144
              have f151 : h148 it102 = some (.inr (2, [.int (nI j114), .int l115, .int (g.1 4), .ref lh_77])) := by rw [eh148, tw_up_n ne141]; exact f145
              have f152 : h148 q135 = some (.inl (d.2 1, 6, .inr (.inl F147))) := by rw [eh148]; exact tw_up_s
              refine tw_dup dX10_worldNow_103 rfl ?_
              refine tw_iconst (v := 1) dX10_worldNow_104 (by decide) ?_
              refine tw_lload 4 dX10_worldNow_105 rfl ?_
              refine tw_last dX10_worldNow_107 f152 (vp_in_nI (n := 1) (by decide) (by decide)) ?_
              obtain ⟨F153, eF153⟩ : ∃ z : Nat → Int64, z = vp_updL F147 (1 : Int32).toNatClampNeg x112 := ⟨_, rfl⟩
              rw [← eF153]
              obtain ⟨h154, eh154⟩ : ∃ z : tw_H, z = tw_up h148 q135 (.inl (d.2 1, 6, .inr (.inl F153))) := ⟨_, rfl⟩
              rw [← eh154]
              have sp155 : tw_sp d τ (tw_rm h108 it102) g τ h154 := by rw [eh154]; exact sp149.wl n138 z139
              have f156 : h154 it37 = some (.inr (2, [.int (nI j47), .int l48, .int (g.1 3), .ref lc_11])) := by rw [eh154, tw_up_n ne140]; exact f150
              have f157 : h154 it102 = some (.inr (2, [.int (nI j114), .int l115, .int (g.1 4), .ref lh_77])) := by rw [eh154, tw_up_n ne141]; exact f151
              have f158 : h154 q135 = some (.inl (d.2 1, 6, .inr (.inl F153))) := by rw [eh154]; exact tw_up_s
              refine tw_dup dX10_worldNow_108 rfl ?_
              refine tw_iconst (v := 2) dX10_worldNow_109 (by decide) ?_
              refine tw_aload_n 0 dX10_worldNow_110 rfl rfl ?_
              obtain ⟨e159, f160, th_161, td_162, ds_163, fr_164, ca_165, us_166, wo_167, cm_168, lc_169, lh_170, ld_171, rfl, k172, k173, k174, k175, k176, k177, k178, k179, k180, k181, k182, k183, k184, k185, k186, k187, k188, k189⟩ := sp155.1 x 36 kx (by decide)
              refine tw_get (v := .ref ca_165) rfl in_14 5 dX10_worldNow_111 w_1156 rfl (by decide) f160 rfl ?_
              refine tw_iload_n 1 dX10_worldNow_114 rfl rfl ?_
              obtain ⟨e190, f191, F192, rfl⟩ := sp155.1 ca_165 31 k174 (by decide)
              obtain ⟨v193, ev193⟩ : ∃ y : Int64, F192 (m).toNatClampNeg = y := ⟨_, rfl⟩
              refine tw_lald (v := v193) dX10_worldNow_115 f191 hm ev193 ?_
              refine tw_last dX10_worldNow_116 f158 (vp_in_nI (n := 2) (by decide) (by decide)) ?_
              obtain ⟨F194, eF194⟩ : ∃ z : Nat → Int64, z = vp_updL F153 (2 : Int32).toNatClampNeg v193 := ⟨_, rfl⟩
              rw [← eF194]
              obtain ⟨h195, eh195⟩ : ∃ z : tw_H, z = tw_up h154 q135 (.inl (d.2 1, 6, .inr (.inl F194))) := ⟨_, rfl⟩
              rw [← eh195]
              have sp196 : tw_sp d τ (tw_rm h108 it102) g τ h195 := by rw [eh195]; exact sp155.wl n138 z139
              have f197 : h195 it37 = some (.inr (2, [.int (nI j47), .int l48, .int (g.1 3), .ref lc_11])) := by rw [eh195, tw_up_n ne140]; exact f156
              have f198 : h195 it102 = some (.inr (2, [.int (nI j114), .int l115, .int (g.1 4), .ref lh_77])) := by rw [eh195, tw_up_n ne141]; exact f157
              have f199 : h195 q135 = some (.inl (d.2 1, 6, .inr (.inl F194))) := by rw [eh195]; exact tw_up_s
              refine tw_dup dX10_worldNow_117 rfl ?_
              refine tw_iconst (v := 3) dX10_worldNow_118 (by decide) ?_
              refine tw_aload_n 0 dX10_worldNow_119 rfl rfl ?_
              obtain ⟨e200, f201, th_202, td_203, ds_204, fr_205, ca_206, us_207, wo_208, cm_209, lc_210, lh_211, ld_212, rfl, k213, k214, k215, k216, k217, k218, k219, k220, k221, k222, k223, k224, k225, k226, k227, k228, k229, k230⟩ := sp196.1 x 36 kx (by decide)
              refine tw_get (v := .ref us_207) rfl in_14 6 dX10_worldNow_120 w_1157 rfl (by decide) f201 rfl ?_
              refine tw_iload_n 1 dX10_worldNow_123 rfl rfl ?_
              obtain ⟨e231, f232, F233, rfl⟩ := sp196.1 us_207 31 k216 (by decide)
              obtain ⟨v234, ev234⟩ : ∃ y : Int64, F233 (m).toNatClampNeg = y := ⟨_, rfl⟩
              refine tw_lald (v := v234) dX10_worldNow_124 f232 hm ev234 ?_
              refine tw_last dX10_worldNow_125 f199 (vp_in_nI (n := 3) (by decide) (by decide)) ?_
              obtain ⟨F235, eF235⟩ : ∃ z : Nat → Int64, z = vp_updL F194 (3 : Int32).toNatClampNeg v234 := ⟨_, rfl⟩
              rw [← eF235]
              obtain ⟨h236, eh236⟩ : ∃ z : tw_H, z = tw_up h195 q135 (.inl (d.2 1, 6, .inr (.inl F235))) := ⟨_, rfl⟩
              rw [← eh236]
              have sp237 : tw_sp d τ (tw_rm h108 it102) g τ h236 := by rw [eh236]; exact sp196.wl n138 z139
              have f238 : h236 it37 = some (.inr (2, [.int (nI j47), .int l48, .int (g.1 3), .ref lc_11])) := by rw [eh236, tw_up_n ne140]; exact f197
              have f239 : h236 it102 = some (.inr (2, [.int (nI j114), .int l115, .int (g.1 4), .ref lh_77])) := by rw [eh236, tw_up_n ne141]; exact f198
              have f240 : h236 q135 = some (.inl (d.2 1, 6, .inr (.inl F235))) := by rw [eh236]; exact tw_up_s
              refine tw_dup dX10_worldNow_126 rfl ?_
              refine tw_iconst (v := 4) dX10_worldNow_127 (by decide) ?_
              refine tw_aload_n 0 dX10_worldNow_128 rfl rfl ?_
              obtain ⟨e241, f242, th_243, td_244, ds_245, fr_246, ca_247, us_248, wo_249, cm_250, lc_251, lh_252, ld_253, rfl, k254, k255, k256, k257, k258, k259, k260, k261, k262, k263, k264, k265, k266, k267, k268, k269, k270, k271⟩ := sp237.1 x 36 kx (by decide)
              refine tw_get (v := .ref wo_249) rfl in_14 7 dX10_worldNow_129 w_1158 rfl (by decide) f242 rfl ?_
              refine tw_iload_n 1 dX10_worldNow_132 rfl rfl ?_
              obtain ⟨e272, f273, F274, rfl⟩ := sp237.1 wo_249 31 k258 (by decide)
              obtain ⟨v275, ev275⟩ : ∃ y : Int64, F274 (m).toNatClampNeg = y := ⟨_, rfl⟩
              refine tw_lald (v := v275) dX10_worldNow_133 f273 hm ev275 ?_
              refine tw_last dX10_worldNow_134 f240 (vp_in_nI (n := 4) (by decide) (by decide)) ?_
              obtain ⟨F276, eF276⟩ : ∃ z : Nat → Int64, z = vp_updL F235 (4 : Int32).toNatClampNeg v275 := ⟨_, rfl⟩
              rw [← eF276]
              obtain ⟨h277, eh277⟩ : ∃ z : tw_H, z = tw_up h236 q135 (.inl (d.2 1, 6, .inr (.inl F276))) := ⟨_, rfl⟩
              rw [← eh277]
              have sp278 : tw_sp d τ (tw_rm h108 it102) g τ h277 := by rw [eh277]; exact sp237.wl n138 z139
              have f279 : h277 it37 = some (.inr (2, [.int (nI j47), .int l48, .int (g.1 3), .ref lc_11])) := by rw [eh277, tw_up_n ne140]; exact f238
              have f280 : h277 it102 = some (.inr (2, [.int (nI j114), .int l115, .int (g.1 4), .ref lh_77])) := by rw [eh277, tw_up_n ne141]; exact f239
              have f281 : h277 q135 = some (.inl (d.2 1, 6, .inr (.inl F276))) := by rw [eh277]; exact tw_up_s
              refine tw_dup dX10_worldNow_135 rfl ?_
              refine tw_iconst (v := 5) dX10_worldNow_136 (by decide) ?_
              refine tw_aload_n 0 dX10_worldNow_137 rfl rfl ?_
              obtain ⟨e282, f283, th_284, td_285, ds_286, fr_287, ca_288, us_289, wo_290, cm_291, lc_292, lh_293, ld_294, rfl, k295, k296, k297, k298, k299, k300, k301, k302, k303, k304, k305, k306, k307, k308, k309, k310, k311, k312⟩ := sp278.1 x 36 kx (by decide)
              refine tw_get (v := .ref cm_291) rfl in_14 8 dX10_worldNow_138 w_1159 rfl (by decide) f283 rfl ?_
              refine tw_iload_n 1 dX10_worldNow_141 rfl rfl ?_
              obtain ⟨e313, f314, F315, rfl⟩ := sp278.1 cm_291 31 k300 (by decide)
              obtain ⟨v316, ev316⟩ : ∃ y : Int64, F315 (m).toNatClampNeg = y := ⟨_, rfl⟩
              refine tw_lald (v := v316) dX10_worldNow_142 f314 hm ev316 ?_
              refine tw_last dX10_worldNow_143 f281 (vp_in_nI (n := 5) (by decide) (by decide)) ?_
              obtain ⟨F317, eF317⟩ : ∃ z : Nat → Int64, z = vp_updL F276 (5 : Int32).toNatClampNeg v316 := ⟨_, rfl⟩
              rw [← eF317]
              obtain ⟨h318, eh318⟩ : ∃ z : tw_H, z = tw_up h277 q135 (.inl (d.2 1, 6, .inr (.inl F317))) := ⟨_, rfl⟩
              rw [← eh318]
              have sp319 : tw_sp d τ (tw_rm h108 it102) g τ h318 := by rw [eh318]; exact sp278.wl n138 z139
              have f320 : h318 it37 = some (.inr (2, [.int (nI j47), .int l48, .int (g.1 3), .ref lc_11])) := by rw [eh318, tw_up_n ne140]; exact f279
              have f321 : h318 it102 = some (.inr (2, [.int (nI j114), .int l115, .int (g.1 4), .ref lh_77])) := by rw [eh318, tw_up_n ne141]; exact f280
              have f322 : h318 q135 = some (.inl (d.2 1, 6, .inr (.inl F317))) := by rw [eh318]; exact tw_up_s
              refine tw_astore [(7, .ref q135), (0, .ref x), (1, .int m), (2, .int w9), (3, .long x45), (5, .long x112)] dX10_worldNow_144 (by decide) rfl ?_
              refine tw_aload 0 dX10_worldNow_146 rfl ?_
              refine tw_iload_n 3 dX10_worldNow_148 rfl rfl ?_
              obtain ⟨v323, ev323⟩ : ∃ y : Int64, F317 (w9).toNatClampNeg = y := ⟨_, rfl⟩
              refine tw_lald (v := v323) dX10_worldNow_149 f322 hw9 ev323 ?_
              refine tw_l2i dX10_worldNow_150 ?_
              refine tw_nmi (fun v324 ev324 => ?_)
              exact tw_iret dX10_worldNow_151 rfl (Or.inl ⟨_, rfl, (sp43.trm n40 (sp109.trm n105 sp319))⟩)
            · rw [q131r]
              refine tw_if_eq 95 dX10_worldNow_65 (by decide) (fun c325 => absurd c325 (by decide)) (fun _ => ?_)
              refine tw_aload 5 dX10_worldNow_68 rfl ?_
              have k326 : τ el128 = 28 := k129.resolve_left (fun q => absurd q131j (by rw [q.2.1]; exact Nat.not_lt_zero _))
              obtain ⟨e327, f328, ⟨F329, rfl, hc330, hc331⟩, un332⟩ := sp119.1 el128 28 k326 (by decide)
              obtain ⟨y333, hy334, ky335⟩ := hc331 j114 q131j
              refine tw_br (tw_callF (M := mX10_worldNow) (pc := 70) (n9 := 0) (ci := 2) tw_next ok_itNext w_1425 w_1423 (fun s H z => z.2.2.2.2.2.2.2.2.2) (by decide +kernel) dX10_worldNow_70 w_1420 rfl ft120 [] [] rfl rfl ⟨by decide, by decide⟩ (Nat.le_of_ble_eq_true rfl) (c_next d h118 it102 lh_77 el128 j114 (g.2 4) y333 l115 (g.1 4) F329 ft120 f127 f328 q131j hc330 hy334) 1 6 (Nat.le_of_ble_eq_true rfl) (Nat.le_of_ble_eq_true rfl)) (fun r338 h337 q336 => ?_) (fun E h1 q => q.elim)
              obtain ⟨q336r, q336e⟩ := q336
              rw [q336r]
              have sp339 : tw_sp d τ (tw_rm h108 it102) g τ h337 := by rw [q336e]; exact sp119.wl tw_rm_s zt121
              have f340 : h337 it37 = some (.inr (2, [.int (nI j47), .int l48, .int (g.1 3), .ref lc_11])) := by rw [q336e, tw_up_n ne107]; exact f124
              have f341 : h337 it102 = some (.inr (2, [.int (nI (j114 + 1)), .int (nI j114), .int (g.1 4), .ref lh_77])) := by rw [q336e]; exact tw_up_s
              obtain ⟨e342, f343, x_344, y_345, dy_346, p_347, rfl, k348, k349, k350⟩ := sp339.1 y333 23 ky335 (by decide)
              refine tw_castS (ci := 13) rfl dX10_worldNow_75 w_1336 f343 ?_
              refine tw_astore [(8, .ref y333), (0, .ref x), (1, .int m), (2, .int w9), (3, .long x45), (5, .long x112), (7, .ref it102)] dX10_worldNow_78 (by decide) rfl ?_
              refine tw_lload 5 dX10_worldNow_80 rfl ?_
              refine tw_aload 0 dX10_worldNow_82 rfl ?_
              refine tw_get (v := .ref p_347) rfl in_13 3 dX10_worldNow_84 w_1348 rfl (by decide) f343 rfl ?_
              refine tw_iload_n 2 dX10_worldNow_87 rfl rfl ?_
              obtain ⟨e351, f352, F353, rfl⟩ := sp339.1 p_347 31 k348 (by decide)
              obtain ⟨v354, ev354⟩ : ∃ y : Int64, F353 (m).toNatClampNeg = y := ⟨_, rfl⟩
              refine tw_lald (v := v354) dX10_worldNow_88 f352 hm ev354 ?_
              refine tw_ladd dX10_worldNow_89 ?_
              refine tw_nml (fun v355 ev355 => ?_)
              refine tw_lstore [(5, .long v355), (8, .ref y333), (0, .ref x), (1, .int m), (2, .int w9), (3, .long x45), (7, .ref it102)] dX10_worldNow_90 (by decide) rfl ?_
              refine tw_goto 58 dX10_worldNow_92 (by decide) ?_
              refine tw_lv [2, 3, 4, 5, 0, 6] rfl ?_
              exact ih116 ((j114 + 1)) (nI j114) v355 _ sp339 f341 zt121  (by omega) (by omega)
        refine tw_lv [1, 2, 3, 4, 5, 0] rfl ?_
        exact L117 (g.2 4 + 1) 0 (-1) 0 _ (tw_sp.rm sp109.1 it102) f111 z106  (by omega) (Nat.zero_le _)
      · rw [q62r]
        refine tw_if_eq 49 dX10_worldNow_21 (by decide) (fun c356 => absurd c356 (by decide)) (fun _ => ?_)
        refine tw_aload 5 dX10_worldNow_24 rfl ?_
        have k357 : τ el59 = 27 := k60.resolve_left (fun q => absurd q62j (by rw [q.2.1]; exact Nat.not_lt_zero _))
        obtain ⟨e358, f359, ⟨F360, rfl, hc361, hc362⟩, un363⟩ := sp52.1 el59 27 k357 (by decide)
        obtain ⟨y364, hy365, ky366⟩ := hc362 j47 q62j
        refine tw_br (tw_callF (M := mX10_worldNow) (pc := 26) (n9 := 0) (ci := 2) tw_next ok_itNext w_1425 w_1423 (fun s H z => z.2.2.2.2.2.2.2.2.2) (by decide +kernel) dX10_worldNow_26 w_1420 rfl ft53 [] [] rfl rfl ⟨by decide, by decide⟩ (Nat.le_of_ble_eq_true rfl) (c_next d h51 it37 lc_11 el59 j47 (g.2 3) y364 l48 (g.1 3) F360 ft53 f58 f359 q62j hc361 hy365) 2 10 (Nat.le_of_ble_eq_true rfl) (Nat.le_of_ble_eq_true rfl)) (fun r369 h368 q367 => ?_) (fun E h1 q => q.elim)
        obtain ⟨q367r, q367e⟩ := q367
        rw [q367r]
        have sp370 : tw_sp d τ (tw_rm h42 it37) g τ h368 := by rw [q367e]; exact sp52.wl tw_rm_s zt54
        have f371 : h368 it37 = some (.inr (2, [.int (nI (j47 + 1)), .int (nI j47), .int (g.1 3), .ref lc_11])) := by rw [q367e]; exact tw_up_s
        obtain ⟨e372, f373, r_374, c_375, v_376, o_377, t_378, rfl, k379, k380, k381, k382, k383, k384⟩ := sp370.1 y364 21 ky366 (by decide)
        refine tw_castS (ci := 11) rfl dX10_worldNow_31 w_1212 f373 ?_
        refine tw_astore [(8, .ref y364), (0, .ref x), (1, .int m), (2, .int w9), (3, .long x45), (5, .long 0), (7, .ref it37)] dX10_worldNow_34 (by decide) rfl ?_
        refine tw_lload_n 4 dX10_worldNow_36 rfl rfl ?_
        refine tw_aload 0 dX10_worldNow_37 rfl ?_
        refine tw_get (v := .ref v_376) rfl in_11 2 dX10_worldNow_39 w_1221 rfl (by decide) f373 rfl ?_
        refine tw_iload_n 2 dX10_worldNow_42 rfl rfl ?_
        obtain ⟨e385, f386, F387, rfl⟩ := sp370.1 v_376 31 k379 (by decide)
        obtain ⟨v388, ev388⟩ : ∃ y : Int64, F387 (m).toNatClampNeg = y := ⟨_, rfl⟩
        refine tw_lald (v := v388) dX10_worldNow_43 f386 hm ev388 ?_
        refine tw_ladd dX10_worldNow_44 ?_
        refine tw_nml (fun v389 ev389 => ?_)
        refine tw_lstore_n [(3, .long v389), (8, .ref y364), (0, .ref x), (1, .int m), (2, .int w9), (5, .long 0), (7, .ref it37)] dX10_worldNow_45 rfl (by decide) rfl ?_
        refine tw_goto 14 dX10_worldNow_46 (by decide) ?_
        refine tw_lv [2, 3, 4, 0, 5, 6] rfl ?_
        exact ih49 ((j47 + 1)) (nI j47) v389 _ sp370 f371 zt54  (by omega) (by omega)
  refine tw_lv [3, 4, 5, 2, 1, 0] rfl ?_
  exact L50 (g.2 3 + 1) 0 (-1) 0 _ (tw_sp.rm sp43.1 it37) f44 z41  (by omega) (Nat.zero_le _)

set_option maxHeartbeats 4000000 in
set_option maxRecDepth 100000 in
theorem c_X10_world (d : tw_D) (g : tw_G) (τ : tw_K) (h : tw_H) (hw : tw_wt d g τ h) (x : Nat) (kx : τ x = 36) (m : Int32) (w9 : Int32) : tw_Ct d mX10_world 3 14 [.ref x, .int m, .int w9] h (tw_qi (fun r h1 => tw_sp d τ h g τ h1) tw_nx) := by
  refine tw_of (by decide +kernel) (Nat.le_of_ble_eq_true rfl) ?_
  show tw_W d mX10_world _ 0 [(0, .ref x), (1, .int m), (2, .int w9)] [] h 3 14
  have sp0 := tw_sp.rf hw
  refine tw_aload_n 0 dX10_world_0 rfl rfl ?_
  refine tw_iload_n 1 dX10_world_1 rfl rfl ?_
  refine tw_bi (tw_callS (M := mX10_world) (pc := 2) okX10_isNoMetal dX10_world_2 w_1312 [.int m] [.ref x] rfl rfl ⟨by decide, by decide⟩ (Nat.le_of_ble_eq_true rfl) (c_X10_isNoMetal d g τ h sp0.1 m) 3 14 (Nat.le_of_ble_eq_true rfl) (Nat.le_of_ble_eq_true rfl)) (fun r3 h2 q1 => ?_) (fun E h1 q => q.elim)
  obtain ⟨q1e, q1d⟩ := q1
  rw [q1e]
  rcases q1d with q1r | ⟨q1r, q1m⟩
  · rw [q1r]
    refine tw_if_ne 17 dX10_world_5 (by decide) (fun _ => ?_) (fun c4 => absurd c4 (by decide))
    refine tw_iconst (v := 1) dX10_world_17 (by decide) ?_
    refine tw_goto 22 dX10_world_18 (by decide) ?_
    refine tw_iconst (v := 1) dX10_world_22 (by decide) ?_
    obtain ⟨e5, f6, th_7, td_8, ds_9, fr_10, ca_11, us_12, wo_13, cm_14, lc_15, lh_16, ld_17, rfl, k18, k19, k20, k21, k22, k23, k24, k25, k26, k27, k28, k29, k30, k31, k32, k33, k34, k35⟩ := sp0.1 x 36 kx (by decide)
    refine tw_bi (tw_callV (M := mX10_world) (pc := 23) okX10_start dX10_world_23 w_1200 rfl f6 [.int 1, .int 1] [] rfl rfl ⟨by decide, by decide⟩ (Nat.le_of_ble_eq_true rfl) (c_X10_start d g τ h sp0.1 x kx 1 1 (by decide)) 3 14 (Nat.le_of_ble_eq_true rfl) (Nat.le_of_ble_eq_true rfl)) (fun r38 h37 q36 => ?_) (fun E h1 q => q.elim)
    obtain ⟨e39, he40, hs41, hr42, h343⟩ := q36
    have sp44 : tw_sp d τ h g τ h37 := by rw [he40]; exact sp0.set kx (by decide) hs41
    rcases hr42 with ei45 | ⟨ei45, ei45b⟩
    · rw [ei45]
      refine tw_if_eq 33 dX10_world_26 (by decide) (fun c46 => absurd c46 (by decide)) (fun _ => ?_)
      refine tw_iconst (v := 0) dX10_world_29 (by decide) ?_
      refine tw_goto 39 dX10_world_30 (by decide) ?_
      exact tw_iret dX10_world_39 rfl (Or.inl ⟨_, rfl, sp44⟩)
    · exact absurd ei45b (by decide)
  · rw [q1r]
    refine tw_if_ne 17 dX10_world_5 (by decide) (fun c47 => absurd (by decide) c47) (fun _ => ?_)
    refine tw_iload_n 2 dX10_world_8 rfl rfl ?_
    refine tw_iconst (v := 0) dX10_world_9 (by decide) ?_
    refine tw_iconst (v := 5) dX10_world_10 (by decide) ?_
    refine tw_bi (tw_callS (M := mX10_world) (pc := 11) okX10_isIn dX10_world_11 w_1196 [.int w9, .int 0, .int 5] [.ref x] rfl rfl ⟨by decide, by decide⟩ (Nat.le_of_ble_eq_true rfl) (c_X10_isIn d g τ h sp0.1 w9 0 5) 3 14 (Nat.le_of_ble_eq_true rfl) (Nat.le_of_ble_eq_true rfl)) (fun r50 h49 q48 => ?_) (fun E h1 q => q.elim)
    obtain ⟨q48e, q48d⟩ := q48
    rw [q48e]
    rcases q48d with ⟨q48r, q48n⟩ | ⟨q48r, q48a, q48b⟩
    · rw [q48r]
      refine tw_if_ne 21 dX10_world_14 (by decide) (fun c51 => absurd (by decide) c51) (fun _ => ?_)
      refine tw_iconst (v := 1) dX10_world_17 (by decide) ?_
      refine tw_goto 22 dX10_world_18 (by decide) ?_
      refine tw_iconst (v := 1) dX10_world_22 (by decide) ?_
      obtain ⟨e52, f53, th_54, td_55, ds_56, fr_57, ca_58, us_59, wo_60, cm_61, lc_62, lh_63, ld_64, rfl, k65, k66, k67, k68, k69, k70, k71, k72, k73, k74, k75, k76, k77, k78, k79, k80, k81, k82⟩ := sp0.1 x 36 kx (by decide)
      refine tw_bi (tw_callV (M := mX10_world) (pc := 23) okX10_start dX10_world_23 w_1200 rfl f53 [.int 1, .int 1] [] rfl rfl ⟨by decide, by decide⟩ (Nat.le_of_ble_eq_true rfl) (c_X10_start d g τ h sp0.1 x kx 1 1 (by decide)) 3 14 (Nat.le_of_ble_eq_true rfl) (Nat.le_of_ble_eq_true rfl)) (fun r85 h84 q83 => ?_) (fun E h1 q => q.elim)
      obtain ⟨e86, he87, hs88, hr89, h390⟩ := q83
      have sp91 : tw_sp d τ h g τ h84 := by rw [he87]; exact sp0.set kx (by decide) hs88
      rcases hr89 with ei92 | ⟨ei92, ei92b⟩
      · rw [ei92]
        refine tw_if_eq 33 dX10_world_26 (by decide) (fun c93 => absurd c93 (by decide)) (fun _ => ?_)
        refine tw_iconst (v := 0) dX10_world_29 (by decide) ?_
        refine tw_goto 39 dX10_world_30 (by decide) ?_
        exact tw_iret dX10_world_39 rfl (Or.inl ⟨_, rfl, sp91⟩)
      · exact absurd ei92b (by decide)
    · rw [q48r]
      refine tw_if_ne 21 dX10_world_14 (by decide) (fun _ => ?_) (fun c94 => absurd c94 (by decide))
      refine tw_iconst (v := 0) dX10_world_21 (by decide) ?_
      refine tw_iconst (v := 1) dX10_world_22 (by decide) ?_
      obtain ⟨e95, f96, th_97, td_98, ds_99, fr_100, ca_101, us_102, wo_103, cm_104, lc_105, lh_106, ld_107, rfl, k108, k109, k110, k111, k112, k113, k114, k115, k116, k117, k118, k119, k120, k121, k122, k123, k124, k125⟩ := sp0.1 x 36 kx (by decide)
      refine tw_bi (tw_callV (M := mX10_world) (pc := 23) okX10_start dX10_world_23 w_1200 rfl f96 [.int 0, .int 1] [] rfl rfl ⟨by decide, by decide⟩ (Nat.le_of_ble_eq_true rfl) (c_X10_start d g τ h sp0.1 x kx 0 1 (by decide)) 3 14 (Nat.le_of_ble_eq_true rfl) (Nat.le_of_ble_eq_true rfl)) (fun r128 h127 q126 => ?_) (fun E h1 q => q.elim)
      obtain ⟨e129, he130, hs131, hr132, h3133⟩ := q126
      have sp134 : tw_sp d τ h g τ h127 := by rw [he130]; exact sp0.set kx (by decide) hs131
      rcases hr132 with ei135 | ⟨ei135, ei135b⟩
      · rw [ei135]
        refine tw_if_eq 33 dX10_world_26 (by decide) (fun c136 => absurd c136 (by decide)) (fun _ => ?_)
        refine tw_iconst (v := 0) dX10_world_29 (by decide) ?_
        refine tw_goto 39 dX10_world_30 (by decide) ?_
        exact tw_iret dX10_world_39 rfl (Or.inl ⟨_, rfl, sp134⟩)
      · rw [ei135]
        refine tw_if_eq 33 dX10_world_26 (by decide) (fun _ => ?_) (fun c137 => absurd (by decide) c137)
        refine tw_aload_n 0 dX10_world_33 rfl rfl ?_
        refine tw_iload_n 1 dX10_world_34 rfl rfl ?_
        refine tw_iload_n 2 dX10_world_35 rfl rfl ?_
        obtain ⟨e138, f139, th_140, td_141, ds_142, fr_143, ca_144, us_145, wo_146, cm_147, lc_148, lh_149, ld_150, rfl, k151, k152, k153, k154, k155, k156, k157, k158, k159, k160, k161, k162, k163, k164, k165, k166, k167, k168⟩ := sp134.1 x 36 kx (by decide)
        refine tw_bi (tw_callV (M := mX10_world) (pc := 36) okX10_worldNow dX10_world_36 w_1537 rfl f139 [.int m, .int w9] [] rfl rfl ⟨by decide, by decide⟩ (Nat.le_of_ble_eq_true rfl) (c_X10_worldNow d g τ h127 sp134.1 x kx m w9 (tw_in01 q1m (by decide)) (tw_irng (N := 6) q48a q48b (by decide) (by decide))) 0 0 (Nat.le_of_ble_eq_true rfl) (Nat.le_of_ble_eq_true rfl)) (fun r171 h170 q169 => ?_) (fun E h1 q => q.elim)
        have sp172 := sp134.tr q169
        exact tw_iret dX10_world_39 rfl (Or.inl ⟨_, rfl, sp172⟩)

set_option maxHeartbeats 4000000 in
set_option maxRecDepth 100000 in
theorem c_X10_ofCountryNow (d : tw_D) (g : tw_G) (τ : tw_K) (h : tw_H) (hw : tw_wt d g τ h) (x : Nat) (kx : τ x = 36) (w9 : Int32) (a : Nat) (ha : a < g.2 3) (hw9 : vp_in w9 9) : tw_Ct d mX10_ofCountryNow 3 17 [.ref x, .int (nI a), .int w9] h (tw_qi (fun r h1 => tw_sp d τ h g τ h1) tw_nx) := by
  refine tw_of (by decide +kernel) (Nat.le_of_ble_eq_true rfl) ?_
  show tw_W d mX10_ofCountryNow _ 0 [(0, .ref x), (1, .int (nI a)), (2, .int w9)] [] h 3 17
  have sp0 := tw_sp.rf hw
  refine tw_aload_n 0 dX10_ofCountryNow_0 rfl rfl ?_
  obtain ⟨e1, f2, th_3, td_4, ds_5, fr_6, ca_7, us_8, wo_9, cm_10, lc_11, lh_12, ld_13, rfl, k14, k15, k16, k17, k18, k19, k20, k21, k22, k23, k24, k25, k26, k27, k28, k29, k30, k31⟩ := sp0.1 x 36 kx (by decide)
  refine tw_get (v := .ref lc_11) rfl in_14 9 dX10_ofCountryNow_1 w_1160 rfl (by decide) f2 rfl ?_
  refine tw_iload_n 1 dX10_ofCountryNow_4 rfl rfl ?_
  obtain ⟨e32, f33, ⟨el34, rfl, k35⟩, k36⟩ := sp0.1 lc_11 24 k20 (by decide)
  refine tw_br (tw_callV (M := mX10_ofCountryNow) (pc := 5) okJx4a65c_get_915e3 dX10_ofCountryNow_5 w_1296 rfl f33 [.int (nI a)] [] rfl rfl ⟨by decide, by decide⟩ (Nat.le_of_ble_eq_true rfl) (c24_get d g τ h sp0.1 lc_11 k20 a (by omega) (by omega)) 3 17 (Nat.le_of_ble_eq_true rfl) (Nat.le_of_ble_eq_true rfl)) (fun r39 h38 q37 => ?_) (fun E h1 q => q.elim)
  obtain ⟨q37e, q37k⟩ := q37
  rw [q37e]
  have el40 : tw_el h (g.2 12) a = r39 := by rw [← k36]; exact q37k.2.symm
  have kl41 : τ (g.2 12) = 24 := by rw [← k36]; exact k20
  obtain ⟨e42, f43, r_44, c_45, v_46, o_47, t_48, rfl, k49, k50, k51, k52, k53, k54⟩ := sp0.1 r39 21 q37k.1 (by decide)
  refine tw_castS (ci := 11) rfl dX10_ofCountryNow_8 w_1212 f43 ?_
  refine tw_astore_n [(3, .ref r39), (0, .ref x), (1, .int (nI a)), (2, .int w9)] dX10_ofCountryNow_11 rfl (by decide) rfl ?_
  refine tw_iconst (v := 0) dX10_ofCountryNow_12 (by decide) ?_
  refine tw_istore [(4, .int 0), (3, .ref r39), (0, .ref x), (1, .int (nI a)), (2, .int w9)] dX10_ofCountryNow_13 (by decide) rfl ?_
  refine tw_iconst (v := 0) dX10_ofCountryNow_15 (by decide) ?_
  refine tw_istore [(5, .int 0), (4, .int 0), (3, .ref r39), (0, .ref x), (1, .int (nI a)), (2, .int w9)] dX10_ofCountryNow_16 (by decide) rfl ?_
  refine tw_iconst (v := 0) dX10_ofCountryNow_18 (by decide) ?_
  refine tw_istore [(6, .int 0), (5, .int 0), (4, .int 0), (3, .ref r39), (0, .ref x), (1, .int (nI a)), (2, .int w9)] dX10_ofCountryNow_19 (by decide) rfl ?_
  refine tw_aload_n 4 dX10_ofCountryNow_21 rfl rfl ?_
  refine tw_get (v := .ref lh_12) rfl in_14 10 dX10_ofCountryNow_22 w_1161 rfl (by decide) f2 rfl ?_
  obtain ⟨e55, f56, ⟨el57, rfl, k58⟩, k59⟩ := sp0.1 lh_12 25 k21 (by decide)
  refine tw_br (tw_callV (M := mX10_ofCountryNow) (pc := 25) okJx4a65c_iterator_32c93 dX10_ofCountryNow_25 w_1386 rfl f56 [] [] rfl rfl ⟨by decide, by decide⟩ (Nat.le_of_ble_eq_true rfl) (c_iterator d h lh_12 el57 (g.1 4) (nI (g.2 4)) f56) 2 13 (Nat.le_of_ble_eq_true rfl) (Nat.le_of_ble_eq_true rfl)) (fun it60 h61 q62 => ?_) (fun E h1 q => q.elim)
  obtain ⟨q62n, q62e⟩ := q62
  rw [q62e]
  have n63 := sp0.nn q62n
  have z64 := sp0.1.none q62n
  obtain ⟨h65, eh65⟩ : ∃ z : tw_H, z = tw_up h it60 (.inr (2, [.int 0, .int (-1), .int (g.1 4), .ref lh_12])) := ⟨_, rfl⟩
  rw [← eh65]
  have sp66 : tw_sp d τ h g τ h65 := by rw [eh65]; exact sp0.mk q62n
  have f67 : h65 it60 = some (.inr (2, [.int 0, .int (-1), .int (g.1 4), .ref lh_12])) := by rw [eh65]; exact tw_up_s
  refine tw_astore [(7, .ref it60), (6, .int 0), (5, .int 0), (4, .int 0), (3, .ref r39), (0, .ref x), (1, .int (nI a)), (2, .int w9)] dX10_ofCountryNow_28 (by decide) rfl ?_
  have L73 : ∀ (r69 j70 : Nat) (l71 : Int32) (x68 : Int32) (h74 : tw_H) (sp75 : tw_sp d τ (tw_rm h65 it60) g τ h74) (ft76 : h74 it60 = some (.inr (2, [.int (nI j70), .int l71, .int (g.1 4), .ref lh_12]))) (zt77 : τ it60 = 0), g.2 4 + 1 ≤ j70 + r69 → j70 ≤ g.2 4 → tw_W d mX10_ofCountryNow (tw_qi (fun r h1 => tw_sp d τ h g τ h1) tw_nx) 30 [(0, .ref x), (1, .int (nI a)), (2, .int w9), (3, .ref r39), (4, .int x68), (5, .int 0), (6, .int 0), (7, .ref it60)] [] h74 2 13 := by
    intro r69
    induction r69 with
    | zero => intro j70 l71 x68 h74 sp75 ft76 zt77 hk78 hk79; exact absurd hk78 (by omega)
    | succ r69 ih72 =>
      intro j70 l71 x68 h74 sp75 ft76 zt77 hk78 hk79
      refine tw_aload 7 dX10_ofCountryNow_30 rfl ?_
      obtain ⟨e80, f81, ⟨el82, rfl, k83⟩, k84⟩ := sp75.1 lh_12 25 k21 (by decide)
      refine tw_bi (tw_callF (M := mX10_ofCountryNow) (pc := 32) (n9 := 0) (ci := 2) tw_hasNext ok_itHas w_1416 w_1414 (fun s H z => z.2.2.2.2.2.2.2.2.1) (by decide +kernel) dX10_ofCountryNow_32 w_1410 rfl ft76 [] [] rfl rfl ⟨by decide, by decide⟩ (Nat.le_of_ble_eq_true rfl) (c_hasNext d h74 it60 lh_12 el82 j70 (g.2 4) l71 (g.1 4) (g.1 4) ft76 f81 (by omega) (tw_lim25 sp75.1 k21)) 2 13 (Nat.le_of_ble_eq_true rfl) (Nat.le_of_ble_eq_true rfl)) (fun r87 h86 q85 => ?_) (fun E h1 q => q.elim)
      obtain ⟨q85e, q85q⟩ := q85
      rw [q85e]
      rcases q85q with ⟨q85r, q85j⟩ | ⟨q85r, q85j⟩
      · rw [q85r]
        refine tw_if_eq 74 dX10_ofCountryNow_37 (by decide) (fun _ => ?_) (fun c88 => absurd (by decide) c88)
        refine tw_iconst (v := 0) dX10_ofCountryNow_74 (by decide) ?_
        refine tw_istore [(7, .int 0), (0, .ref x), (1, .int (nI a)), (2, .int w9), (3, .ref r39), (4, .int x68), (5, .int 0), (6, .int 0)] dX10_ofCountryNow_75 (by decide) rfl ?_
        have L93 : ∀ (r91 k90 : Nat) (x89 : Int32), 5 + 1 ≤ k90 + r91 → k90 ≤ 5 → tw_W d mX10_ofCountryNow (tw_qi (fun r h1 => tw_sp d τ h g τ h1) tw_nx) 77 [(0, .ref x), (1, .int (nI a)), (2, .int w9), (3, .ref r39), (4, .int x68), (5, .int x89), (6, .int 0), (7, .int (nI k90))] [] h74 2 13 := by
          intro r91
          induction r91 with
          | zero => intro k90 x89 hk97 hk98; exact absurd hk97 (by omega)
          | succ r91 ih92 =>
            intro k90 x89 hk97 hk98
            refine tw_iload 7 dX10_ofCountryNow_77 rfl ?_
            refine tw_iconst (v := 5) dX10_ofCountryNow_79 (by decide) ?_
            refine tw_icmp_ge 108 dX10_ofCountryNow_80 (by decide) (fun c99 => ?_) (fun c99 => ?_)
            · refine tw_aload_n 0 dX10_ofCountryNow_108 rfl rfl ?_
              obtain ⟨e100, f101, th_102, td_103, ds_104, fr_105, ca_106, us_107, wo_108, cm_109, lc_110, lh_111, ld_112, rfl, k113, k114, k115, k116, k117, k118, k119, k120, k121, k122, k123, k124, k125, k126, k127, k128, k129, k130⟩ := sp75.1 x 36 kx (by decide)
              refine tw_get (v := .ref lc_110) rfl in_14 9 dX10_ofCountryNow_109 w_1160 rfl (by decide) f101 rfl ?_
              obtain ⟨e131, f132, ⟨el133, rfl, k134⟩, k135⟩ := sp75.1 lc_110 24 k119 (by decide)
              refine tw_br (tw_callV (M := mX10_ofCountryNow) (pc := 112) okJx4a65c_iterator_32c93 dX10_ofCountryNow_112 w_1386 rfl f132 [] [] rfl rfl ⟨by decide, by decide⟩ (Nat.le_of_ble_eq_true rfl) (c_iterator d h74 lc_110 el133 (g.1 3) (nI (g.2 3)) f132) 1 9 (Nat.le_of_ble_eq_true rfl) (Nat.le_of_ble_eq_true rfl)) (fun it136 h137 q138 => ?_) (fun E h1 q => q.elim)
              obtain ⟨q138n, q138e⟩ := q138
              rw [q138e]
              have n139 := sp75.nn q138n
              have z140 := sp75.1.none q138n
              have ne141 := tw_neF ft76 q138n
              obtain ⟨h142, eh142⟩ : ∃ z : tw_H, z = tw_up h74 it136 (.inr (2, [.int 0, .int (-1), .int (g.1 3), .ref lc_110])) := ⟨_, rfl⟩
              rw [← eh142]
              have sp143 : tw_sp d τ (tw_rm h65 it60) g τ h142 := by rw [eh142]; exact sp75.mk q138n
              have f144 : h142 it60 = some (.inr (2, [.int (nI j70), .int l71, .int (g.1 4), .ref lh_12])) := by rw [eh142, tw_up_n ne141]; exact ft76
              have f145 : h142 it136 = some (.inr (2, [.int 0, .int (-1), .int (g.1 3), .ref lc_110])) := by rw [eh142]; exact tw_up_s
              refine tw_astore [(7, .ref it136), (0, .ref x), (1, .int (nI a)), (2, .int w9), (3, .ref r39), (4, .int x68), (5, .int x89), (6, .int 0)] dX10_ofCountryNow_115 (by decide) rfl ?_
              have L151 : ∀ (r147 j148 : Nat) (l149 : Int32) (x146 : Int32) (h152 : tw_H) (sp153 : tw_sp d τ (tw_rm h142 it136) g τ h152) (ft154 : h152 it136 = some (.inr (2, [.int (nI j148), .int l149, .int (g.1 3), .ref lc_110]))) (zt155 : τ it136 = 0), g.2 3 + 1 ≤ j148 + r147 → j148 ≤ g.2 3 → tw_W d mX10_ofCountryNow (tw_qi (fun r h1 => tw_sp d τ h g τ h1) tw_nx) 117 [(0, .ref x), (1, .int (nI a)), (2, .int w9), (3, .ref r39), (4, .int x68), (5, .int x89), (6, .int x146), (7, .ref it136)] [] h152 1 9 := by
                intro r147
                induction r147 with
                | zero => intro j148 l149 x146 h152 sp153 ft154 zt155 hk156 hk157; exact absurd hk156 (by omega)
                | succ r147 ih150 =>
                  intro j148 l149 x146 h152 sp153 ft154 zt155 hk156 hk157
                  have f158 := (sp153.2.2 _ _ (by unfold tw_rm; rw [if_neg ne141]; exact f144) zt77).1
                  have z159 := (sp153.2.2 _ _ (by unfold tw_rm; rw [if_neg ne141]; exact f144) zt77).2
                  refine tw_aload 7 dX10_ofCountryNow_117 rfl ?_
                  obtain ⟨e160, f161, ⟨el162, rfl, k163⟩, k164⟩ := sp153.1 lc_110 24 k119 (by decide)
                  refine tw_bi (tw_callF (M := mX10_ofCountryNow) (pc := 119) (n9 := 0) (ci := 2) tw_hasNext ok_itHas w_1416 w_1414 (fun s H z => z.2.2.2.2.2.2.2.2.1) (by decide +kernel) dX10_ofCountryNow_119 w_1410 rfl ft154 [] [] rfl rfl ⟨by decide, by decide⟩ (Nat.le_of_ble_eq_true rfl) (c_hasNext d h152 it136 lc_110 el162 j148 (g.2 3) l149 (g.1 3) (g.1 3) ft154 f161 (by omega) (tw_lim24 sp153.1 k119)) 1 9 (Nat.le_of_ble_eq_true rfl) (Nat.le_of_ble_eq_true rfl)) (fun r167 h166 q165 => ?_) (fun E h1 q => q.elim)
                  obtain ⟨q165e, q165q⟩ := q165
                  rw [q165e]
                  rcases q165q with ⟨q165r, q165j⟩ | ⟨q165r, q165j⟩
                  · rw [q165r]
                    refine tw_if_eq 164 dX10_ofCountryNow_124 (by decide) (fun _ => ?_) (fun c168 => absurd (by decide) c168)
                    refine tw_bipush (v := 9) dX10_ofCountryNow_164 (by decide) ?_
                    refine tw_newa (a0 := (9, .inr (.inl (fun _ => 0)))) 1 rfl dX10_ofCountryNow_166 rfl w_1150 (fun _ => rfl) (by decide) (by decide) (by decide) 0 0 (Nat.le_of_ble_eq_true rfl) (Nat.le_of_ble_eq_true rfl) (fun q169 hq170 hA171 => ?_)
                    have n172 := sp153.nn hq170
                    have z173 := sp153.1.none hq170
                    have ne174 := tw_neF f158 hq170
                    have ne175 := tw_neF ft154 hq170
                    obtain ⟨h176, eh176⟩ : ∃ z : tw_H, z = tw_up h152 q169 (.inl (d.2 1, 9, .inr (.inl (fun _ => 0)))) := ⟨_, rfl⟩
                    rw [← eh176]
                    have sp177 : tw_sp d τ (tw_rm h142 it136) g τ h176 := by rw [eh176]; exact sp153.mk hq170
                    have f178 : h176 it60 = some (.inr (2, [.int (nI j70), .int l71, .int (g.1 4), .ref lh_12])) := by rw [eh176, tw_up_n ne174]; exact f158
                    have f179 : h176 it136 = some (.inr (2, [.int (nI j148), .int l149, .int (g.1 3), .ref lc_110])) := by rw [eh176, tw_up_n ne175]; exact ft154
                    have f180 : h176 q169 = some (.inl (d.2 1, 9, .inr (.inl (fun _ => 0)))) := by rw [eh176]; exact tw_up_s
                    refine tw_dup dX10_ofCountryNow_168 rfl ?_
                    refine tw_iconst (v := 0) dX10_ofCountryNow_169 (by decide) ?_
                    refine tw_aload_n 3 dX10_ofCountryNow_170 rfl rfl ?_
                    obtain ⟨e181, f182, r_183, c_184, v_185, o_186, t_187, rfl, k188, k189, k190, k191, k192, k193⟩ := sp177.1 r39 21 q37k.1 (by decide)
                    refine tw_get (v := .int r_183) rfl in_11 0 dX10_ofCountryNow_171 w_1218 rfl (by decide) f182 rfl ?_
                    refine tw_i2l dX10_ofCountryNow_174 ?_
                    refine tw_nml (fun v194 ev194 => ?_)
                    refine tw_last dX10_ofCountryNow_175 f180 (vp_in_nI (n := 0) (by decide) (by decide)) ?_
                    obtain ⟨F195, eF195⟩ : ∃ z : Nat → Int64, z = vp_updL (fun _ => 0) (0 : Int32).toNatClampNeg v194 := ⟨_, rfl⟩
                    rw [← eF195]
                    obtain ⟨h196, eh196⟩ : ∃ z : tw_H, z = tw_up h176 q169 (.inl (d.2 1, 9, .inr (.inl F195))) := ⟨_, rfl⟩
                    rw [← eh196]
                    have sp197 : tw_sp d τ (tw_rm h142 it136) g τ h196 := by rw [eh196]; exact sp177.wl n172 z173
                    have f198 : h196 it60 = some (.inr (2, [.int (nI j70), .int l71, .int (g.1 4), .ref lh_12])) := by rw [eh196, tw_up_n ne174]; exact f178
                    have f199 : h196 it136 = some (.inr (2, [.int (nI j148), .int l149, .int (g.1 3), .ref lc_110])) := by rw [eh196, tw_up_n ne175]; exact f179
                    have f200 : h196 q169 = some (.inl (d.2 1, 9, .inr (.inl F195))) := by rw [eh196]; exact tw_up_s
                    refine tw_dup dX10_ofCountryNow_176 rfl ?_
                    refine tw_iconst (v := 1) dX10_ofCountryNow_177 (by decide) ?_
                    refine tw_aload_n 3 dX10_ofCountryNow_178 rfl rfl ?_
                    obtain ⟨e201, f202, r_203, c_204, v_205, o_206, t_207, rfl, k208, k209, k210, k211, k212, k213⟩ := sp197.1 r39 21 q37k.1 (by decide)
                    refine tw_get (v := .int c_204) rfl in_11 1 dX10_ofCountryNow_179 w_1219 rfl (by decide) f202 rfl ?_
                    refine tw_i2l dX10_ofCountryNow_182 ?_
                    refine tw_nml (fun v214 ev214 => ?_)
                    refine tw_last dX10_ofCountryNow_183 f200 (vp_in_nI (n := 1) (by decide) (by decide)) ?_
                    obtain ⟨F215, eF215⟩ : ∃ z : Nat → Int64, z = vp_updL F195 (1 : Int32).toNatClampNeg v214 := ⟨_, rfl⟩
                    rw [← eF215]
                    obtain ⟨h216, eh216⟩ : ∃ z : tw_H, z = tw_up h196 q169 (.inl (d.2 1, 9, .inr (.inl F215))) := ⟨_, rfl⟩
                    rw [← eh216]
                    have sp217 : tw_sp d τ (tw_rm h142 it136) g τ h216 := by rw [eh216]; exact sp197.wl n172 z173
                    have f218 : h216 it60 = some (.inr (2, [.int (nI j70), .int l71, .int (g.1 4), .ref lh_12])) := by rw [eh216, tw_up_n ne174]; exact f198
                    have f219 : h216 it136 = some (.inr (2, [.int (nI j148), .int l149, .int (g.1 3), .ref lc_110])) := by rw [eh216, tw_up_n ne175]; exact f199
                    have f220 : h216 q169 = some (.inl (d.2 1, 9, .inr (.inl F215))) := by rw [eh216]; exact tw_up_s
                    refine tw_dup dX10_ofCountryNow_184 rfl ?_
                    refine tw_iconst (v := 2) dX10_ofCountryNow_185 (by decide) ?_
                    refine tw_aload_n 3 dX10_ofCountryNow_186 rfl rfl ?_
                    obtain ⟨e221, f222, r_223, c_224, v_225, o_226, t_227, rfl, k228, k229, k230, k231, k232, k233⟩ := sp217.1 r39 21 q37k.1 (by decide)
                    refine tw_get (v := .ref v_225) rfl in_11 2 dX10_ofCountryNow_187 w_1221 rfl (by decide) f222 rfl ?_
                    refine tw_iconst (v := 0) dX10_ofCountryNow_190 (by decide) ?_
                    obtain ⟨e234, f235, F236, rfl⟩ := sp217.1 v_225 31 k228 (by decide)
                    obtain ⟨v237, ev237⟩ : ∃ y : Int64, F236 (0 : Int32).toNatClampNeg = y := ⟨_, rfl⟩
                    refine tw_lald (v := v237) dX10_ofCountryNow_191 f235 (vp_in_nI (n := 0) (by decide) (by decide)) ev237 ?_
                    refine tw_last dX10_ofCountryNow_192 f220 (vp_in_nI (n := 2) (by decide) (by decide)) ?_
                    obtain ⟨F238, eF238⟩ : ∃ z : Nat → Int64, z = vp_updL F215 (2 : Int32).toNatClampNeg v237 := ⟨_, rfl⟩
                    rw [← eF238]
                    obtain ⟨h239, eh239⟩ : ∃ z : tw_H, z = tw_up h216 q169 (.inl (d.2 1, 9, .inr (.inl F238))) := ⟨_, rfl⟩
                    rw [← eh239]
                    have sp240 : tw_sp d τ (tw_rm h142 it136) g τ h239 := by rw [eh239]; exact sp217.wl n172 z173
                    have f241 : h239 it60 = some (.inr (2, [.int (nI j70), .int l71, .int (g.1 4), .ref lh_12])) := by rw [eh239, tw_up_n ne174]; exact f218
                    have f242 : h239 it136 = some (.inr (2, [.int (nI j148), .int l149, .int (g.1 3), .ref lc_110])) := by rw [eh239, tw_up_n ne175]; exact f219
                    have f243 : h239 q169 = some (.inl (d.2 1, 9, .inr (.inl F238))) := by rw [eh239]; exact tw_up_s
                    refine tw_dup dX10_ofCountryNow_193 rfl ?_
                    refine tw_iconst (v := 3) dX10_ofCountryNow_194 (by decide) ?_
                    refine tw_aload_n 3 dX10_ofCountryNow_195 rfl rfl ?_
                    obtain ⟨e244, f245, r_246, c_247, v_248, o_249, t_250, rfl, k251, k252, k253, k254, k255, k256⟩ := sp240.1 r39 21 q37k.1 (by decide)
                    refine tw_get (v := .ref v_248) rfl in_11 2 dX10_ofCountryNow_196 w_1221 rfl (by decide) f245 rfl ?_
                    refine tw_iconst (v := 1) dX10_ofCountryNow_199 (by decide) ?_
                    obtain ⟨e257, f258, F259, rfl⟩ := sp240.1 v_248 31 k251 (by decide)
                    obtain ⟨v260, ev260⟩ : ∃ y : Int64, F259 (1 : Int32).toNatClampNeg = y := ⟨_, rfl⟩
                    refine tw_lald (v := v260) dX10_ofCountryNow_200 f258 (vp_in_nI (n := 1) (by decide) (by decide)) ev260 ?_
                    refine tw_last dX10_ofCountryNow_201 f243 (vp_in_nI (n := 3) (by decide) (by decide)) ?_
                    obtain ⟨F261, eF261⟩ : ∃ z : Nat → Int64, z = vp_updL F238 (3 : Int32).toNatClampNeg v260 := ⟨_, rfl⟩
                    rw [← eF261]
                    obtain ⟨h262, eh262⟩ : ∃ z : tw_H, z = tw_up h239 q169 (.inl (d.2 1, 9, .inr (.inl F261))) := ⟨_, rfl⟩
                    rw [← eh262]
                    have sp263 : tw_sp d τ (tw_rm h142 it136) g τ h262 := by rw [eh262]; exact sp240.wl n172 z173
                    have f264 : h262 it60 = some (.inr (2, [.int (nI j70), .int l71, .int (g.1 4), .ref lh_12])) := by rw [eh262, tw_up_n ne174]; exact f241
                    have f265 : h262 it136 = some (.inr (2, [.int (nI j148), .int l149, .int (g.1 3), .ref lc_110])) := by rw [eh262, tw_up_n ne175]; exact f242
                    have f266 : h262 q169 = some (.inl (d.2 1, 9, .inr (.inl F261))) := by rw [eh262]; exact tw_up_s
                    refine tw_dup dX10_ofCountryNow_202 rfl ?_
                    refine tw_iconst (v := 4) dX10_ofCountryNow_203 (by decide) ?_
                    refine tw_aload_n 3 dX10_ofCountryNow_204 rfl rfl ?_
                    obtain ⟨e267, f268, r_269, c_270, v_271, o_272, t_273, rfl, k274, k275, k276, k277, k278, k279⟩ := sp263.1 r39 21 q37k.1 (by decide)
                    refine tw_get (v := .ref o_272) rfl in_11 3 dX10_ofCountryNow_205 w_1223 rfl (by decide) f268 rfl ?_
                    refine tw_iconst (v := 0) dX10_ofCountryNow_208 (by decide) ?_
                    obtain ⟨e280, f281, F282, rfl, k284, pf283⟩ := sp263.1 o_272 32 k275 (by decide)
                    obtain ⟨v285, ev285⟩ : ∃ y : Int32, F282 (0 : Int32).toNatClampNeg = y := ⟨_, rfl⟩
                    refine tw_zald (v := v285) dX10_ofCountryNow_209 f281 (vp_in_nI (n := 0) (by decide) (by decide)) ev285 ?_
                    refine tw_if_eq 217 dX10_ofCountryNow_210 (by decide) (fun c286 => ?_) (fun c286 => ?_)
                    · refine tw_iconst (v := 0) dX10_ofCountryNow_217 (by decide) ?_
                      refine tw_aload_n 3 dX10_ofCountryNow_218 rfl rfl ?_
                      refine tw_get (v := .ref o_272) rfl in_11 3 dX10_ofCountryNow_219 w_1223 rfl (by decide) f268 rfl ?_
                      refine tw_iconst (v := 1) dX10_ofCountryNow_222 (by decide) ?_
                      obtain ⟨v287, ev287⟩ : ∃ y : Int32, F282 (1 : Int32).toNatClampNeg = y := ⟨_, rfl⟩
                      refine tw_zald (v := v287) dX10_ofCountryNow_223 f281 (vp_in_nI (n := 1) (by decide) (by decide)) ev287 ?_
                      refine tw_if_eq 231 dX10_ofCountryNow_224 (by decide) (fun c288 => ?_) (fun c288 => ?_)
                      · refine tw_iconst (v := 0) dX10_ofCountryNow_231 (by decide) ?_
                        refine tw_iadd dX10_ofCountryNow_232 ?_
                        refine tw_nmi (fun v289 ev289 => ?_)
                        refine tw_i2l dX10_ofCountryNow_233 ?_
                        refine tw_nml (fun v290 ev290 => ?_)
                        refine tw_last dX10_ofCountryNow_234 f266 (vp_in_nI (n := 4) (by decide) (by decide)) ?_
                        obtain ⟨F291, eF291⟩ : ∃ z : Nat → Int64, z = vp_updL F261 (4 : Int32).toNatClampNeg v290 := ⟨_, rfl⟩
                        rw [← eF291]
                        obtain ⟨h292, eh292⟩ : ∃ z : tw_H, z = tw_up h262 q169 (.inl (d.2 1, 9, .inr (.inl F291))) := ⟨_, rfl⟩
                        rw [← eh292]
                        have sp293 : tw_sp d τ (tw_rm h142 it136) g τ h292 := by rw [eh292]; exact sp263.wl n172 z173
                        have f294 : h292 it60 = some (.inr (2, [.int (nI j70), .int l71, .int (g.1 4), .ref lh_12])) := by rw [eh292, tw_up_n ne174]; exact f264
                        have f295 : h292 it136 = some (.inr (2, [.int (nI j148), .int l149, .int (g.1 3), .ref lc_110])) := by rw [eh292, tw_up_n ne175]; exact f265
                        have f296 : h292 q169 = some (.inl (d.2 1, 9, .inr (.inl F291))) := by rw [eh292]; exact tw_up_s
                        refine tw_dup dX10_ofCountryNow_235 rfl ?_
                        refine tw_iconst (v := 5) dX10_ofCountryNow_236 (by decide) ?_
                        refine tw_iload 4 dX10_ofCountryNow_237 rfl ?_
                        refine tw_i2l dX10_ofCountryNow_239 ?_
                        refine tw_nml (fun v297 ev297 => ?_)
                        refine tw_last dX10_ofCountryNow_240 f296 (vp_in_nI (n := 5) (by decide) (by decide)) ?_
                        obtain ⟨F298, eF298⟩ : ∃ z : Nat → Int64, z = vp_updL F291 (5 : Int32).toNatClampNeg v297 := ⟨_, rfl⟩
                        rw [← eF298]
                        obtain ⟨h299, eh299⟩ : ∃ z : tw_H, z = tw_up h292 q169 (.inl (d.2 1, 9, .inr (.inl F298))) := ⟨_, rfl⟩
                        rw [← eh299]
                        have sp300 : tw_sp d τ (tw_rm h142 it136) g τ h299 := by rw [eh299]; exact sp293.wl n172 z173
                        have f301 : h299 it60 = some (.inr (2, [.int (nI j70), .int l71, .int (g.1 4), .ref lh_12])) := by rw [eh299, tw_up_n ne174]; exact f294
                        have f302 : h299 it136 = some (.inr (2, [.int (nI j148), .int l149, .int (g.1 3), .ref lc_110])) := by rw [eh299, tw_up_n ne175]; exact f295
                        have f303 : h299 q169 = some (.inl (d.2 1, 9, .inr (.inl F298))) := by rw [eh299]; exact tw_up_s
                        refine tw_dup dX10_ofCountryNow_241 rfl ?_
                        refine tw_bipush (v := 6) dX10_ofCountryNow_242 (by decide) ?_
                        refine tw_aload_n 0 dX10_ofCountryNow_244 rfl rfl ?_
                        refine tw_aload_n 3 dX10_ofCountryNow_245 rfl rfl ?_
                        obtain ⟨e304, f305, r_306, c_307, v_308, o_309, t_310, rfl, k311, k312, k313, k314, k315, k316⟩ := sp300.1 r39 21 q37k.1 (by decide)
                        refine tw_get (v := .ref v_308) rfl in_11 2 dX10_ofCountryNow_246 w_1221 rfl (by decide) f305 rfl ?_
                        obtain ⟨e317, f318, th_319, td_320, ds_321, fr_322, ca_323, us_324, wo_325, cm_326, lc_327, lh_328, ld_329, rfl, k330, k331, k332, k333, k334, k335, k336, k337, k338, k339, k340, k341, k342, k343, k344, k345, k346, k347⟩ := sp300.1 x 36 kx (by decide)
                        refine tw_bl (tw_callV (M := mX10_ofCountryNow) (pc := 249) okX10_worth dX10_ofCountryNow_249 w_1509 rfl f318 [.ref v_308] [.int 6, .ref q169, .ref q169] rfl rfl ⟨by decide, by decide⟩ (Nat.le_of_ble_eq_true rfl) (c_X10_worth d g τ h299 sp300.1 x kx v_308 k311) 0 0 (Nat.le_of_ble_eq_true rfl) (Nat.le_of_ble_eq_true rfl)) (fun r350 h349 q348 => ?_) (fun E h1 q => q.elim)
                        rw [q348]
                        refine tw_last dX10_ofCountryNow_252 f303 (vp_in_nI (n := 6) (by decide) (by decide)) ?_
                        obtain ⟨F351, eF351⟩ : ∃ z : Nat → Int64, z = vp_updL F298 (6 : Int32).toNatClampNeg r350 := ⟨_, rfl⟩
                        rw [← eF351]
                        obtain ⟨h352, eh352⟩ : ∃ z : tw_H, z = tw_up h299 q169 (.inl (d.2 1, 9, .inr (.inl F351))) := ⟨_, rfl⟩
                        rw [← eh352]
                        have sp353 : tw_sp d τ (tw_rm h142 it136) g τ h352 := by rw [eh352]; exact sp300.wl n172 z173
                        have f354 : h352 it60 = some (.inr (2, [.int (nI j70), .int l71, .int (g.1 4), .ref lh_12])) := by rw [eh352, tw_up_n ne174]; exact f301
                        have f355 : h352 it136 = some (.inr (2, [.int (nI j148), .int l149, .int (g.1 3), .ref lc_110])) := by rw [eh352, tw_up_n ne175]; exact f302
                        have f356 : h352 q169 = some (.inl (d.2 1, 9, .inr (.inl F351))) := by rw [eh352]; exact tw_up_s
                        refine tw_dup dX10_ofCountryNow_253 rfl ?_
                        refine tw_bipush (v := 7) dX10_ofCountryNow_254 (by decide) ?_
                        refine tw_iload 5 dX10_ofCountryNow_256 rfl ?_
                        refine tw_i2l dX10_ofCountryNow_258 ?_
                        refine tw_nml (fun v357 ev357 => ?_)
                        refine tw_last dX10_ofCountryNow_259 f356 (vp_in_nI (n := 7) (by decide) (by decide)) ?_
                        obtain ⟨F358, eF358⟩ : ∃ z : Nat → Int64, z = vp_updL F351 (7 : Int32).toNatClampNeg v357 := ⟨_, rfl⟩
                        rw [← eF358]
                        obtain ⟨h359, eh359⟩ : ∃ z : tw_H, z = tw_up h352 q169 (.inl (d.2 1, 9, .inr (.inl F358))) := ⟨_, rfl⟩
                        rw [← eh359]
                        have sp360 : tw_sp d τ (tw_rm h142 it136) g τ h359 := by rw [eh359]; exact sp353.wl n172 z173
                        have f361 : h359 it60 = some (.inr (2, [.int (nI j70), .int l71, .int (g.1 4), .ref lh_12])) := by rw [eh359, tw_up_n ne174]; exact f354
                        have f362 : h359 it136 = some (.inr (2, [.int (nI j148), .int l149, .int (g.1 3), .ref lc_110])) := by rw [eh359, tw_up_n ne175]; exact f355
                        have f363 : h359 q169 = some (.inl (d.2 1, 9, .inr (.inl F358))) := by rw [eh359]; exact tw_up_s
                        refine tw_dup dX10_ofCountryNow_260 rfl ?_
                        refine tw_bipush (v := 8) dX10_ofCountryNow_261 (by decide) ?_
                        refine tw_iload 6 dX10_ofCountryNow_263 rfl ?_
                        refine tw_i2l dX10_ofCountryNow_265 ?_
                        refine tw_nml (fun v364 ev364 => ?_)
                        refine tw_last dX10_ofCountryNow_266 f363 (vp_in_nI (n := 8) (by decide) (by decide)) ?_
                        obtain ⟨F365, eF365⟩ : ∃ z : Nat → Int64, z = vp_updL F358 (8 : Int32).toNatClampNeg v364 := ⟨_, rfl⟩
                        rw [← eF365]
                        obtain ⟨h366, eh366⟩ : ∃ z : tw_H, z = tw_up h359 q169 (.inl (d.2 1, 9, .inr (.inl F365))) := ⟨_, rfl⟩
                        rw [← eh366]
                        have sp367 : tw_sp d τ (tw_rm h142 it136) g τ h366 := by rw [eh366]; exact sp360.wl n172 z173
                        have f368 : h366 it60 = some (.inr (2, [.int (nI j70), .int l71, .int (g.1 4), .ref lh_12])) := by rw [eh366, tw_up_n ne174]; exact f361
                        have f369 : h366 it136 = some (.inr (2, [.int (nI j148), .int l149, .int (g.1 3), .ref lc_110])) := by rw [eh366, tw_up_n ne175]; exact f362
                        have f370 : h366 q169 = some (.inl (d.2 1, 9, .inr (.inl F365))) := by rw [eh366]; exact tw_up_s
                        refine tw_astore [(7, .ref q169), (0, .ref x), (1, .int (nI a)), (2, .int w9), (3, .ref r39), (4, .int x68), (5, .int x89), (6, .int x146)] dX10_ofCountryNow_267 (by decide) rfl ?_
                        refine tw_aload 0 dX10_ofCountryNow_269 rfl ?_
                        refine tw_iload_n 3 dX10_ofCountryNow_271 rfl rfl ?_
                        obtain ⟨v371, ev371⟩ : ∃ y : Int64, F365 (w9).toNatClampNeg = y := ⟨_, rfl⟩
                        refine tw_lald (v := v371) dX10_ofCountryNow_272 f370 hw9 ev371 ?_
                        refine tw_l2i dX10_ofCountryNow_273 ?_
                        refine tw_nmi (fun v372 ev372 => ?_)
                        exact tw_iret dX10_ofCountryNow_274 rfl (Or.inl ⟨_, rfl, (sp66.trm n63 (sp143.trm n139 sp367))⟩)
                      · refine tw_iconst (v := 2) dX10_ofCountryNow_227 (by decide) ?_
                        refine tw_goto 232 dX10_ofCountryNow_228 (by decide) ?_
                        refine tw_iadd dX10_ofCountryNow_232 ?_
                        refine tw_nmi (fun v373 ev373 => ?_)
                        refine tw_i2l dX10_ofCountryNow_233 ?_
                        refine tw_nml (fun v374 ev374 => ?_)
                        refine tw_last dX10_ofCountryNow_234 f266 (vp_in_nI (n := 4) (by decide) (by decide)) ?_
                        obtain ⟨F375, eF375⟩ : ∃ z : Nat → Int64, z = vp_updL F261 (4 : Int32).toNatClampNeg v374 := ⟨_, rfl⟩
                        rw [← eF375]
                        obtain ⟨h376, eh376⟩ : ∃ z : tw_H, z = tw_up h262 q169 (.inl (d.2 1, 9, .inr (.inl F375))) := ⟨_, rfl⟩
                        rw [← eh376]
                        have sp377 : tw_sp d τ (tw_rm h142 it136) g τ h376 := by rw [eh376]; exact sp263.wl n172 z173
                        have f378 : h376 it60 = some (.inr (2, [.int (nI j70), .int l71, .int (g.1 4), .ref lh_12])) := by rw [eh376, tw_up_n ne174]; exact f264
                        have f379 : h376 it136 = some (.inr (2, [.int (nI j148), .int l149, .int (g.1 3), .ref lc_110])) := by rw [eh376, tw_up_n ne175]; exact f265
                        have f380 : h376 q169 = some (.inl (d.2 1, 9, .inr (.inl F375))) := by rw [eh376]; exact tw_up_s
                        refine tw_dup dX10_ofCountryNow_235 rfl ?_
                        refine tw_iconst (v := 5) dX10_ofCountryNow_236 (by decide) ?_
                        refine tw_iload 4 dX10_ofCountryNow_237 rfl ?_
                        refine tw_i2l dX10_ofCountryNow_239 ?_
                        refine tw_nml (fun v381 ev381 => ?_)
                        refine tw_last dX10_ofCountryNow_240 f380 (vp_in_nI (n := 5) (by decide) (by decide)) ?_
                        obtain ⟨F382, eF382⟩ : ∃ z : Nat → Int64, z = vp_updL F375 (5 : Int32).toNatClampNeg v381 := ⟨_, rfl⟩
                        rw [← eF382]
                        obtain ⟨h383, eh383⟩ : ∃ z : tw_H, z = tw_up h376 q169 (.inl (d.2 1, 9, .inr (.inl F382))) := ⟨_, rfl⟩
                        rw [← eh383]
                        have sp384 : tw_sp d τ (tw_rm h142 it136) g τ h383 := by rw [eh383]; exact sp377.wl n172 z173
                        have f385 : h383 it60 = some (.inr (2, [.int (nI j70), .int l71, .int (g.1 4), .ref lh_12])) := by rw [eh383, tw_up_n ne174]; exact f378
                        have f386 : h383 it136 = some (.inr (2, [.int (nI j148), .int l149, .int (g.1 3), .ref lc_110])) := by rw [eh383, tw_up_n ne175]; exact f379
                        have f387 : h383 q169 = some (.inl (d.2 1, 9, .inr (.inl F382))) := by rw [eh383]; exact tw_up_s
                        refine tw_dup dX10_ofCountryNow_241 rfl ?_
                        refine tw_bipush (v := 6) dX10_ofCountryNow_242 (by decide) ?_
                        refine tw_aload_n 0 dX10_ofCountryNow_244 rfl rfl ?_
                        refine tw_aload_n 3 dX10_ofCountryNow_245 rfl rfl ?_
                        obtain ⟨e388, f389, r_390, c_391, v_392, o_393, t_394, rfl, k395, k396, k397, k398, k399, k400⟩ := sp384.1 r39 21 q37k.1 (by decide)
                        refine tw_get (v := .ref v_392) rfl in_11 2 dX10_ofCountryNow_246 w_1221 rfl (by decide) f389 rfl ?_
                        obtain ⟨e401, f402, th_403, td_404, ds_405, fr_406, ca_407, us_408, wo_409, cm_410, lc_411, lh_412, ld_413, rfl, k414, k415, k416, k417, k418, k419, k420, k421, k422, k423, k424, k425, k426, k427, k428, k429, k430, k431⟩ := sp384.1 x 36 kx (by decide)
                        refine tw_bl (tw_callV (M := mX10_ofCountryNow) (pc := 249) okX10_worth dX10_ofCountryNow_249 w_1509 rfl f402 [.ref v_392] [.int 6, .ref q169, .ref q169] rfl rfl ⟨by decide, by decide⟩ (Nat.le_of_ble_eq_true rfl) (c_X10_worth d g τ h383 sp384.1 x kx v_392 k395) 0 0 (Nat.le_of_ble_eq_true rfl) (Nat.le_of_ble_eq_true rfl)) (fun r434 h433 q432 => ?_) (fun E h1 q => q.elim)
                        rw [q432]
                        refine tw_last dX10_ofCountryNow_252 f387 (vp_in_nI (n := 6) (by decide) (by decide)) ?_
                        obtain ⟨F435, eF435⟩ : ∃ z : Nat → Int64, z = vp_updL F382 (6 : Int32).toNatClampNeg r434 := ⟨_, rfl⟩
                        rw [← eF435]
                        obtain ⟨h436, eh436⟩ : ∃ z : tw_H, z = tw_up h383 q169 (.inl (d.2 1, 9, .inr (.inl F435))) := ⟨_, rfl⟩
                        rw [← eh436]
                        have sp437 : tw_sp d τ (tw_rm h142 it136) g τ h436 := by rw [eh436]; exact sp384.wl n172 z173
                        have f438 : h436 it60 = some (.inr (2, [.int (nI j70), .int l71, .int (g.1 4), .ref lh_12])) := by rw [eh436, tw_up_n ne174]; exact f385
                        have f439 : h436 it136 = some (.inr (2, [.int (nI j148), .int l149, .int (g.1 3), .ref lc_110])) := by rw [eh436, tw_up_n ne175]; exact f386
                        have f440 : h436 q169 = some (.inl (d.2 1, 9, .inr (.inl F435))) := by rw [eh436]; exact tw_up_s
                        refine tw_dup dX10_ofCountryNow_253 rfl ?_
                        refine tw_bipush (v := 7) dX10_ofCountryNow_254 (by decide) ?_
                        refine tw_iload 5 dX10_ofCountryNow_256 rfl ?_
                        refine tw_i2l dX10_ofCountryNow_258 ?_
                        refine tw_nml (fun v441 ev441 => ?_)
                        refine tw_last dX10_ofCountryNow_259 f440 (vp_in_nI (n := 7) (by decide) (by decide)) ?_
                        obtain ⟨F442, eF442⟩ : ∃ z : Nat → Int64, z = vp_updL F435 (7 : Int32).toNatClampNeg v441 := ⟨_, rfl⟩
                        rw [← eF442]
                        obtain ⟨h443, eh443⟩ : ∃ z : tw_H, z = tw_up h436 q169 (.inl (d.2 1, 9, .inr (.inl F442))) := ⟨_, rfl⟩
                        rw [← eh443]
                        have sp444 : tw_sp d τ (tw_rm h142 it136) g τ h443 := by rw [eh443]; exact sp437.wl n172 z173
                        have f445 : h443 it60 = some (.inr (2, [.int (nI j70), .int l71, .int (g.1 4), .ref lh_12])) := by rw [eh443, tw_up_n ne174]; exact f438
                        have f446 : h443 it136 = some (.inr (2, [.int (nI j148), .int l149, .int (g.1 3), .ref lc_110])) := by rw [eh443, tw_up_n ne175]; exact f439
                        have f447 : h443 q169 = some (.inl (d.2 1, 9, .inr (.inl F442))) := by rw [eh443]; exact tw_up_s
                        refine tw_dup dX10_ofCountryNow_260 rfl ?_
                        refine tw_bipush (v := 8) dX10_ofCountryNow_261 (by decide) ?_
                        refine tw_iload 6 dX10_ofCountryNow_263 rfl ?_
                        refine tw_i2l dX10_ofCountryNow_265 ?_
                        refine tw_nml (fun v448 ev448 => ?_)
                        refine tw_last dX10_ofCountryNow_266 f447 (vp_in_nI (n := 8) (by decide) (by decide)) ?_
                        obtain ⟨F449, eF449⟩ : ∃ z : Nat → Int64, z = vp_updL F442 (8 : Int32).toNatClampNeg v448 := ⟨_, rfl⟩
                        rw [← eF449]
                        obtain ⟨h450, eh450⟩ : ∃ z : tw_H, z = tw_up h443 q169 (.inl (d.2 1, 9, .inr (.inl F449))) := ⟨_, rfl⟩
                        rw [← eh450]
                        have sp451 : tw_sp d τ (tw_rm h142 it136) g τ h450 := by rw [eh450]; exact sp444.wl n172 z173
                        have f452 : h450 it60 = some (.inr (2, [.int (nI j70), .int l71, .int (g.1 4), .ref lh_12])) := by rw [eh450, tw_up_n ne174]; exact f445
                        have f453 : h450 it136 = some (.inr (2, [.int (nI j148), .int l149, .int (g.1 3), .ref lc_110])) := by rw [eh450, tw_up_n ne175]; exact f446
                        have f454 : h450 q169 = some (.inl (d.2 1, 9, .inr (.inl F449))) := by rw [eh450]; exact tw_up_s
                        refine tw_astore [(7, .ref q169), (0, .ref x), (1, .int (nI a)), (2, .int w9), (3, .ref r39), (4, .int x68), (5, .int x89), (6, .int x146)] dX10_ofCountryNow_267 (by decide) rfl ?_
                        refine tw_aload 0 dX10_ofCountryNow_269 rfl ?_
                        refine tw_iload_n 3 dX10_ofCountryNow_271 rfl rfl ?_
                        obtain ⟨v455, ev455⟩ : ∃ y : Int64, F449 (w9).toNatClampNeg = y := ⟨_, rfl⟩
                        refine tw_lald (v := v455) dX10_ofCountryNow_272 f454 hw9 ev455 ?_
                        refine tw_l2i dX10_ofCountryNow_273 ?_
                        refine tw_nmi (fun v456 ev456 => ?_)
                        exact tw_iret dX10_ofCountryNow_274 rfl (Or.inl ⟨_, rfl, (sp66.trm n63 (sp143.trm n139 sp451))⟩)
                    · refine tw_iconst (v := 1) dX10_ofCountryNow_213 (by decide) ?_
                      refine tw_goto 218 dX10_ofCountryNow_214 (by decide) ?_
                      refine tw_aload_n 3 dX10_ofCountryNow_218 rfl rfl ?_
                      refine tw_get (v := .ref o_272) rfl in_11 3 dX10_ofCountryNow_219 w_1223 rfl (by decide) f268 rfl ?_
                      refine tw_iconst (v := 1) dX10_ofCountryNow_222 (by decide) ?_
                      obtain ⟨v457, ev457⟩ : ∃ y : Int32, F282 (1 : Int32).toNatClampNeg = y := ⟨_, rfl⟩
                      refine tw_zald (v := v457) dX10_ofCountryNow_223 f281 (vp_in_nI (n := 1) (by decide) (by decide)) ev457 ?_
                      refine tw_if_eq 231 dX10_ofCountryNow_224 (by decide) (fun c458 => ?_) (fun c458 => ?_)
                      · refine tw_iconst (v := 0) dX10_ofCountryNow_231 (by decide) ?_
                        refine tw_iadd dX10_ofCountryNow_232 ?_
                        refine tw_nmi (fun v459 ev459 => ?_)
                        refine tw_i2l dX10_ofCountryNow_233 ?_
                        refine tw_nml (fun v460 ev460 => ?_)
                        refine tw_last dX10_ofCountryNow_234 f266 (vp_in_nI (n := 4) (by decide) (by decide)) ?_
                        obtain ⟨F461, eF461⟩ : ∃ z : Nat → Int64, z = vp_updL F261 (4 : Int32).toNatClampNeg v460 := ⟨_, rfl⟩
                        rw [← eF461]
                        obtain ⟨h462, eh462⟩ : ∃ z : tw_H, z = tw_up h262 q169 (.inl (d.2 1, 9, .inr (.inl F461))) := ⟨_, rfl⟩
                        rw [← eh462]
                        have sp463 : tw_sp d τ (tw_rm h142 it136) g τ h462 := by rw [eh462]; exact sp263.wl n172 z173
                        have f464 : h462 it60 = some (.inr (2, [.int (nI j70), .int l71, .int (g.1 4), .ref lh_12])) := by rw [eh462, tw_up_n ne174]; exact f264
                        have f465 : h462 it136 = some (.inr (2, [.int (nI j148), .int l149, .int (g.1 3), .ref lc_110])) := by rw [eh462, tw_up_n ne175]; exact f265
                        have f466 : h462 q169 = some (.inl (d.2 1, 9, .inr (.inl F461))) := by rw [eh462]; exact tw_up_s
                        refine tw_dup dX10_ofCountryNow_235 rfl ?_
                        refine tw_iconst (v := 5) dX10_ofCountryNow_236 (by decide) ?_
                        refine tw_iload 4 dX10_ofCountryNow_237 rfl ?_
                        refine tw_i2l dX10_ofCountryNow_239 ?_
                        refine tw_nml (fun v467 ev467 => ?_)
                        refine tw_last dX10_ofCountryNow_240 f466 (vp_in_nI (n := 5) (by decide) (by decide)) ?_
                        obtain ⟨F468, eF468⟩ : ∃ z : Nat → Int64, z = vp_updL F461 (5 : Int32).toNatClampNeg v467 := ⟨_, rfl⟩
                        rw [← eF468]
                        obtain ⟨h469, eh469⟩ : ∃ z : tw_H, z = tw_up h462 q169 (.inl (d.2 1, 9, .inr (.inl F468))) := ⟨_, rfl⟩
                        rw [← eh469]
                        have sp470 : tw_sp d τ (tw_rm h142 it136) g τ h469 := by rw [eh469]; exact sp463.wl n172 z173
                        have f471 : h469 it60 = some (.inr (2, [.int (nI j70), .int l71, .int (g.1 4), .ref lh_12])) := by rw [eh469, tw_up_n ne174]; exact f464
                        have f472 : h469 it136 = some (.inr (2, [.int (nI j148), .int l149, .int (g.1 3), .ref lc_110])) := by rw [eh469, tw_up_n ne175]; exact f465
                        have f473 : h469 q169 = some (.inl (d.2 1, 9, .inr (.inl F468))) := by rw [eh469]; exact tw_up_s
                        refine tw_dup dX10_ofCountryNow_241 rfl ?_
                        refine tw_bipush (v := 6) dX10_ofCountryNow_242 (by decide) ?_
                        refine tw_aload_n 0 dX10_ofCountryNow_244 rfl rfl ?_
                        refine tw_aload_n 3 dX10_ofCountryNow_245 rfl rfl ?_
                        obtain ⟨e474, f475, r_476, c_477, v_478, o_479, t_480, rfl, k481, k482, k483, k484, k485, k486⟩ := sp470.1 r39 21 q37k.1 (by decide)
                        refine tw_get (v := .ref v_478) rfl in_11 2 dX10_ofCountryNow_246 w_1221 rfl (by decide) f475 rfl ?_
                        obtain ⟨e487, f488, th_489, td_490, ds_491, fr_492, ca_493, us_494, wo_495, cm_496, lc_497, lh_498, ld_499, rfl, k500, k501, k502, k503, k504, k505, k506, k507, k508, k509, k510, k511, k512, k513, k514, k515, k516, k517⟩ := sp470.1 x 36 kx (by decide)
                        refine tw_bl (tw_callV (M := mX10_ofCountryNow) (pc := 249) okX10_worth dX10_ofCountryNow_249 w_1509 rfl f488 [.ref v_478] [.int 6, .ref q169, .ref q169] rfl rfl ⟨by decide, by decide⟩ (Nat.le_of_ble_eq_true rfl) (c_X10_worth d g τ h469 sp470.1 x kx v_478 k481) 0 0 (Nat.le_of_ble_eq_true rfl) (Nat.le_of_ble_eq_true rfl)) (fun r520 h519 q518 => ?_) (fun E h1 q => q.elim)
                        rw [q518]
                        refine tw_last dX10_ofCountryNow_252 f473 (vp_in_nI (n := 6) (by decide) (by decide)) ?_
                        obtain ⟨F521, eF521⟩ : ∃ z : Nat → Int64, z = vp_updL F468 (6 : Int32).toNatClampNeg r520 := ⟨_, rfl⟩
                        rw [← eF521]
                        obtain ⟨h522, eh522⟩ : ∃ z : tw_H, z = tw_up h469 q169 (.inl (d.2 1, 9, .inr (.inl F521))) := ⟨_, rfl⟩
                        rw [← eh522]
                        have sp523 : tw_sp d τ (tw_rm h142 it136) g τ h522 := by rw [eh522]; exact sp470.wl n172 z173
                        have f524 : h522 it60 = some (.inr (2, [.int (nI j70), .int l71, .int (g.1 4), .ref lh_12])) := by rw [eh522, tw_up_n ne174]; exact f471
                        have f525 : h522 it136 = some (.inr (2, [.int (nI j148), .int l149, .int (g.1 3), .ref lc_110])) := by rw [eh522, tw_up_n ne175]; exact f472
                        have f526 : h522 q169 = some (.inl (d.2 1, 9, .inr (.inl F521))) := by rw [eh522]; exact tw_up_s
                        refine tw_dup dX10_ofCountryNow_253 rfl ?_
                        refine tw_bipush (v := 7) dX10_ofCountryNow_254 (by decide) ?_
                        refine tw_iload 5 dX10_ofCountryNow_256 rfl ?_
                        refine tw_i2l dX10_ofCountryNow_258 ?_
                        refine tw_nml (fun v527 ev527 => ?_)
                        refine tw_last dX10_ofCountryNow_259 f526 (vp_in_nI (n := 7) (by decide) (by decide)) ?_
                        obtain ⟨F528, eF528⟩ : ∃ z : Nat → Int64, z = vp_updL F521 (7 : Int32).toNatClampNeg v527 := ⟨_, rfl⟩
                        rw [← eF528]
                        obtain ⟨h529, eh529⟩ : ∃ z : tw_H, z = tw_up h522 q169 (.inl (d.2 1, 9, .inr (.inl F528))) := ⟨_, rfl⟩
                        rw [← eh529]
                        have sp530 : tw_sp d τ (tw_rm h142 it136) g τ h529 := by rw [eh529]; exact sp523.wl n172 z173
                        have f531 : h529 it60 = some (.inr (2, [.int (nI j70), .int l71, .int (g.1 4), .ref lh_12])) := by rw [eh529, tw_up_n ne174]; exact f524
                        have f532 : h529 it136 = some (.inr (2, [.int (nI j148), .int l149, .int (g.1 3), .ref lc_110])) := by rw [eh529, tw_up_n ne175]; exact f525
                        have f533 : h529 q169 = some (.inl (d.2 1, 9, .inr (.inl F528))) := by rw [eh529]; exact tw_up_s
                        refine tw_dup dX10_ofCountryNow_260 rfl ?_
                        refine tw_bipush (v := 8) dX10_ofCountryNow_261 (by decide) ?_
                        refine tw_iload 6 dX10_ofCountryNow_263 rfl ?_
                        refine tw_i2l dX10_ofCountryNow_265 ?_
                        refine tw_nml (fun v534 ev534 => ?_)
                        refine tw_last dX10_ofCountryNow_266 f533 (vp_in_nI (n := 8) (by decide) (by decide)) ?_
                        obtain ⟨F535, eF535⟩ : ∃ z : Nat → Int64, z = vp_updL F528 (8 : Int32).toNatClampNeg v534 := ⟨_, rfl⟩
                        rw [← eF535]
                        obtain ⟨h536, eh536⟩ : ∃ z : tw_H, z = tw_up h529 q169 (.inl (d.2 1, 9, .inr (.inl F535))) := ⟨_, rfl⟩
                        rw [← eh536]
                        have sp537 : tw_sp d τ (tw_rm h142 it136) g τ h536 := by rw [eh536]; exact sp530.wl n172 z173
                        have f538 : h536 it60 = some (.inr (2, [.int (nI j70), .int l71, .int (g.1 4), .ref lh_12])) := by rw [eh536, tw_up_n ne174]; exact f531
                        have f539 : h536 it136 = some (.inr (2, [.int (nI j148), .int l149, .int (g.1 3), .ref lc_110])) := by rw [eh536, tw_up_n ne175]; exact f532
                        have f540 : h536 q169 = some (.inl (d.2 1, 9, .inr (.inl F535))) := by rw [eh536]; exact tw_up_s
                        refine tw_astore [(7, .ref q169), (0, .ref x), (1, .int (nI a)), (2, .int w9), (3, .ref r39), (4, .int x68), (5, .int x89), (6, .int x146)] dX10_ofCountryNow_267 (by decide) rfl ?_
                        refine tw_aload 0 dX10_ofCountryNow_269 rfl ?_
                        refine tw_iload_n 3 dX10_ofCountryNow_271 rfl rfl ?_
                        obtain ⟨v541, ev541⟩ : ∃ y : Int64, F535 (w9).toNatClampNeg = y := ⟨_, rfl⟩
                        refine tw_lald (v := v541) dX10_ofCountryNow_272 f540 hw9 ev541 ?_
                        refine tw_l2i dX10_ofCountryNow_273 ?_
                        refine tw_nmi (fun v542 ev542 => ?_)
                        exact tw_iret dX10_ofCountryNow_274 rfl (Or.inl ⟨_, rfl, (sp66.trm n63 (sp143.trm n139 sp537))⟩)
                      · refine tw_iconst (v := 2) dX10_ofCountryNow_227 (by decide) ?_
                        refine tw_goto 232 dX10_ofCountryNow_228 (by decide) ?_
                        refine tw_iadd dX10_ofCountryNow_232 ?_
                        refine tw_nmi (fun v543 ev543 => ?_)
                        refine tw_i2l dX10_ofCountryNow_233 ?_
                        refine tw_nml (fun v544 ev544 => ?_)
                        refine tw_last dX10_ofCountryNow_234 f266 (vp_in_nI (n := 4) (by decide) (by decide)) ?_
                        obtain ⟨F545, eF545⟩ : ∃ z : Nat → Int64, z = vp_updL F261 (4 : Int32).toNatClampNeg v544 := ⟨_, rfl⟩
                        rw [← eF545]
                        obtain ⟨h546, eh546⟩ : ∃ z : tw_H, z = tw_up h262 q169 (.inl (d.2 1, 9, .inr (.inl F545))) := ⟨_, rfl⟩
                        rw [← eh546]
                        have sp547 : tw_sp d τ (tw_rm h142 it136) g τ h546 := by rw [eh546]; exact sp263.wl n172 z173
                        have f548 : h546 it60 = some (.inr (2, [.int (nI j70), .int l71, .int (g.1 4), .ref lh_12])) := by rw [eh546, tw_up_n ne174]; exact f264
                        have f549 : h546 it136 = some (.inr (2, [.int (nI j148), .int l149, .int (g.1 3), .ref lc_110])) := by rw [eh546, tw_up_n ne175]; exact f265
                        have f550 : h546 q169 = some (.inl (d.2 1, 9, .inr (.inl F545))) := by rw [eh546]; exact tw_up_s
                        refine tw_dup dX10_ofCountryNow_235 rfl ?_
                        refine tw_iconst (v := 5) dX10_ofCountryNow_236 (by decide) ?_
                        refine tw_iload 4 dX10_ofCountryNow_237 rfl ?_
                        refine tw_i2l dX10_ofCountryNow_239 ?_
                        refine tw_nml (fun v551 ev551 => ?_)
                        refine tw_last dX10_ofCountryNow_240 f550 (vp_in_nI (n := 5) (by decide) (by decide)) ?_
                        obtain ⟨F552, eF552⟩ : ∃ z : Nat → Int64, z = vp_updL F545 (5 : Int32).toNatClampNeg v551 := ⟨_, rfl⟩
                        rw [← eF552]
                        obtain ⟨h553, eh553⟩ : ∃ z : tw_H, z = tw_up h546 q169 (.inl (d.2 1, 9, .inr (.inl F552))) := ⟨_, rfl⟩
                        rw [← eh553]
                        have sp554 : tw_sp d τ (tw_rm h142 it136) g τ h553 := by rw [eh553]; exact sp547.wl n172 z173
                        have f555 : h553 it60 = some (.inr (2, [.int (nI j70), .int l71, .int (g.1 4), .ref lh_12])) := by rw [eh553, tw_up_n ne174]; exact f548
                        have f556 : h553 it136 = some (.inr (2, [.int (nI j148), .int l149, .int (g.1 3), .ref lc_110])) := by rw [eh553, tw_up_n ne175]; exact f549
                        have f557 : h553 q169 = some (.inl (d.2 1, 9, .inr (.inl F552))) := by rw [eh553]; exact tw_up_s
                        refine tw_dup dX10_ofCountryNow_241 rfl ?_
                        refine tw_bipush (v := 6) dX10_ofCountryNow_242 (by decide) ?_
                        refine tw_aload_n 0 dX10_ofCountryNow_244 rfl rfl ?_
                        refine tw_aload_n 3 dX10_ofCountryNow_245 rfl rfl ?_
                        obtain ⟨e558, f559, r_560, c_561, v_562, o_563, t_564, rfl, k565, k566, k567, k568, k569, k570⟩ := sp554.1 r39 21 q37k.1 (by decide)
                        refine tw_get (v := .ref v_562) rfl in_11 2 dX10_ofCountryNow_246 w_1221 rfl (by decide) f559 rfl ?_
                        obtain ⟨e571, f572, th_573, td_574, ds_575, fr_576, ca_577, us_578, wo_579, cm_580, lc_581, lh_582, ld_583, rfl, k584, k585, k586, k587, k588, k589, k590, k591, k592, k593, k594, k595, k596, k597, k598, k599, k600, k601⟩ := sp554.1 x 36 kx (by decide)
                        refine tw_bl (tw_callV (M := mX10_ofCountryNow) (pc := 249) okX10_worth dX10_ofCountryNow_249 w_1509 rfl f572 [.ref v_562] [.int 6, .ref q169, .ref q169] rfl rfl ⟨by decide, by decide⟩ (Nat.le_of_ble_eq_true rfl) (c_X10_worth d g τ h553 sp554.1 x kx v_562 k565) 0 0 (Nat.le_of_ble_eq_true rfl) (Nat.le_of_ble_eq_true rfl)) (fun r604 h603 q602 => ?_) (fun E h1 q => q.elim)
                        rw [q602]
                        refine tw_last dX10_ofCountryNow_252 f557 (vp_in_nI (n := 6) (by decide) (by decide)) ?_
                        obtain ⟨F605, eF605⟩ : ∃ z : Nat → Int64, z = vp_updL F552 (6 : Int32).toNatClampNeg r604 := ⟨_, rfl⟩
                        rw [← eF605]
                        obtain ⟨h606, eh606⟩ : ∃ z : tw_H, z = tw_up h553 q169 (.inl (d.2 1, 9, .inr (.inl F605))) := ⟨_, rfl⟩
                        rw [← eh606]
                        have sp607 : tw_sp d τ (tw_rm h142 it136) g τ h606 := by rw [eh606]; exact sp554.wl n172 z173
                        have f608 : h606 it60 = some (.inr (2, [.int (nI j70), .int l71, .int (g.1 4), .ref lh_12])) := by rw [eh606, tw_up_n ne174]; exact f555
                        have f609 : h606 it136 = some (.inr (2, [.int (nI j148), .int l149, .int (g.1 3), .ref lc_110])) := by rw [eh606, tw_up_n ne175]; exact f556
                        have f610 : h606 q169 = some (.inl (d.2 1, 9, .inr (.inl F605))) := by rw [eh606]; exact tw_up_s
                        refine tw_dup dX10_ofCountryNow_253 rfl ?_
                        refine tw_bipush (v := 7) dX10_ofCountryNow_254 (by decide) ?_
                        refine tw_iload 5 dX10_ofCountryNow_256 rfl ?_
                        refine tw_i2l dX10_ofCountryNow_258 ?_
                        refine tw_nml (fun v611 ev611 => ?_)
                        refine tw_last dX10_ofCountryNow_259 f610 (vp_in_nI (n := 7) (by decide) (by decide)) ?_
                        obtain ⟨F612, eF612⟩ : ∃ z : Nat → Int64, z = vp_updL F605 (7 : Int32).toNatClampNeg v611 := ⟨_, rfl⟩
                        rw [← eF612]
                        obtain ⟨h613, eh613⟩ : ∃ z : tw_H, z = tw_up h606 q169 (.inl (d.2 1, 9, .inr (.inl F612))) := ⟨_, rfl⟩
                        rw [← eh613]
                        have sp614 : tw_sp d τ (tw_rm h142 it136) g τ h613 := by rw [eh613]; exact sp607.wl n172 z173
                        have f615 : h613 it60 = some (.inr (2, [.int (nI j70), .int l71, .int (g.1 4), .ref lh_12])) := by rw [eh613, tw_up_n ne174]; exact f608
                        have f616 : h613 it136 = some (.inr (2, [.int (nI j148), .int l149, .int (g.1 3), .ref lc_110])) := by rw [eh613, tw_up_n ne175]; exact f609
                        have f617 : h613 q169 = some (.inl (d.2 1, 9, .inr (.inl F612))) := by rw [eh613]; exact tw_up_s
                        refine tw_dup dX10_ofCountryNow_260 rfl ?_
                        refine tw_bipush (v := 8) dX10_ofCountryNow_261 (by decide) ?_
                        refine tw_iload 6 dX10_ofCountryNow_263 rfl ?_
                        refine tw_i2l dX10_ofCountryNow_265 ?_
                        refine tw_nml (fun v618 ev618 => ?_)
                        refine tw_last dX10_ofCountryNow_266 f617 (vp_in_nI (n := 8) (by decide) (by decide)) ?_
                        obtain ⟨F619, eF619⟩ : ∃ z : Nat → Int64, z = vp_updL F612 (8 : Int32).toNatClampNeg v618 := ⟨_, rfl⟩
                        rw [← eF619]
                        obtain ⟨h620, eh620⟩ : ∃ z : tw_H, z = tw_up h613 q169 (.inl (d.2 1, 9, .inr (.inl F619))) := ⟨_, rfl⟩
                        rw [← eh620]
                        have sp621 : tw_sp d τ (tw_rm h142 it136) g τ h620 := by rw [eh620]; exact sp614.wl n172 z173
                        have f622 : h620 it60 = some (.inr (2, [.int (nI j70), .int l71, .int (g.1 4), .ref lh_12])) := by rw [eh620, tw_up_n ne174]; exact f615
                        have f623 : h620 it136 = some (.inr (2, [.int (nI j148), .int l149, .int (g.1 3), .ref lc_110])) := by rw [eh620, tw_up_n ne175]; exact f616
                        have f624 : h620 q169 = some (.inl (d.2 1, 9, .inr (.inl F619))) := by rw [eh620]; exact tw_up_s
                        refine tw_astore [(7, .ref q169), (0, .ref x), (1, .int (nI a)), (2, .int w9), (3, .ref r39), (4, .int x68), (5, .int x89), (6, .int x146)] dX10_ofCountryNow_267 (by decide) rfl ?_
                        refine tw_aload 0 dX10_ofCountryNow_269 rfl ?_
                        refine tw_iload_n 3 dX10_ofCountryNow_271 rfl rfl ?_
                        obtain ⟨v625, ev625⟩ : ∃ y : Int64, F619 (w9).toNatClampNeg = y := ⟨_, rfl⟩
                        refine tw_lald (v := v625) dX10_ofCountryNow_272 f624 hw9 ev625 ?_
                        refine tw_l2i dX10_ofCountryNow_273 ?_
                        refine tw_nmi (fun v626 ev626 => ?_)
                        exact tw_iret dX10_ofCountryNow_274 rfl (Or.inl ⟨_, rfl, (sp66.trm n63 (sp143.trm n139 sp621))⟩)
                  · rw [q165r]
                    refine tw_if_eq 164 dX10_ofCountryNow_124 (by decide) (fun c627 => absurd c627 (by decide)) (fun _ => ?_)
                    refine tw_aload 7 dX10_ofCountryNow_127 rfl ?_
                    have k628 : τ el162 = 27 := k163.resolve_left (fun q => absurd q165j (by rw [q.2.1]; exact Nat.not_lt_zero _))
                    obtain ⟨e629, f630, ⟨F631, rfl, hc632, hc633⟩, un634⟩ := sp153.1 el162 27 k628 (by decide)
                    obtain ⟨y635, hy636, ky637⟩ := hc633 j148 q165j
                    refine tw_br (tw_callF (M := mX10_ofCountryNow) (pc := 129) (n9 := 0) (ci := 2) tw_next ok_itNext w_1425 w_1423 (fun s H z => z.2.2.2.2.2.2.2.2.2) (by decide +kernel) dX10_ofCountryNow_129 w_1420 rfl ft154 [] [] rfl rfl ⟨by decide, by decide⟩ (Nat.le_of_ble_eq_true rfl) (c_next d h152 it136 lc_110 el162 j148 (g.2 3) y635 l149 (g.1 3) F631 ft154 f161 f630 q165j hc632 hy636) 1 9 (Nat.le_of_ble_eq_true rfl) (Nat.le_of_ble_eq_true rfl)) (fun r640 h639 q638 => ?_) (fun E h1 q => q.elim)
                    obtain ⟨q638r, q638e⟩ := q638
                    rw [q638r]
                    have sp641 : tw_sp d τ (tw_rm h142 it136) g τ h639 := by rw [q638e]; exact sp153.wl tw_rm_s zt155
                    have f642 : h639 it60 = some (.inr (2, [.int (nI j70), .int l71, .int (g.1 4), .ref lh_12])) := by rw [q638e, tw_up_n ne141]; exact f158
                    have f643 : h639 it136 = some (.inr (2, [.int (nI (j148 + 1)), .int (nI j148), .int (g.1 3), .ref lc_110])) := by rw [q638e]; exact tw_up_s
                    obtain ⟨e644, f645, r_646, c_647, v_648, o_649, t_650, rfl, k651, k652, k653, k654, k655, k656⟩ := sp641.1 y635 21 ky637 (by decide)
                    refine tw_castS (ci := 11) rfl dX10_ofCountryNow_134 w_1212 f645 ?_
                    refine tw_astore [(8, .ref y635), (0, .ref x), (1, .int (nI a)), (2, .int w9), (3, .ref r39), (4, .int x68), (5, .int x89), (6, .int x146), (7, .ref it136)] dX10_ofCountryNow_137 (by decide) rfl ?_
                    refine tw_iload 7 dX10_ofCountryNow_139 rfl ?_
                    refine tw_aload 0 dX10_ofCountryNow_141 rfl ?_
                    refine tw_get (v := .int r_646) rfl in_11 0 dX10_ofCountryNow_143 w_1218 rfl (by decide) f645 rfl ?_
                    refine tw_aload_n 4 dX10_ofCountryNow_146 rfl rfl ?_
                    obtain ⟨e657, f658, r_659, c_660, v_661, o_662, t_663, rfl, k664, k665, k666, k667, k668, k669⟩ := sp641.1 r39 21 q37k.1 (by decide)
                    refine tw_get (v := .int r_659) rfl in_11 0 dX10_ofCountryNow_147 w_1218 rfl (by decide) f658 rfl ?_
                    refine tw_icmp_ne 157 dX10_ofCountryNow_150 (by decide) (fun c670 => ?_) (fun c670 => ?_)
                    · refine tw_iconst (v := 0) dX10_ofCountryNow_157 (by decide) ?_
                      refine tw_iadd dX10_ofCountryNow_158 ?_
                      refine tw_nmi (fun v671 ev671 => ?_)
                      refine tw_istore [(6, .int v671), (8, .ref y635), (0, .ref x), (1, .int (nI a)), (2, .int w9), (3, .ref r39), (4, .int x68), (5, .int x89), (7, .ref it136)] dX10_ofCountryNow_159 (by decide) rfl ?_
                      refine tw_goto 117 dX10_ofCountryNow_161 (by decide) ?_
                      refine tw_lv [2, 3, 4, 5, 6, 7, 0, 8] rfl ?_
                      exact ih150 ((j148 + 1)) (nI j148) v671 _ sp641 f643 zt155  (by omega) (by omega)
                    · refine tw_iconst (v := 1) dX10_ofCountryNow_153 (by decide) ?_
                      refine tw_goto 158 dX10_ofCountryNow_154 (by decide) ?_
                      refine tw_iadd dX10_ofCountryNow_158 ?_
                      refine tw_nmi (fun v672 ev672 => ?_)
                      refine tw_istore [(6, .int v672), (8, .ref y635), (0, .ref x), (1, .int (nI a)), (2, .int w9), (3, .ref r39), (4, .int x68), (5, .int x89), (7, .ref it136)] dX10_ofCountryNow_159 (by decide) rfl ?_
                      refine tw_goto 117 dX10_ofCountryNow_161 (by decide) ?_
                      refine tw_lv [2, 3, 4, 5, 6, 7, 0, 8] rfl ?_
                      exact ih150 ((j148 + 1)) (nI j148) v672 _ sp641 f643 zt155  (by omega) (by omega)
              refine tw_lv [1, 2, 3, 4, 5, 6, 7, 0] rfl ?_
              exact L151 (g.2 3 + 1) 0 (-1) 0 _ (tw_sp.rm sp143.1 it136) f145 z140  (by omega) (Nat.zero_le _)
            · have kl673 := tw_klt (N := 5) c99 hk98 (by decide)
              refine tw_iload 5 dX10_ofCountryNow_83 rfl ?_
              refine tw_gets (fun _ _ z => z.2.2.2.2.1.1) rfl dX10_ofCountryNow_85 w_1487 ?_
              refine tw_iload 7 dX10_ofCountryNow_88 rfl ?_
              refine tw_ti (v := .int (tw_pnd k90)) (fun _ _ z => z.2.2.2.2.1.2) dX10_ofCountryNow_90 (vp_in_nI (by omega) (by decide)) (by rw [nI_clamp (by omega)]; rfl) ?_
              refine tw_aload_n 3 dX10_ofCountryNow_91 rfl rfl ?_
              obtain ⟨e674, f675, r_676, c_677, v_678, o_679, t_680, rfl, k681, k682, k683, k684, k685, k686⟩ := sp75.1 r39 21 q37k.1 (by decide)
              refine tw_get (v := .ref t_680) rfl in_11 4 dX10_ofCountryNow_92 w_1225 rfl (by decide) f675 rfl ?_
              refine tw_iload 7 dX10_ofCountryNow_95 rfl ?_
              obtain ⟨e687, f688, F689, rfl, k691, pf690⟩ := sp75.1 t_680 33 k683 (by decide)
              obtain ⟨v692, ev692⟩ : ∃ y : Int32, F689 ((nI k90)).toNatClampNeg = y := ⟨_, rfl⟩
              refine tw_iald (v := v692) dX10_ofCountryNow_97 f688 (vp_in_nI (by omega) (by decide)) ev692 ?_
              refine tw_imul dX10_ofCountryNow_98 ?_
              refine tw_nmi (fun v693 ev693 => ?_)
              refine tw_iadd dX10_ofCountryNow_99 ?_
              refine tw_nmi (fun v694 ev694 => ?_)
              refine tw_istore [(5, .int v694), (0, .ref x), (1, .int (nI a)), (2, .int w9), (3, .ref r39), (4, .int x68), (6, .int 0), (7, .int (nI k90))] dX10_ofCountryNow_100 (by decide) rfl ?_
              obtain ⟨v695, ev695⟩ : ∃ y : Int32, y = (nI k90) + 1 := ⟨_, rfl⟩
              refine tw_iinc [(7, .int v695), (5, .int v694), (0, .ref x), (1, .int (nI a)), (2, .int w9), (3, .ref r39), (4, .int x68), (6, .int 0)] 7 dX10_ofCountryNow_102 rfl (by rw [ev695]; rfl) (by decide) rfl ?_
              refine tw_goto 77 dX10_ofCountryNow_105 (by decide) ?_
              have qv695 := tw_nI3 ev695
              rw [qv695]
              refine tw_lv [2, 3, 4, 5, 6, 1, 7, 0] rfl ?_
              exact ih92 (k90 + 1) v694 (by omega) (by omega)
        refine tw_lv [1, 2, 3, 4, 5, 6, 7, 0] rfl ?_
        exact L93 (5 + 1) 0 0 (by omega) (by omega)
      · rw [q85r]
        refine tw_if_eq 74 dX10_ofCountryNow_37 (by decide) (fun c696 => absurd c696 (by decide)) (fun _ => ?_)
        refine tw_aload 7 dX10_ofCountryNow_40 rfl ?_
        have k697 : τ el82 = 28 := k83.resolve_left (fun q => absurd q85j (by rw [q.2.1]; exact Nat.not_lt_zero _))
        obtain ⟨e698, f699, ⟨F700, rfl, hc701, hc702⟩, un703⟩ := sp75.1 el82 28 k697 (by decide)
        obtain ⟨y704, hy705, ky706⟩ := hc702 j70 q85j
        refine tw_br (tw_callF (M := mX10_ofCountryNow) (pc := 42) (n9 := 0) (ci := 2) tw_next ok_itNext w_1425 w_1423 (fun s H z => z.2.2.2.2.2.2.2.2.2) (by decide +kernel) dX10_ofCountryNow_42 w_1420 rfl ft76 [] [] rfl rfl ⟨by decide, by decide⟩ (Nat.le_of_ble_eq_true rfl) (c_next d h74 it60 lh_12 el82 j70 (g.2 4) y704 l71 (g.1 4) F700 ft76 f81 f699 q85j hc701 hy705) 2 13 (Nat.le_of_ble_eq_true rfl) (Nat.le_of_ble_eq_true rfl)) (fun r709 h708 q707 => ?_) (fun E h1 q => q.elim)
        obtain ⟨q707r, q707e⟩ := q707
        rw [q707r]
        have sp710 : tw_sp d τ (tw_rm h65 it60) g τ h708 := by rw [q707e]; exact sp75.wl tw_rm_s zt77
        have f711 : h708 it60 = some (.inr (2, [.int (nI (j70 + 1)), .int (nI j70), .int (g.1 4), .ref lh_12])) := by rw [q707e]; exact tw_up_s
        obtain ⟨e712, f713, x_714, y_715, dy_716, p_717, rfl, k718, k719, k720⟩ := sp710.1 y704 23 ky706 (by decide)
        refine tw_castS (ci := 13) rfl dX10_ofCountryNow_47 w_1336 f713 ?_
        refine tw_astore [(8, .ref y704), (0, .ref x), (1, .int (nI a)), (2, .int w9), (3, .ref r39), (4, .int x68), (5, .int 0), (6, .int 0), (7, .ref it60)] dX10_ofCountryNow_50 (by decide) rfl ?_
        refine tw_iload 5 dX10_ofCountryNow_52 rfl ?_
        refine tw_aload 0 dX10_ofCountryNow_54 rfl ?_
        refine tw_get (v := .int x_714) rfl in_13 0 dX10_ofCountryNow_56 w_1342 rfl (by decide) f713 rfl ?_
        refine tw_iload_n 2 dX10_ofCountryNow_59 rfl rfl ?_
        refine tw_icmp_ne 67 dX10_ofCountryNow_60 (by decide) (fun c721 => ?_) (fun c721 => ?_)
        · refine tw_iconst (v := 0) dX10_ofCountryNow_67 (by decide) ?_
          refine tw_iadd dX10_ofCountryNow_68 ?_
          refine tw_nmi (fun v722 ev722 => ?_)
          refine tw_istore [(4, .int v722), (8, .ref y704), (0, .ref x), (1, .int (nI a)), (2, .int w9), (3, .ref r39), (5, .int 0), (6, .int 0), (7, .ref it60)] dX10_ofCountryNow_69 (by decide) rfl ?_
          refine tw_goto 30 dX10_ofCountryNow_71 (by decide) ?_
          refine tw_lv [2, 3, 4, 5, 0, 6, 7, 8] rfl ?_
          exact ih72 ((j70 + 1)) (nI j70) v722 _ sp710 f711 zt77  (by omega) (by omega)
        · refine tw_iconst (v := 1) dX10_ofCountryNow_63 (by decide) ?_
          refine tw_goto 68 dX10_ofCountryNow_64 (by decide) ?_
          refine tw_iadd dX10_ofCountryNow_68 ?_
          refine tw_nmi (fun v723 ev723 => ?_)
          refine tw_istore [(4, .int v723), (8, .ref y704), (0, .ref x), (1, .int (nI a)), (2, .int w9), (3, .ref r39), (5, .int 0), (6, .int 0), (7, .ref it60)] dX10_ofCountryNow_69 (by decide) rfl ?_
          refine tw_goto 30 dX10_ofCountryNow_71 (by decide) ?_
          refine tw_lv [2, 3, 4, 5, 0, 6, 7, 8] rfl ?_
          exact ih72 ((j70 + 1)) (nI j70) v723 _ sp710 f711 zt77  (by omega) (by omega)
  refine tw_lv [5, 6, 7, 4, 3, 2, 1, 0] rfl ?_
  exact L73 (g.2 4 + 1) 0 (-1) 0 _ (tw_sp.rm sp66.1 it60) f67 z64  (by omega) (Nat.zero_le _)

set_option maxHeartbeats 4000000 in
set_option maxRecDepth 100000 in
theorem c_X10_ofCountry (d : tw_D) (g : tw_G) (τ : tw_K) (h : tw_H) (hw : tw_wt d g τ h) (x : Nat) (kx : τ x = 36) (a : Int32) (w9 : Int32) : tw_Ct d mX10_ofCountry 3 17 [.ref x, .int a, .int w9] h (tw_qi (fun r h1 => tw_sp d τ h g τ h1) tw_nx) := by
  refine tw_of (by decide +kernel) (Nat.le_of_ble_eq_true rfl) ?_
  show tw_W d mX10_ofCountry _ 0 [(0, .ref x), (1, .int a), (2, .int w9)] [] h 3 17
  have sp0 := tw_sp.rf hw
  refine tw_aload_n 0 dX10_ofCountry_0 rfl rfl ?_
  refine tw_aload_n 0 dX10_ofCountry_1 rfl rfl ?_
  refine tw_iload_n 1 dX10_ofCountry_2 rfl rfl ?_
  obtain ⟨e1, f2, th_3, td_4, ds_5, fr_6, ca_7, us_8, wo_9, cm_10, lc_11, lh_12, ld_13, rfl, k14, k15, k16, k17, k18, k19, k20, k21, k22, k23, k24, k25, k26, k27, k28, k29, k30, k31⟩ := sp0.1 x 36 kx (by decide)
  refine tw_bi (tw_callV (M := mX10_ofCountry) (pc := 3) okX10_isNoCountry dX10_ofCountry_3 w_1292 rfl f2 [.int a] [.ref x] rfl rfl ⟨by decide, by decide⟩ (Nat.le_of_ble_eq_true rfl) (c_X10_isNoCountry d g τ h sp0.1 x kx a) 3 17 (Nat.le_of_ble_eq_true rfl) (Nat.le_of_ble_eq_true rfl)) (fun r34 h33 q32 => ?_) (fun E h1 q => q.elim)
  obtain ⟨q32e, q32d⟩ := q32
  rw [q32e]
  rcases q32d with q32r | ⟨q32r, j35, q32j, q32k⟩
  · rw [q32r]
    refine tw_iconst (v := 1) dX10_ofCountry_6 (by decide) ?_
    refine tw_bi (tw_callV (M := mX10_ofCountry) (pc := 7) okX10_start dX10_ofCountry_7 w_1200 rfl f2 [.int 1, .int 1] [] rfl rfl ⟨by decide, by decide⟩ (Nat.le_of_ble_eq_true rfl) (c_X10_start d g τ h sp0.1 x kx 1 1 (by decide)) 3 17 (Nat.le_of_ble_eq_true rfl) (Nat.le_of_ble_eq_true rfl)) (fun r38 h37 q36 => ?_) (fun E h1 q => q.elim)
    obtain ⟨e39, he40, hs41, hr42, h343⟩ := q36
    have sp44 : tw_sp d τ h g τ h37 := by rw [he40]; exact sp0.set kx (by decide) hs41
    rcases hr42 with ei45 | ⟨ei45, ei45b⟩
    · rw [ei45]
      refine tw_if_ne 36 dX10_ofCountry_10 (by decide) (fun _ => ?_) (fun c46 => absurd c46 (by decide))
      refine tw_iconst (v := 0) dX10_ofCountry_36 (by decide) ?_
      refine tw_goto 46 dX10_ofCountry_37 (by decide) ?_
      exact tw_iret dX10_ofCountry_46 rfl (Or.inl ⟨_, rfl, sp44⟩)
    · exact absurd ei45b (by decide)
  · rw [q32r]
    subst q32k
    refine tw_iconst (v := 1) dX10_ofCountry_6 (by decide) ?_
    refine tw_bi (tw_callV (M := mX10_ofCountry) (pc := 7) okX10_start dX10_ofCountry_7 w_1200 rfl f2 [.int 0, .int 1] [] rfl rfl ⟨by decide, by decide⟩ (Nat.le_of_ble_eq_true rfl) (c_X10_start d g τ h sp0.1 x kx 0 1 (by decide)) 3 17 (Nat.le_of_ble_eq_true rfl) (Nat.le_of_ble_eq_true rfl)) (fun r49 h48 q47 => ?_) (fun E h1 q => q.elim)
    obtain ⟨e50, he51, hs52, hr53, h354⟩ := q47
    have sp55 : tw_sp d τ h g τ h48 := by rw [he51]; exact sp0.set kx (by decide) hs52
    rcases hr53 with ei56 | ⟨ei56, ei56b⟩
    · rw [ei56]
      refine tw_if_ne 36 dX10_ofCountry_10 (by decide) (fun _ => ?_) (fun c57 => absurd c57 (by decide))
      refine tw_iconst (v := 0) dX10_ofCountry_36 (by decide) ?_
      refine tw_goto 46 dX10_ofCountry_37 (by decide) ?_
      exact tw_iret dX10_ofCountry_46 rfl (Or.inl ⟨_, rfl, sp55⟩)
    · rw [ei56]
      refine tw_if_ne 36 dX10_ofCountry_10 (by decide) (fun c58 => absurd (by decide) c58) (fun _ => ?_)
      refine tw_aload_n 0 dX10_ofCountry_13 rfl rfl ?_
      refine tw_iload_n 2 dX10_ofCountry_14 rfl rfl ?_
      refine tw_iconst (v := 0) dX10_ofCountry_15 (by decide) ?_
      refine tw_bipush (v := 8) dX10_ofCountry_16 (by decide) ?_
      refine tw_bi (tw_callS (M := mX10_ofCountry) (pc := 18) okX10_isIn dX10_ofCountry_18 w_1196 [.int w9, .int 0, .int 8] [.ref x] rfl rfl ⟨by decide, by decide⟩ (Nat.le_of_ble_eq_true rfl) (c_X10_isIn d g τ h48 sp55.1 w9 0 8) 3 17 (Nat.le_of_ble_eq_true rfl) (Nat.le_of_ble_eq_true rfl)) (fun r61 h60 q59 => ?_) (fun E h1 q => q.elim)
      obtain ⟨q59e, q59d⟩ := q59
      rw [q59e]
      rcases q59d with ⟨q59r, q59n⟩ | ⟨q59r, q59a, q59b⟩
      · rw [q59r]
        refine tw_if_ne 28 dX10_ofCountry_21 (by decide) (fun c62 => absurd (by decide) c62) (fun _ => ?_)
        refine tw_iconst (v := 1) dX10_ofCountry_24 (by decide) ?_
        refine tw_goto 29 dX10_ofCountry_25 (by decide) ?_
        refine tw_iconst (v := 2) dX10_ofCountry_29 (by decide) ?_
        obtain ⟨e63, f64, th_65, td_66, ds_67, fr_68, ca_69, us_70, wo_71, cm_72, lc_73, lh_74, ld_75, rfl, k76, k77, k78, k79, k80, k81, k82, k83, k84, k85, k86, k87, k88, k89, k90, k91, k92, k93⟩ := sp55.1 x 36 kx (by decide)
        refine tw_bi (tw_callV (M := mX10_ofCountry) (pc := 30) okX10_refuse dX10_ofCountry_30 w_1204 rfl f64 [.int 1, .int 2] [] rfl rfl ⟨by decide, by decide⟩ (Nat.le_of_ble_eq_true rfl) (c_X10_refuse d g τ h48 sp55.1 x kx 1 2 (by decide)) 3 17 (Nat.le_of_ble_eq_true rfl) (Nat.le_of_ble_eq_true rfl)) (fun r96 h95 q94 => ?_) (fun E h1 q => q.elim)
        obtain ⟨e97, he98, hs99, hr100, h3101⟩ := q94
        have sp102 : tw_sp d τ h g τ h95 := by rw [he98]; exact sp55.set kx (by decide) hs99
        rcases hr100 with ei103 | ⟨ei103, ei103b⟩
        · rw [ei103]
          refine tw_if_eq 40 dX10_ofCountry_33 (by decide) (fun c104 => absurd c104 (by decide)) (fun _ => ?_)
          refine tw_iconst (v := 0) dX10_ofCountry_36 (by decide) ?_
          refine tw_goto 46 dX10_ofCountry_37 (by decide) ?_
          exact tw_iret dX10_ofCountry_46 rfl (Or.inl ⟨_, rfl, sp102⟩)
        · exact absurd ei103b (by decide)
      · rw [q59r]
        refine tw_if_ne 28 dX10_ofCountry_21 (by decide) (fun _ => ?_) (fun c105 => absurd c105 (by decide))
        refine tw_iconst (v := 0) dX10_ofCountry_28 (by decide) ?_
        refine tw_iconst (v := 2) dX10_ofCountry_29 (by decide) ?_
        obtain ⟨e106, f107, th_108, td_109, ds_110, fr_111, ca_112, us_113, wo_114, cm_115, lc_116, lh_117, ld_118, rfl, k119, k120, k121, k122, k123, k124, k125, k126, k127, k128, k129, k130, k131, k132, k133, k134, k135, k136⟩ := sp55.1 x 36 kx (by decide)
        refine tw_bi (tw_callV (M := mX10_ofCountry) (pc := 30) okX10_refuse dX10_ofCountry_30 w_1204 rfl f107 [.int 0, .int 2] [] rfl rfl ⟨by decide, by decide⟩ (Nat.le_of_ble_eq_true rfl) (c_X10_refuse d g τ h48 sp55.1 x kx 0 2 (by decide)) 3 17 (Nat.le_of_ble_eq_true rfl) (Nat.le_of_ble_eq_true rfl)) (fun r139 h138 q137 => ?_) (fun E h1 q => q.elim)
        obtain ⟨e140, he141, hs142, hr143, h3144⟩ := q137
        have sp145 : tw_sp d τ h g τ h138 := by rw [he141]; exact sp55.set kx (by decide) hs142
        rcases hr143 with ei146 | ⟨ei146, ei146b⟩
        · rw [ei146]
          refine tw_if_eq 40 dX10_ofCountry_33 (by decide) (fun c147 => absurd c147 (by decide)) (fun _ => ?_)
          refine tw_iconst (v := 0) dX10_ofCountry_36 (by decide) ?_
          refine tw_goto 46 dX10_ofCountry_37 (by decide) ?_
          exact tw_iret dX10_ofCountry_46 rfl (Or.inl ⟨_, rfl, sp145⟩)
        · rw [ei146]
          refine tw_if_eq 40 dX10_ofCountry_33 (by decide) (fun _ => ?_) (fun c148 => absurd (by decide) c148)
          refine tw_aload_n 0 dX10_ofCountry_40 rfl rfl ?_
          refine tw_iload_n 1 dX10_ofCountry_41 rfl rfl ?_
          refine tw_iload_n 2 dX10_ofCountry_42 rfl rfl ?_
          obtain ⟨e149, f150, th_151, td_152, ds_153, fr_154, ca_155, us_156, wo_157, cm_158, lc_159, lh_160, ld_161, rfl, k162, k163, k164, k165, k166, k167, k168, k169, k170, k171, k172, k173, k174, k175, k176, k177, k178, k179⟩ := sp145.1 x 36 kx (by decide)
          refine tw_bi (tw_callV (M := mX10_ofCountry) (pc := 43) okX10_ofCountryNow dX10_ofCountry_43 w_1505 rfl f150 [.int (nI j35), .int w9] [] rfl rfl ⟨by decide, by decide⟩ (Nat.le_of_ble_eq_true rfl) (c_X10_ofCountryNow d g τ h138 sp145.1 x kx w9 j35 (by omega) (tw_irng (N := 9) q59a q59b (by decide) (by decide))) 0 0 (Nat.le_of_ble_eq_true rfl) (Nat.le_of_ble_eq_true rfl)) (fun r182 h181 q180 => ?_) (fun E h1 q => q.elim)
          have sp183 := sp145.tr q180
          exact tw_iret dX10_ofCountry_46 rfl (Or.inl ⟨_, rfl, sp183⟩)

set_option maxHeartbeats 4000000 in
set_option maxRecDepth 100000 in
theorem c_X10_ofHouseNow (d : tw_D) (g : tw_G) (τ : tw_K) (h : tw_H) (hw : tw_wt d g τ h) (x : Nat) (kx : τ x = 36) (w9 : Int32) (a : Nat) (ha : a < g.2 4) (hw9 : vp_in w9 8) : tw_Ct d mX10_ofHouseNow 2 12 [.ref x, .int (nI a), .int w9] h (tw_qi (fun r h1 => tw_sp d τ h g τ h1) tw_nx) := by
  refine tw_of (by decide +kernel) (Nat.le_of_ble_eq_true rfl) ?_
  show tw_W d mX10_ofHouseNow _ 0 [(0, .ref x), (1, .int (nI a)), (2, .int w9)] [] h 2 12
  have sp0 := tw_sp.rf hw
  refine tw_aload_n 0 dX10_ofHouseNow_0 rfl rfl ?_
  obtain ⟨e1, f2, th_3, td_4, ds_5, fr_6, ca_7, us_8, wo_9, cm_10, lc_11, lh_12, ld_13, rfl, k14, k15, k16, k17, k18, k19, k20, k21, k22, k23, k24, k25, k26, k27, k28, k29, k30, k31⟩ := sp0.1 x 36 kx (by decide)
  refine tw_get (v := .ref lh_12) rfl in_14 10 dX10_ofHouseNow_1 w_1161 rfl (by decide) f2 rfl ?_
  refine tw_iload_n 1 dX10_ofHouseNow_4 rfl rfl ?_
  obtain ⟨e32, f33, ⟨el34, rfl, k35⟩, k36⟩ := sp0.1 lh_12 25 k21 (by decide)
  refine tw_br (tw_callV (M := mX10_ofHouseNow) (pc := 5) okJx4a65c_get_915e3 dX10_ofHouseNow_5 w_1296 rfl f33 [.int (nI a)] [] rfl rfl ⟨by decide, by decide⟩ (Nat.le_of_ble_eq_true rfl) (c25_get d g τ h sp0.1 lh_12 k21 a (by omega) (by omega)) 2 12 (Nat.le_of_ble_eq_true rfl) (Nat.le_of_ble_eq_true rfl)) (fun r39 h38 q37 => ?_) (fun E h1 q => q.elim)
  obtain ⟨q37e, q37k⟩ := q37
  rw [q37e]
  have el40 : tw_el h (g.2 13) a = r39 := by rw [← k36]; exact q37k.2.symm
  have kl41 : τ (g.2 13) = 25 := by rw [← k36]; exact k21
  obtain ⟨e42, f43, x_44, y_45, dy_46, p_47, rfl, k48, k49, k50⟩ := sp0.1 r39 23 q37k.1 (by decide)
  refine tw_castS (ci := 13) rfl dX10_ofHouseNow_8 w_1336 f43 ?_
  refine tw_astore_n [(3, .ref r39), (0, .ref x), (1, .int (nI a)), (2, .int w9)] dX10_ofHouseNow_11 rfl (by decide) rfl ?_
  refine tw_iconst (v := 0) dX10_ofHouseNow_12 (by decide) ?_
  refine tw_istore [(4, .int 0), (3, .ref r39), (0, .ref x), (1, .int (nI a)), (2, .int w9)] dX10_ofHouseNow_13 (by decide) rfl ?_
  refine tw_iconst (v := 0) dX10_ofHouseNow_15 (by decide) ?_
  refine tw_istore [(5, .int 0), (4, .int 0), (3, .ref r39), (0, .ref x), (1, .int (nI a)), (2, .int w9)] dX10_ofHouseNow_16 (by decide) rfl ?_
  refine tw_aload_n 3 dX10_ofHouseNow_18 rfl rfl ?_
  refine tw_get (v := .ref ld_13) rfl in_14 11 dX10_ofHouseNow_19 w_1162 rfl (by decide) f2 rfl ?_
  obtain ⟨e51, f52, ⟨el53, rfl, k54⟩, k55⟩ := sp0.1 ld_13 26 k22 (by decide)
  refine tw_br (tw_callV (M := mX10_ofHouseNow) (pc := 22) okJx4a65c_iterator_32c93 dX10_ofHouseNow_22 w_1386 rfl f52 [] [] rfl rfl ⟨by decide, by decide⟩ (Nat.le_of_ble_eq_true rfl) (c_iterator d h ld_13 el53 (g.1 5) (nI (g.2 5)) f52) 1 8 (Nat.le_of_ble_eq_true rfl) (Nat.le_of_ble_eq_true rfl)) (fun it56 h57 q58 => ?_) (fun E h1 q => q.elim)
  obtain ⟨q58n, q58e⟩ := q58
  rw [q58e]
  have n59 := sp0.nn q58n
  have z60 := sp0.1.none q58n
  obtain ⟨h61, eh61⟩ : ∃ z : tw_H, z = tw_up h it56 (.inr (2, [.int 0, .int (-1), .int (g.1 5), .ref ld_13])) := ⟨_, rfl⟩
  rw [← eh61]
  have sp62 : tw_sp d τ h g τ h61 := by rw [eh61]; exact sp0.mk q58n
  have f63 : h61 it56 = some (.inr (2, [.int 0, .int (-1), .int (g.1 5), .ref ld_13])) := by rw [eh61]; exact tw_up_s
  refine tw_astore [(6, .ref it56), (5, .int 0), (4, .int 0), (3, .ref r39), (0, .ref x), (1, .int (nI a)), (2, .int w9)] dX10_ofHouseNow_25 (by decide) rfl ?_
  have L70 : ∀ (r66 j67 : Nat) (l68 : Int32) (x64 : Int32) (x65 : Int32) (h71 : tw_H) (sp72 : tw_sp d τ (tw_rm h61 it56) g τ h71) (ft73 : h71 it56 = some (.inr (2, [.int (nI j67), .int l68, .int (g.1 5), .ref ld_13]))) (zt74 : τ it56 = 0), g.2 5 + 1 ≤ j67 + r66 → j67 ≤ g.2 5 → tw_W d mX10_ofHouseNow (tw_qi (fun r h1 => tw_sp d τ h g τ h1) tw_nx) 27 [(0, .ref x), (1, .int (nI a)), (2, .int w9), (3, .ref r39), (4, .int x64), (5, .int x65), (6, .ref it56)] [] h71 1 8 := by
    intro r66
    induction r66 with
    | zero => intro j67 l68 x64 x65 h71 sp72 ft73 zt74 hk75 hk76; exact absurd hk75 (by omega)
    | succ r66 ih69 =>
      intro j67 l68 x64 x65 h71 sp72 ft73 zt74 hk75 hk76
      refine tw_aload 6 dX10_ofHouseNow_27 rfl ?_
      obtain ⟨e77, f78, ⟨el79, rfl, k80⟩, k81⟩ := sp72.1 ld_13 26 k22 (by decide)
      refine tw_bi (tw_callF (M := mX10_ofHouseNow) (pc := 29) (n9 := 0) (ci := 2) tw_hasNext ok_itHas w_1416 w_1414 (fun s H z => z.2.2.2.2.2.2.2.2.1) (by decide +kernel) dX10_ofHouseNow_29 w_1410 rfl ft73 [] [] rfl rfl ⟨by decide, by decide⟩ (Nat.le_of_ble_eq_true rfl) (c_hasNext d h71 it56 ld_13 el79 j67 (g.2 5) l68 (g.1 5) (g.1 5) ft73 f78 (by omega) (tw_lim26 sp72.1 k22)) 1 8 (Nat.le_of_ble_eq_true rfl) (Nat.le_of_ble_eq_true rfl)) (fun r84 h83 q82 => ?_) (fun E h1 q => q.elim)
      obtain ⟨q82e, q82q⟩ := q82
      rw [q82e]
      rcases q82q with ⟨q82r, q82j⟩ | ⟨q82r, q82j⟩
      · rw [q82r]
        refine tw_if_eq 106 dX10_ofHouseNow_34 (by decide) (fun _ => ?_) (fun c85 => absurd (by decide) c85)
        refine tw_bipush (v := 8) dX10_ofHouseNow_106 (by decide) ?_
        refine tw_newa (a0 := (8, .inr (.inl (fun _ => 0)))) 1 rfl dX10_ofHouseNow_108 rfl w_1150 (fun _ => rfl) (by decide) (by decide) (by decide) 0 0 (Nat.le_of_ble_eq_true rfl) (Nat.le_of_ble_eq_true rfl) (fun q86 hq87 hA88 => ?_)
        have n89 := sp72.nn hq87
        have z90 := sp72.1.none hq87
        have ne91 := tw_neF ft73 hq87
        obtain ⟨h92, eh92⟩ : ∃ z : tw_H, z = tw_up h71 q86 (.inl (d.2 1, 8, .inr (.inl (fun _ => 0)))) := ⟨_, rfl⟩
        rw [← eh92]
        have sp93 : tw_sp d τ (tw_rm h61 it56) g τ h92 := by rw [eh92]; exact sp72.mk hq87
        have f94 : h92 it56 = some (.inr (2, [.int (nI j67), .int l68, .int (g.1 5), .ref ld_13])) := by rw [eh92, tw_up_n ne91]; exact ft73
        have f95 : h92 q86 = some (.inl (d.2 1, 8, .inr (.inl (fun _ => 0)))) := by rw [eh92]; exact tw_up_s
        refine tw_dup dX10_ofHouseNow_110 rfl ?_
        refine tw_iconst (v := 0) dX10_ofHouseNow_111 (by decide) ?_
        refine tw_aload_n 3 dX10_ofHouseNow_112 rfl rfl ?_
        obtain ⟨e96, f97, x_98, y_99, dy_100, p_101, rfl, k102, k103, k104⟩ := sp93.1 r39 23 q37k.1 (by decide)
        refine tw_get (v := .int x_98) rfl in_13 0 dX10_ofHouseNow_113 w_1342 rfl (by decide) f97 rfl ?_
        refine tw_i2l dX10_ofHouseNow_116 ?_
        refine tw_nml (fun v105 ev105 => ?_)
        refine tw_last dX10_ofHouseNow_117 f95 (vp_in_nI (n := 0) (by decide) (by decide)) ?_
        obtain ⟨F106, eF106⟩ : ∃ z : Nat → Int64, z = vp_updL (fun _ => 0) (0 : Int32).toNatClampNeg v105 := ⟨_, rfl⟩
        rw [← eF106]
        obtain ⟨h107, eh107⟩ : ∃ z : tw_H, z = tw_up h92 q86 (.inl (d.2 1, 8, .inr (.inl F106))) := ⟨_, rfl⟩
        rw [← eh107]
        have sp108 : tw_sp d τ (tw_rm h61 it56) g τ h107 := by rw [eh107]; exact sp93.wl n89 z90
        have f109 : h107 it56 = some (.inr (2, [.int (nI j67), .int l68, .int (g.1 5), .ref ld_13])) := by rw [eh107, tw_up_n ne91]; exact f94
        have f110 : h107 q86 = some (.inl (d.2 1, 8, .inr (.inl F106))) := by rw [eh107]; exact tw_up_s
        refine tw_dup dX10_ofHouseNow_118 rfl ?_
        refine tw_iconst (v := 1) dX10_ofHouseNow_119 (by decide) ?_
        refine tw_aload_n 3 dX10_ofHouseNow_120 rfl rfl ?_
        obtain ⟨e111, f112, x_113, y_114, dy_115, p_116, rfl, k117, k118, k119⟩ := sp108.1 r39 23 q37k.1 (by decide)
        refine tw_get (v := .int y_114) rfl in_13 1 dX10_ofHouseNow_121 w_1344 rfl (by decide) f112 rfl ?_
        refine tw_i2l dX10_ofHouseNow_124 ?_
        refine tw_nml (fun v120 ev120 => ?_)
        refine tw_last dX10_ofHouseNow_125 f110 (vp_in_nI (n := 1) (by decide) (by decide)) ?_
        obtain ⟨F121, eF121⟩ : ∃ z : Nat → Int64, z = vp_updL F106 (1 : Int32).toNatClampNeg v120 := ⟨_, rfl⟩
        rw [← eF121]
        obtain ⟨h122, eh122⟩ : ∃ z : tw_H, z = tw_up h107 q86 (.inl (d.2 1, 8, .inr (.inl F121))) := ⟨_, rfl⟩
        rw [← eh122]
        have sp123 : tw_sp d τ (tw_rm h61 it56) g τ h122 := by rw [eh122]; exact sp108.wl n89 z90
        have f124 : h122 it56 = some (.inr (2, [.int (nI j67), .int l68, .int (g.1 5), .ref ld_13])) := by rw [eh122, tw_up_n ne91]; exact f109
        have f125 : h122 q86 = some (.inl (d.2 1, 8, .inr (.inl F121))) := by rw [eh122]; exact tw_up_s
        refine tw_dup dX10_ofHouseNow_126 rfl ?_
        refine tw_iconst (v := 2) dX10_ofHouseNow_127 (by decide) ?_
        refine tw_aload_n 3 dX10_ofHouseNow_128 rfl rfl ?_
        obtain ⟨e126, f127, x_128, y_129, dy_130, p_131, rfl, k132, k133, k134⟩ := sp123.1 r39 23 q37k.1 (by decide)
        refine tw_get (v := .int dy_130) rfl in_13 2 dX10_ofHouseNow_129 w_1346 rfl (by decide) f127 rfl ?_
        refine tw_i2l dX10_ofHouseNow_132 ?_
        refine tw_nml (fun v135 ev135 => ?_)
        refine tw_last dX10_ofHouseNow_133 f125 (vp_in_nI (n := 2) (by decide) (by decide)) ?_
        obtain ⟨F136, eF136⟩ : ∃ z : Nat → Int64, z = vp_updL F121 (2 : Int32).toNatClampNeg v135 := ⟨_, rfl⟩
        rw [← eF136]
        obtain ⟨h137, eh137⟩ : ∃ z : tw_H, z = tw_up h122 q86 (.inl (d.2 1, 8, .inr (.inl F136))) := ⟨_, rfl⟩
        rw [← eh137]
        have sp138 : tw_sp d τ (tw_rm h61 it56) g τ h137 := by rw [eh137]; exact sp123.wl n89 z90
        have f139 : h137 it56 = some (.inr (2, [.int (nI j67), .int l68, .int (g.1 5), .ref ld_13])) := by rw [eh137, tw_up_n ne91]; exact f124
        have f140 : h137 q86 = some (.inl (d.2 1, 8, .inr (.inl F136))) := by rw [eh137]; exact tw_up_s
        refine tw_dup dX10_ofHouseNow_134 rfl ?_
        refine tw_iconst (v := 3) dX10_ofHouseNow_135 (by decide) ?_
        refine tw_aload_n 3 dX10_ofHouseNow_136 rfl rfl ?_
        obtain ⟨e141, f142, x_143, y_144, dy_145, p_146, rfl, k147, k148, k149⟩ := sp138.1 r39 23 q37k.1 (by decide)
        refine tw_get (v := .ref p_146) rfl in_13 3 dX10_ofHouseNow_137 w_1348 rfl (by decide) f142 rfl ?_
        refine tw_iconst (v := 0) dX10_ofHouseNow_140 (by decide) ?_
        obtain ⟨e150, f151, F152, rfl⟩ := sp138.1 p_146 31 k147 (by decide)
        obtain ⟨v153, ev153⟩ : ∃ y : Int64, F152 (0 : Int32).toNatClampNeg = y := ⟨_, rfl⟩
        refine tw_lald (v := v153) dX10_ofHouseNow_141 f151 (vp_in_nI (n := 0) (by decide) (by decide)) ev153 ?_
        refine tw_last dX10_ofHouseNow_142 f140 (vp_in_nI (n := 3) (by decide) (by decide)) ?_
        obtain ⟨F154, eF154⟩ : ∃ z : Nat → Int64, z = vp_updL F136 (3 : Int32).toNatClampNeg v153 := ⟨_, rfl⟩
        rw [← eF154]
        obtain ⟨h155, eh155⟩ : ∃ z : tw_H, z = tw_up h137 q86 (.inl (d.2 1, 8, .inr (.inl F154))) := ⟨_, rfl⟩
        rw [← eh155]
        have sp156 : tw_sp d τ (tw_rm h61 it56) g τ h155 := by rw [eh155]; exact sp138.wl n89 z90
        have f157 : h155 it56 = some (.inr (2, [.int (nI j67), .int l68, .int (g.1 5), .ref ld_13])) := by rw [eh155, tw_up_n ne91]; exact f139
        have f158 : h155 q86 = some (.inl (d.2 1, 8, .inr (.inl F154))) := by rw [eh155]; exact tw_up_s
        refine tw_dup dX10_ofHouseNow_143 rfl ?_
        refine tw_iconst (v := 4) dX10_ofHouseNow_144 (by decide) ?_
        refine tw_aload_n 3 dX10_ofHouseNow_145 rfl rfl ?_
        obtain ⟨e159, f160, x_161, y_162, dy_163, p_164, rfl, k165, k166, k167⟩ := sp156.1 r39 23 q37k.1 (by decide)
        refine tw_get (v := .ref p_164) rfl in_13 3 dX10_ofHouseNow_146 w_1348 rfl (by decide) f160 rfl ?_
        refine tw_iconst (v := 1) dX10_ofHouseNow_149 (by decide) ?_
        obtain ⟨e168, f169, F170, rfl⟩ := sp156.1 p_164 31 k165 (by decide)
        obtain ⟨v171, ev171⟩ : ∃ y : Int64, F170 (1 : Int32).toNatClampNeg = y := ⟨_, rfl⟩
        refine tw_lald (v := v171) dX10_ofHouseNow_150 f169 (vp_in_nI (n := 1) (by decide) (by decide)) ev171 ?_
        refine tw_last dX10_ofHouseNow_151 f158 (vp_in_nI (n := 4) (by decide) (by decide)) ?_
        obtain ⟨F172, eF172⟩ : ∃ z : Nat → Int64, z = vp_updL F154 (4 : Int32).toNatClampNeg v171 := ⟨_, rfl⟩
        rw [← eF172]
        obtain ⟨h173, eh173⟩ : ∃ z : tw_H, z = tw_up h155 q86 (.inl (d.2 1, 8, .inr (.inl F172))) := ⟨_, rfl⟩
        rw [← eh173]
        have sp174 : tw_sp d τ (tw_rm h61 it56) g τ h173 := by rw [eh173]; exact sp156.wl n89 z90
        have f175 : h173 it56 = some (.inr (2, [.int (nI j67), .int l68, .int (g.1 5), .ref ld_13])) := by rw [eh173, tw_up_n ne91]; exact f157
        have f176 : h173 q86 = some (.inl (d.2 1, 8, .inr (.inl F172))) := by rw [eh173]; exact tw_up_s
        refine tw_dup dX10_ofHouseNow_152 rfl ?_
        refine tw_iconst (v := 5) dX10_ofHouseNow_153 (by decide) ?_
        refine tw_aload_n 0 dX10_ofHouseNow_154 rfl rfl ?_
        refine tw_aload_n 3 dX10_ofHouseNow_155 rfl rfl ?_
        obtain ⟨e177, f178, x_179, y_180, dy_181, p_182, rfl, k183, k184, k185⟩ := sp174.1 r39 23 q37k.1 (by decide)
        refine tw_get (v := .ref p_182) rfl in_13 3 dX10_ofHouseNow_156 w_1348 rfl (by decide) f178 rfl ?_
        obtain ⟨e186, f187, th_188, td_189, ds_190, fr_191, ca_192, us_193, wo_194, cm_195, lc_196, lh_197, ld_198, rfl, k199, k200, k201, k202, k203, k204, k205, k206, k207, k208, k209, k210, k211, k212, k213, k214, k215, k216⟩ := sp174.1 x 36 kx (by decide)
        refine tw_bl (tw_callV (M := mX10_ofHouseNow) (pc := 159) okX10_worth dX10_ofHouseNow_159 w_1509 rfl f187 [.ref p_182] [.int 5, .ref q86, .ref q86] rfl rfl ⟨by decide, by decide⟩ (Nat.le_of_ble_eq_true rfl) (c_X10_worth d g τ h173 sp174.1 x kx p_182 k183) 0 0 (Nat.le_of_ble_eq_true rfl) (Nat.le_of_ble_eq_true rfl)) (fun r219 h218 q217 => ?_) (fun E h1 q => q.elim)
        rw [q217]
        refine tw_last dX10_ofHouseNow_162 f176 (vp_in_nI (n := 5) (by decide) (by decide)) ?_
        obtain ⟨F220, eF220⟩ : ∃ z : Nat → Int64, z = vp_updL F172 (5 : Int32).toNatClampNeg r219 := ⟨_, rfl⟩
        rw [← eF220]
        obtain ⟨h221, eh221⟩ : ∃ z : tw_H, z = tw_up h173 q86 (.inl (d.2 1, 8, .inr (.inl F220))) := ⟨_, rfl⟩
        rw [← eh221]
        have sp222 : tw_sp d τ (tw_rm h61 it56) g τ h221 := by rw [eh221]; exact sp174.wl n89 z90
        have f223 : h221 it56 = some (.inr (2, [.int (nI j67), .int l68, .int (g.1 5), .ref ld_13])) := by rw [eh221, tw_up_n ne91]; exact f175
        have f224 : h221 q86 = some (.inl (d.2 1, 8, .inr (.inl F220))) := by rw [eh221]; exact tw_up_s
        refine tw_dup dX10_ofHouseNow_163 rfl ?_
        refine tw_bipush (v := 6) dX10_ofHouseNow_164 (by decide) ?_
        refine tw_iload 4 dX10_ofHouseNow_166 rfl ?_
        refine tw_i2l dX10_ofHouseNow_168 ?_
        refine tw_nml (fun v225 ev225 => ?_)
        refine tw_last dX10_ofHouseNow_169 f224 (vp_in_nI (n := 6) (by decide) (by decide)) ?_
        obtain ⟨F226, eF226⟩ : ∃ z : Nat → Int64, z = vp_updL F220 (6 : Int32).toNatClampNeg v225 := ⟨_, rfl⟩
        rw [← eF226]
        obtain ⟨h227, eh227⟩ : ∃ z : tw_H, z = tw_up h221 q86 (.inl (d.2 1, 8, .inr (.inl F226))) := ⟨_, rfl⟩
        rw [← eh227]
        have sp228 : tw_sp d τ (tw_rm h61 it56) g τ h227 := by rw [eh227]; exact sp222.wl n89 z90
        have f229 : h227 it56 = some (.inr (2, [.int (nI j67), .int l68, .int (g.1 5), .ref ld_13])) := by rw [eh227, tw_up_n ne91]; exact f223
        have f230 : h227 q86 = some (.inl (d.2 1, 8, .inr (.inl F226))) := by rw [eh227]; exact tw_up_s
        refine tw_dup dX10_ofHouseNow_170 rfl ?_
        refine tw_bipush (v := 7) dX10_ofHouseNow_171 (by decide) ?_
        refine tw_iload 5 dX10_ofHouseNow_173 rfl ?_
        refine tw_i2l dX10_ofHouseNow_175 ?_
        refine tw_nml (fun v231 ev231 => ?_)
        refine tw_last dX10_ofHouseNow_176 f230 (vp_in_nI (n := 7) (by decide) (by decide)) ?_
        obtain ⟨F232, eF232⟩ : ∃ z : Nat → Int64, z = vp_updL F226 (7 : Int32).toNatClampNeg v231 := ⟨_, rfl⟩
        rw [← eF232]
        obtain ⟨h233, eh233⟩ : ∃ z : tw_H, z = tw_up h227 q86 (.inl (d.2 1, 8, .inr (.inl F232))) := ⟨_, rfl⟩
        rw [← eh233]
        have sp234 : tw_sp d τ (tw_rm h61 it56) g τ h233 := by rw [eh233]; exact sp228.wl n89 z90
        have f235 : h233 it56 = some (.inr (2, [.int (nI j67), .int l68, .int (g.1 5), .ref ld_13])) := by rw [eh233, tw_up_n ne91]; exact f229
        have f236 : h233 q86 = some (.inl (d.2 1, 8, .inr (.inl F232))) := by rw [eh233]; exact tw_up_s
        refine tw_astore [(6, .ref q86), (0, .ref x), (1, .int (nI a)), (2, .int w9), (3, .ref r39), (4, .int x64), (5, .int x65)] dX10_ofHouseNow_177 (by decide) rfl ?_
        refine tw_aload 0 dX10_ofHouseNow_179 rfl ?_
        refine tw_iload_n 3 dX10_ofHouseNow_181 rfl rfl ?_
        obtain ⟨v237, ev237⟩ : ∃ y : Int64, F232 (w9).toNatClampNeg = y := ⟨_, rfl⟩
        refine tw_lald (v := v237) dX10_ofHouseNow_182 f236 hw9 ev237 ?_
        refine tw_l2i dX10_ofHouseNow_183 ?_
        refine tw_nmi (fun v238 ev238 => ?_)
        exact tw_iret dX10_ofHouseNow_184 rfl (Or.inl ⟨_, rfl, (sp62.trm n59 sp234)⟩)
      · rw [q82r]
        refine tw_if_eq 106 dX10_ofHouseNow_34 (by decide) (fun c239 => absurd c239 (by decide)) (fun _ => ?_)
        refine tw_aload 6 dX10_ofHouseNow_37 rfl ?_
        have k240 : τ el79 = 29 := k80.resolve_left (fun q => absurd q82j (by rw [q.2.1]; exact Nat.not_lt_zero _))
        obtain ⟨e241, f242, ⟨F243, rfl, hc244, hc245⟩, un246⟩ := sp72.1 el79 29 k240 (by decide)
        obtain ⟨y247, hy248, ky249⟩ := hc245 j67 q82j
        refine tw_br (tw_callF (M := mX10_ofHouseNow) (pc := 39) (n9 := 0) (ci := 2) tw_next ok_itNext w_1425 w_1423 (fun s H z => z.2.2.2.2.2.2.2.2.2) (by decide +kernel) dX10_ofHouseNow_39 w_1420 rfl ft73 [] [] rfl rfl ⟨by decide, by decide⟩ (Nat.le_of_ble_eq_true rfl) (c_next d h71 it56 ld_13 el79 j67 (g.2 5) y247 l68 (g.1 5) F243 ft73 f78 f242 q82j hc244 hy248) 1 8 (Nat.le_of_ble_eq_true rfl) (Nat.le_of_ble_eq_true rfl)) (fun r252 h251 q250 => ?_) (fun E h1 q => q.elim)
        obtain ⟨q250r, q250e⟩ := q250
        rw [q250r]
        have sp253 : tw_sp d τ (tw_rm h61 it56) g τ h251 := by rw [q250e]; exact sp72.wl tw_rm_s zt74
        have f254 : h251 it56 = some (.inr (2, [.int (nI (j67 + 1)), .int (nI j67), .int (g.1 5), .ref ld_13])) := by rw [q250e]; exact tw_up_s
        obtain ⟨e255, f256, v_257, dy_258, pd_259, i_260, j_261, rfl, k262, k263, k264⟩ := sp253.1 y247 22 ky249 (by decide)
        refine tw_castS (ci := 12) rfl dX10_ofHouseNow_44 w_1437 f256 ?_
        refine tw_astore [(7, .ref y247), (0, .ref x), (1, .int (nI a)), (2, .int w9), (3, .ref r39), (4, .int x64), (5, .int x65), (6, .ref it56)] dX10_ofHouseNow_47 (by decide) rfl ?_
        refine tw_iload 5 dX10_ofHouseNow_49 rfl ?_
        refine tw_aload 0 dX10_ofHouseNow_51 rfl ?_
        refine tw_get (v := .int pd_259) rfl in_12 4 dX10_ofHouseNow_53 w_1447 rfl (by decide) f256 rfl ?_
        refine tw_if_ne 72 dX10_ofHouseNow_56 (by decide) (fun c265 => ?_) (fun c265 => ?_)
        · refine tw_iconst (v := 0) dX10_ofHouseNow_72 (by decide) ?_
          refine tw_iadd dX10_ofHouseNow_73 ?_
          refine tw_nmi (fun v266 ev266 => ?_)
          refine tw_istore [(4, .int v266), (7, .ref y247), (0, .ref x), (1, .int (nI a)), (2, .int w9), (3, .ref r39), (5, .int x65), (6, .ref it56)] dX10_ofHouseNow_74 (by decide) rfl ?_
          refine tw_iload 6 dX10_ofHouseNow_76 rfl ?_
          refine tw_aload 1 dX10_ofHouseNow_78 rfl ?_
          refine tw_get (v := .int pd_259) rfl in_12 4 dX10_ofHouseNow_80 w_1447 rfl (by decide) f256 rfl ?_
          refine tw_if_ne 99 dX10_ofHouseNow_83 (by decide) (fun c267 => ?_) (fun c267 => ?_)
          · refine tw_iconst (v := 0) dX10_ofHouseNow_99 (by decide) ?_
            refine tw_iadd dX10_ofHouseNow_100 ?_
            refine tw_nmi (fun v268 ev268 => ?_)
            refine tw_istore [(5, .int v268), (4, .int v266), (7, .ref y247), (0, .ref x), (1, .int (nI a)), (2, .int w9), (3, .ref r39), (6, .ref it56)] dX10_ofHouseNow_101 (by decide) rfl ?_
            refine tw_goto 27 dX10_ofHouseNow_103 (by decide) ?_
            refine tw_lv [3, 4, 5, 6, 1, 0, 7] rfl ?_
            exact ih69 ((j67 + 1)) (nI j67) v266 v268 _ sp253 f254 zt74  (by omega) (by omega)
          · refine tw_aload 1 dX10_ofHouseNow_86 rfl ?_
            refine tw_get (v := .int (nI j_261)) rfl in_12 1 dX10_ofHouseNow_88 w_1444 rfl (by decide) f256 rfl ?_
            refine tw_iload_n 3 dX10_ofHouseNow_91 rfl rfl ?_
            refine tw_icmp_ne 99 dX10_ofHouseNow_92 (by decide) (fun c269 => ?_) (fun c269 => ?_)
            · refine tw_iconst (v := 0) dX10_ofHouseNow_99 (by decide) ?_
              refine tw_iadd dX10_ofHouseNow_100 ?_
              refine tw_nmi (fun v270 ev270 => ?_)
              refine tw_istore [(5, .int v270), (4, .int v266), (7, .ref y247), (0, .ref x), (1, .int (nI a)), (2, .int w9), (3, .ref r39), (6, .ref it56)] dX10_ofHouseNow_101 (by decide) rfl ?_
              refine tw_goto 27 dX10_ofHouseNow_103 (by decide) ?_
              refine tw_lv [3, 4, 5, 6, 1, 0, 7] rfl ?_
              exact ih69 ((j67 + 1)) (nI j67) v266 v270 _ sp253 f254 zt74  (by omega) (by omega)
            · refine tw_iconst (v := 1) dX10_ofHouseNow_95 (by decide) ?_
              refine tw_goto 100 dX10_ofHouseNow_96 (by decide) ?_
              refine tw_iadd dX10_ofHouseNow_100 ?_
              refine tw_nmi (fun v271 ev271 => ?_)
              refine tw_istore [(5, .int v271), (4, .int v266), (7, .ref y247), (0, .ref x), (1, .int (nI a)), (2, .int w9), (3, .ref r39), (6, .ref it56)] dX10_ofHouseNow_101 (by decide) rfl ?_
              refine tw_goto 27 dX10_ofHouseNow_103 (by decide) ?_
              refine tw_lv [3, 4, 5, 6, 1, 0, 7] rfl ?_
              exact ih69 ((j67 + 1)) (nI j67) v266 v271 _ sp253 f254 zt74  (by omega) (by omega)
        · refine tw_aload 0 dX10_ofHouseNow_59 rfl ?_
          refine tw_get (v := .int (nI i_260)) rfl in_12 0 dX10_ofHouseNow_61 w_1443 rfl (by decide) f256 rfl ?_
          refine tw_iload_n 2 dX10_ofHouseNow_64 rfl rfl ?_
          refine tw_icmp_ne 72 dX10_ofHouseNow_65 (by decide) (fun c272 => ?_) (fun c272 => ?_)
          · refine tw_iconst (v := 0) dX10_ofHouseNow_72 (by decide) ?_
            refine tw_iadd dX10_ofHouseNow_73 ?_
            refine tw_nmi (fun v273 ev273 => ?_)
            refine tw_istore [(4, .int v273), (7, .ref y247), (0, .ref x), (1, .int (nI a)), (2, .int w9), (3, .ref r39), (5, .int x65), (6, .ref it56)] dX10_ofHouseNow_74 (by decide) rfl ?_
            refine tw_iload 6 dX10_ofHouseNow_76 rfl ?_
            refine tw_aload 1 dX10_ofHouseNow_78 rfl ?_
            refine tw_get (v := .int pd_259) rfl in_12 4 dX10_ofHouseNow_80 w_1447 rfl (by decide) f256 rfl ?_
            refine tw_if_ne 99 dX10_ofHouseNow_83 (by decide) (fun c274 => ?_) (fun c274 => ?_)
            · refine tw_iconst (v := 0) dX10_ofHouseNow_99 (by decide) ?_
              refine tw_iadd dX10_ofHouseNow_100 ?_
              refine tw_nmi (fun v275 ev275 => ?_)
              refine tw_istore [(5, .int v275), (4, .int v273), (7, .ref y247), (0, .ref x), (1, .int (nI a)), (2, .int w9), (3, .ref r39), (6, .ref it56)] dX10_ofHouseNow_101 (by decide) rfl ?_
              refine tw_goto 27 dX10_ofHouseNow_103 (by decide) ?_
              refine tw_lv [3, 4, 5, 6, 1, 0, 7] rfl ?_
              exact ih69 ((j67 + 1)) (nI j67) v273 v275 _ sp253 f254 zt74  (by omega) (by omega)
            · refine tw_aload 1 dX10_ofHouseNow_86 rfl ?_
              refine tw_get (v := .int (nI j_261)) rfl in_12 1 dX10_ofHouseNow_88 w_1444 rfl (by decide) f256 rfl ?_
              refine tw_iload_n 3 dX10_ofHouseNow_91 rfl rfl ?_
              refine tw_icmp_ne 99 dX10_ofHouseNow_92 (by decide) (fun c276 => ?_) (fun c276 => ?_)
              · refine tw_iconst (v := 0) dX10_ofHouseNow_99 (by decide) ?_
                refine tw_iadd dX10_ofHouseNow_100 ?_
                refine tw_nmi (fun v277 ev277 => ?_)
                refine tw_istore [(5, .int v277), (4, .int v273), (7, .ref y247), (0, .ref x), (1, .int (nI a)), (2, .int w9), (3, .ref r39), (6, .ref it56)] dX10_ofHouseNow_101 (by decide) rfl ?_
                refine tw_goto 27 dX10_ofHouseNow_103 (by decide) ?_
                refine tw_lv [3, 4, 5, 6, 1, 0, 7] rfl ?_
                exact ih69 ((j67 + 1)) (nI j67) v273 v277 _ sp253 f254 zt74  (by omega) (by omega)
              · refine tw_iconst (v := 1) dX10_ofHouseNow_95 (by decide) ?_
                refine tw_goto 100 dX10_ofHouseNow_96 (by decide) ?_
                refine tw_iadd dX10_ofHouseNow_100 ?_
                refine tw_nmi (fun v278 ev278 => ?_)
                refine tw_istore [(5, .int v278), (4, .int v273), (7, .ref y247), (0, .ref x), (1, .int (nI a)), (2, .int w9), (3, .ref r39), (6, .ref it56)] dX10_ofHouseNow_101 (by decide) rfl ?_
                refine tw_goto 27 dX10_ofHouseNow_103 (by decide) ?_
                refine tw_lv [3, 4, 5, 6, 1, 0, 7] rfl ?_
                exact ih69 ((j67 + 1)) (nI j67) v273 v278 _ sp253 f254 zt74  (by omega) (by omega)
          · refine tw_iconst (v := 1) dX10_ofHouseNow_68 (by decide) ?_
            refine tw_goto 73 dX10_ofHouseNow_69 (by decide) ?_
            refine tw_iadd dX10_ofHouseNow_73 ?_
            refine tw_nmi (fun v279 ev279 => ?_)
            refine tw_istore [(4, .int v279), (7, .ref y247), (0, .ref x), (1, .int (nI a)), (2, .int w9), (3, .ref r39), (5, .int x65), (6, .ref it56)] dX10_ofHouseNow_74 (by decide) rfl ?_
            refine tw_iload 6 dX10_ofHouseNow_76 rfl ?_
            refine tw_aload 1 dX10_ofHouseNow_78 rfl ?_
            refine tw_get (v := .int pd_259) rfl in_12 4 dX10_ofHouseNow_80 w_1447 rfl (by decide) f256 rfl ?_
            refine tw_if_ne 99 dX10_ofHouseNow_83 (by decide) (fun c280 => ?_) (fun c280 => ?_)
            · refine tw_iconst (v := 0) dX10_ofHouseNow_99 (by decide) ?_
              refine tw_iadd dX10_ofHouseNow_100 ?_
              refine tw_nmi (fun v281 ev281 => ?_)
              refine tw_istore [(5, .int v281), (4, .int v279), (7, .ref y247), (0, .ref x), (1, .int (nI a)), (2, .int w9), (3, .ref r39), (6, .ref it56)] dX10_ofHouseNow_101 (by decide) rfl ?_
              refine tw_goto 27 dX10_ofHouseNow_103 (by decide) ?_
              refine tw_lv [3, 4, 5, 6, 1, 0, 7] rfl ?_
              exact ih69 ((j67 + 1)) (nI j67) v279 v281 _ sp253 f254 zt74  (by omega) (by omega)
            · refine tw_aload 1 dX10_ofHouseNow_86 rfl ?_
              refine tw_get (v := .int (nI j_261)) rfl in_12 1 dX10_ofHouseNow_88 w_1444 rfl (by decide) f256 rfl ?_
              refine tw_iload_n 3 dX10_ofHouseNow_91 rfl rfl ?_
              refine tw_icmp_ne 99 dX10_ofHouseNow_92 (by decide) (fun c282 => ?_) (fun c282 => ?_)
              · refine tw_iconst (v := 0) dX10_ofHouseNow_99 (by decide) ?_
                refine tw_iadd dX10_ofHouseNow_100 ?_
                refine tw_nmi (fun v283 ev283 => ?_)
                refine tw_istore [(5, .int v283), (4, .int v279), (7, .ref y247), (0, .ref x), (1, .int (nI a)), (2, .int w9), (3, .ref r39), (6, .ref it56)] dX10_ofHouseNow_101 (by decide) rfl ?_
                refine tw_goto 27 dX10_ofHouseNow_103 (by decide) ?_
                refine tw_lv [3, 4, 5, 6, 1, 0, 7] rfl ?_
                exact ih69 ((j67 + 1)) (nI j67) v279 v283 _ sp253 f254 zt74  (by omega) (by omega)
              · refine tw_iconst (v := 1) dX10_ofHouseNow_95 (by decide) ?_
                refine tw_goto 100 dX10_ofHouseNow_96 (by decide) ?_
                refine tw_iadd dX10_ofHouseNow_100 ?_
                refine tw_nmi (fun v284 ev284 => ?_)
                refine tw_istore [(5, .int v284), (4, .int v279), (7, .ref y247), (0, .ref x), (1, .int (nI a)), (2, .int w9), (3, .ref r39), (6, .ref it56)] dX10_ofHouseNow_101 (by decide) rfl ?_
                refine tw_goto 27 dX10_ofHouseNow_103 (by decide) ?_
                refine tw_lv [3, 4, 5, 6, 1, 0, 7] rfl ?_
                exact ih69 ((j67 + 1)) (nI j67) v279 v284 _ sp253 f254 zt74  (by omega) (by omega)
  refine tw_lv [4, 5, 6, 3, 2, 1, 0] rfl ?_
  exact L70 (g.2 5 + 1) 0 (-1) 0 0 _ (tw_sp.rm sp62.1 it56) f63 z60  (by omega) (Nat.zero_le _)

set_option maxHeartbeats 4000000 in
set_option maxRecDepth 100000 in
theorem c_X10_ofHouse (d : tw_D) (g : tw_G) (τ : tw_K) (h : tw_H) (hw : tw_wt d g τ h) (x : Nat) (kx : τ x = 36) (a : Int32) (w9 : Int32) : tw_Ct d mX10_ofHouse 2 12 [.ref x, .int a, .int w9] h (tw_qi (fun r h1 => tw_sp d τ h g τ h1) tw_nx) := by
  refine tw_of (by decide +kernel) (Nat.le_of_ble_eq_true rfl) ?_
  show tw_W d mX10_ofHouse _ 0 [(0, .ref x), (1, .int a), (2, .int w9)] [] h 2 12
  have sp0 := tw_sp.rf hw
  refine tw_aload_n 0 dX10_ofHouse_0 rfl rfl ?_
  refine tw_aload_n 0 dX10_ofHouse_1 rfl rfl ?_
  refine tw_iload_n 1 dX10_ofHouse_2 rfl rfl ?_
  obtain ⟨e1, f2, th_3, td_4, ds_5, fr_6, ca_7, us_8, wo_9, cm_10, lc_11, lh_12, ld_13, rfl, k14, k15, k16, k17, k18, k19, k20, k21, k22, k23, k24, k25, k26, k27, k28, k29, k30, k31⟩ := sp0.1 x 36 kx (by decide)
  refine tw_bi (tw_callV (M := mX10_ofHouse) (pc := 3) okX10_isNoHouse dX10_ofHouse_3 w_1362 rfl f2 [.int a] [.ref x] rfl rfl ⟨by decide, by decide⟩ (Nat.le_of_ble_eq_true rfl) (c_X10_isNoHouse d g τ h sp0.1 x kx a) 2 12 (Nat.le_of_ble_eq_true rfl) (Nat.le_of_ble_eq_true rfl)) (fun r34 h33 q32 => ?_) (fun E h1 q => q.elim)
  obtain ⟨q32e, q32d⟩ := q32
  rw [q32e]
  rcases q32d with q32r | ⟨q32r, j35, q32j, q32k⟩
  · rw [q32r]
    refine tw_iconst (v := 1) dX10_ofHouse_6 (by decide) ?_
    refine tw_bi (tw_callV (M := mX10_ofHouse) (pc := 7) okX10_start dX10_ofHouse_7 w_1200 rfl f2 [.int 1, .int 1] [] rfl rfl ⟨by decide, by decide⟩ (Nat.le_of_ble_eq_true rfl) (c_X10_start d g τ h sp0.1 x kx 1 1 (by decide)) 2 12 (Nat.le_of_ble_eq_true rfl) (Nat.le_of_ble_eq_true rfl)) (fun r38 h37 q36 => ?_) (fun E h1 q => q.elim)
    obtain ⟨e39, he40, hs41, hr42, h343⟩ := q36
    have sp44 : tw_sp d τ h g τ h37 := by rw [he40]; exact sp0.set kx (by decide) hs41
    rcases hr42 with ei45 | ⟨ei45, ei45b⟩
    · rw [ei45]
      refine tw_if_ne 36 dX10_ofHouse_10 (by decide) (fun _ => ?_) (fun c46 => absurd c46 (by decide))
      refine tw_iconst (v := 0) dX10_ofHouse_36 (by decide) ?_
      refine tw_goto 46 dX10_ofHouse_37 (by decide) ?_
      exact tw_iret dX10_ofHouse_46 rfl (Or.inl ⟨_, rfl, sp44⟩)
    · exact absurd ei45b (by decide)
  · rw [q32r]
    subst q32k
    refine tw_iconst (v := 1) dX10_ofHouse_6 (by decide) ?_
    refine tw_bi (tw_callV (M := mX10_ofHouse) (pc := 7) okX10_start dX10_ofHouse_7 w_1200 rfl f2 [.int 0, .int 1] [] rfl rfl ⟨by decide, by decide⟩ (Nat.le_of_ble_eq_true rfl) (c_X10_start d g τ h sp0.1 x kx 0 1 (by decide)) 2 12 (Nat.le_of_ble_eq_true rfl) (Nat.le_of_ble_eq_true rfl)) (fun r49 h48 q47 => ?_) (fun E h1 q => q.elim)
    obtain ⟨e50, he51, hs52, hr53, h354⟩ := q47
    have sp55 : tw_sp d τ h g τ h48 := by rw [he51]; exact sp0.set kx (by decide) hs52
    rcases hr53 with ei56 | ⟨ei56, ei56b⟩
    · rw [ei56]
      refine tw_if_ne 36 dX10_ofHouse_10 (by decide) (fun _ => ?_) (fun c57 => absurd c57 (by decide))
      refine tw_iconst (v := 0) dX10_ofHouse_36 (by decide) ?_
      refine tw_goto 46 dX10_ofHouse_37 (by decide) ?_
      exact tw_iret dX10_ofHouse_46 rfl (Or.inl ⟨_, rfl, sp55⟩)
    · rw [ei56]
      refine tw_if_ne 36 dX10_ofHouse_10 (by decide) (fun c58 => absurd (by decide) c58) (fun _ => ?_)
      refine tw_aload_n 0 dX10_ofHouse_13 rfl rfl ?_
      refine tw_iload_n 2 dX10_ofHouse_14 rfl rfl ?_
      refine tw_iconst (v := 0) dX10_ofHouse_15 (by decide) ?_
      refine tw_bipush (v := 7) dX10_ofHouse_16 (by decide) ?_
      refine tw_bi (tw_callS (M := mX10_ofHouse) (pc := 18) okX10_isIn dX10_ofHouse_18 w_1196 [.int w9, .int 0, .int 7] [.ref x] rfl rfl ⟨by decide, by decide⟩ (Nat.le_of_ble_eq_true rfl) (c_X10_isIn d g τ h48 sp55.1 w9 0 7) 2 12 (Nat.le_of_ble_eq_true rfl) (Nat.le_of_ble_eq_true rfl)) (fun r61 h60 q59 => ?_) (fun E h1 q => q.elim)
      obtain ⟨q59e, q59d⟩ := q59
      rw [q59e]
      rcases q59d with ⟨q59r, q59n⟩ | ⟨q59r, q59a, q59b⟩
      · rw [q59r]
        refine tw_if_ne 28 dX10_ofHouse_21 (by decide) (fun c62 => absurd (by decide) c62) (fun _ => ?_)
        refine tw_iconst (v := 1) dX10_ofHouse_24 (by decide) ?_
        refine tw_goto 29 dX10_ofHouse_25 (by decide) ?_
        refine tw_iconst (v := 2) dX10_ofHouse_29 (by decide) ?_
        obtain ⟨e63, f64, th_65, td_66, ds_67, fr_68, ca_69, us_70, wo_71, cm_72, lc_73, lh_74, ld_75, rfl, k76, k77, k78, k79, k80, k81, k82, k83, k84, k85, k86, k87, k88, k89, k90, k91, k92, k93⟩ := sp55.1 x 36 kx (by decide)
        refine tw_bi (tw_callV (M := mX10_ofHouse) (pc := 30) okX10_refuse dX10_ofHouse_30 w_1204 rfl f64 [.int 1, .int 2] [] rfl rfl ⟨by decide, by decide⟩ (Nat.le_of_ble_eq_true rfl) (c_X10_refuse d g τ h48 sp55.1 x kx 1 2 (by decide)) 2 12 (Nat.le_of_ble_eq_true rfl) (Nat.le_of_ble_eq_true rfl)) (fun r96 h95 q94 => ?_) (fun E h1 q => q.elim)
        obtain ⟨e97, he98, hs99, hr100, h3101⟩ := q94
        have sp102 : tw_sp d τ h g τ h95 := by rw [he98]; exact sp55.set kx (by decide) hs99
        rcases hr100 with ei103 | ⟨ei103, ei103b⟩
        · rw [ei103]
          refine tw_if_eq 40 dX10_ofHouse_33 (by decide) (fun c104 => absurd c104 (by decide)) (fun _ => ?_)
          refine tw_iconst (v := 0) dX10_ofHouse_36 (by decide) ?_
          refine tw_goto 46 dX10_ofHouse_37 (by decide) ?_
          exact tw_iret dX10_ofHouse_46 rfl (Or.inl ⟨_, rfl, sp102⟩)
        · exact absurd ei103b (by decide)
      · rw [q59r]
        refine tw_if_ne 28 dX10_ofHouse_21 (by decide) (fun _ => ?_) (fun c105 => absurd c105 (by decide))
        refine tw_iconst (v := 0) dX10_ofHouse_28 (by decide) ?_
        refine tw_iconst (v := 2) dX10_ofHouse_29 (by decide) ?_
        obtain ⟨e106, f107, th_108, td_109, ds_110, fr_111, ca_112, us_113, wo_114, cm_115, lc_116, lh_117, ld_118, rfl, k119, k120, k121, k122, k123, k124, k125, k126, k127, k128, k129, k130, k131, k132, k133, k134, k135, k136⟩ := sp55.1 x 36 kx (by decide)
        refine tw_bi (tw_callV (M := mX10_ofHouse) (pc := 30) okX10_refuse dX10_ofHouse_30 w_1204 rfl f107 [.int 0, .int 2] [] rfl rfl ⟨by decide, by decide⟩ (Nat.le_of_ble_eq_true rfl) (c_X10_refuse d g τ h48 sp55.1 x kx 0 2 (by decide)) 2 12 (Nat.le_of_ble_eq_true rfl) (Nat.le_of_ble_eq_true rfl)) (fun r139 h138 q137 => ?_) (fun E h1 q => q.elim)
        obtain ⟨e140, he141, hs142, hr143, h3144⟩ := q137
        have sp145 : tw_sp d τ h g τ h138 := by rw [he141]; exact sp55.set kx (by decide) hs142
        rcases hr143 with ei146 | ⟨ei146, ei146b⟩
        · rw [ei146]
          refine tw_if_eq 40 dX10_ofHouse_33 (by decide) (fun c147 => absurd c147 (by decide)) (fun _ => ?_)
          refine tw_iconst (v := 0) dX10_ofHouse_36 (by decide) ?_
          refine tw_goto 46 dX10_ofHouse_37 (by decide) ?_
          exact tw_iret dX10_ofHouse_46 rfl (Or.inl ⟨_, rfl, sp145⟩)
        · rw [ei146]
          refine tw_if_eq 40 dX10_ofHouse_33 (by decide) (fun _ => ?_) (fun c148 => absurd (by decide) c148)
          refine tw_aload_n 0 dX10_ofHouse_40 rfl rfl ?_
          refine tw_iload_n 1 dX10_ofHouse_41 rfl rfl ?_
          refine tw_iload_n 2 dX10_ofHouse_42 rfl rfl ?_
          obtain ⟨e149, f150, th_151, td_152, ds_153, fr_154, ca_155, us_156, wo_157, cm_158, lc_159, lh_160, ld_161, rfl, k162, k163, k164, k165, k166, k167, k168, k169, k170, k171, k172, k173, k174, k175, k176, k177, k178, k179⟩ := sp145.1 x 36 kx (by decide)
          refine tw_bi (tw_callV (M := mX10_ofHouse) (pc := 43) okX10_ofHouseNow dX10_ofHouse_43 w_1517 rfl f150 [.int (nI j35), .int w9] [] rfl rfl ⟨by decide, by decide⟩ (Nat.le_of_ble_eq_true rfl) (c_X10_ofHouseNow d g τ h138 sp145.1 x kx w9 j35 (by omega) (tw_irng (N := 8) q59a q59b (by decide) (by decide))) 0 0 (Nat.le_of_ble_eq_true rfl) (Nat.le_of_ble_eq_true rfl)) (fun r182 h181 q180 => ?_) (fun E h1 q => q.elim)
          have sp183 := sp145.tr q180
          exact tw_iret dX10_ofHouse_46 rfl (Or.inl ⟨_, rfl, sp183⟩)

set_option maxHeartbeats 4000000 in
set_option maxRecDepth 100000 in
theorem c_X10_ofDebtNow (d : tw_D) (g : tw_G) (τ : tw_K) (h : tw_H) (hw : tw_wt d g τ h) (x : Nat) (kx : τ x = 36) (y : Nat) (ky : τ y = 22) (w9 : Int32) (hw9 : vp_in w9 7) : tw_Ct d mX10_ofDebtNow 1 7 [.ref x, .ref y, .int w9] h (tw_qi (fun r h1 => tw_sp d τ h g τ h1) tw_nx) := by
  refine tw_of (by decide +kernel) (Nat.le_of_ble_eq_true rfl) ?_
  show tw_W d mX10_ofDebtNow _ 0 [(0, .ref x), (1, .ref y), (2, .int w9)] [] h 1 7
  have sp0 := tw_sp.rf hw
  refine tw_bipush (v := 7) dX10_ofDebtNow_0 (by decide) ?_
  refine tw_newa (a0 := (7, .inl (fun _ => 0))) 0 rfl dX10_ofDebtNow_2 rfl w_500 (fun _ => rfl) (by decide) (by decide) (by decide) 0 0 (Nat.le_of_ble_eq_true rfl) (Nat.le_of_ble_eq_true rfl) (fun q1 hq2 hA3 => ?_)
  have n4 := sp0.nn hq2
  have z5 := sp0.1.none hq2
  obtain ⟨h6, eh6⟩ : ∃ z : tw_H, z = tw_up h q1 (.inl (d.2 0, 7, .inl (fun _ => 0))) := ⟨_, rfl⟩
  rw [← eh6]
  have sp7 : tw_sp d τ h g τ h6 := by rw [eh6]; exact sp0.mk hq2
  have f8 : h6 q1 = some (.inl (d.2 0, 7, .inl (fun _ => 0))) := by rw [eh6]; exact tw_up_s
  refine tw_dup dX10_ofDebtNow_4 rfl ?_
  refine tw_iconst (v := 0) dX10_ofDebtNow_5 (by decide) ?_
  refine tw_aload_n 1 dX10_ofDebtNow_6 rfl rfl ?_
  obtain ⟨e9, f10, v_11, dy_12, pd_13, i_14, j_15, rfl, k16, k17, k18⟩ := sp7.1 y 22 ky (by decide)
  refine tw_get (v := .int (nI i_14)) rfl in_12 0 dX10_ofDebtNow_7 w_1443 rfl (by decide) f10 rfl ?_
  refine tw_iast dX10_ofDebtNow_10 f8 (vp_in_nI (n := 0) (by decide) (by decide)) ?_
  obtain ⟨F19, eF19⟩ : ∃ z : Nat → Int32, z = upd (fun _ => 0) (0 : Int32).toNatClampNeg (nI i_14) := ⟨_, rfl⟩
  rw [← eF19]
  obtain ⟨h20, eh20⟩ : ∃ z : tw_H, z = tw_up h6 q1 (.inl (d.2 0, 7, .inl F19)) := ⟨_, rfl⟩
  rw [← eh20]
  have sp21 : tw_sp d τ h g τ h20 := by rw [eh20]; exact sp7.wl n4 z5
  have f22 : h20 q1 = some (.inl (d.2 0, 7, .inl F19)) := by rw [eh20]; exact tw_up_s
  refine tw_dup dX10_ofDebtNow_11 rfl ?_
  refine tw_iconst (v := 1) dX10_ofDebtNow_12 (by decide) ?_
  refine tw_aload_n 1 dX10_ofDebtNow_13 rfl rfl ?_
  obtain ⟨e23, f24, v_25, dy_26, pd_27, i_28, j_29, rfl, k30, k31, k32⟩ := sp21.1 y 22 ky (by decide)
  refine tw_get (v := .int (nI j_29)) rfl in_12 1 dX10_ofDebtNow_14 w_1444 rfl (by decide) f24 rfl ?_
  refine tw_iast dX10_ofDebtNow_17 f22 (vp_in_nI (n := 1) (by decide) (by decide)) ?_
  obtain ⟨F33, eF33⟩ : ∃ z : Nat → Int32, z = upd F19 (1 : Int32).toNatClampNeg (nI j_29) := ⟨_, rfl⟩
  rw [← eF33]
  obtain ⟨h34, eh34⟩ : ∃ z : tw_H, z = tw_up h20 q1 (.inl (d.2 0, 7, .inl F33)) := ⟨_, rfl⟩
  rw [← eh34]
  have sp35 : tw_sp d τ h g τ h34 := by rw [eh34]; exact sp21.wl n4 z5
  have f36 : h34 q1 = some (.inl (d.2 0, 7, .inl F33)) := by rw [eh34]; exact tw_up_s
  refine tw_dup dX10_ofDebtNow_18 rfl ?_
  refine tw_iconst (v := 2) dX10_ofDebtNow_19 (by decide) ?_
  refine tw_aload_n 1 dX10_ofDebtNow_20 rfl rfl ?_
  obtain ⟨e37, f38, v_39, dy_40, pd_41, i_42, j_43, rfl, k44, k45, k46⟩ := sp35.1 y 22 ky (by decide)
  refine tw_get (v := .int v_39) rfl in_12 2 dX10_ofDebtNow_21 w_1445 rfl (by decide) f38 rfl ?_
  refine tw_iast dX10_ofDebtNow_24 f36 (vp_in_nI (n := 2) (by decide) (by decide)) ?_
  obtain ⟨F47, eF47⟩ : ∃ z : Nat → Int32, z = upd F33 (2 : Int32).toNatClampNeg v_39 := ⟨_, rfl⟩
  rw [← eF47]
  obtain ⟨h48, eh48⟩ : ∃ z : tw_H, z = tw_up h34 q1 (.inl (d.2 0, 7, .inl F47)) := ⟨_, rfl⟩
  rw [← eh48]
  have sp49 : tw_sp d τ h g τ h48 := by rw [eh48]; exact sp35.wl n4 z5
  have f50 : h48 q1 = some (.inl (d.2 0, 7, .inl F47)) := by rw [eh48]; exact tw_up_s
  refine tw_dup dX10_ofDebtNow_25 rfl ?_
  refine tw_iconst (v := 3) dX10_ofDebtNow_26 (by decide) ?_
  refine tw_aload_n 1 dX10_ofDebtNow_27 rfl rfl ?_
  obtain ⟨e51, f52, v_53, dy_54, pd_55, i_56, j_57, rfl, k58, k59, k60⟩ := sp49.1 y 22 ky (by decide)
  refine tw_get (v := .int dy_54) rfl in_12 3 dX10_ofDebtNow_28 w_1446 rfl (by decide) f52 rfl ?_
  refine tw_iast dX10_ofDebtNow_31 f50 (vp_in_nI (n := 3) (by decide) (by decide)) ?_
  obtain ⟨F61, eF61⟩ : ∃ z : Nat → Int32, z = upd F47 (3 : Int32).toNatClampNeg dy_54 := ⟨_, rfl⟩
  rw [← eF61]
  obtain ⟨h62, eh62⟩ : ∃ z : tw_H, z = tw_up h48 q1 (.inl (d.2 0, 7, .inl F61)) := ⟨_, rfl⟩
  rw [← eh62]
  have sp63 : tw_sp d τ h g τ h62 := by rw [eh62]; exact sp49.wl n4 z5
  have f64 : h62 q1 = some (.inl (d.2 0, 7, .inl F61)) := by rw [eh62]; exact tw_up_s
  refine tw_dup dX10_ofDebtNow_32 rfl ?_
  refine tw_iconst (v := 4) dX10_ofDebtNow_33 (by decide) ?_
  refine tw_aload_n 0 dX10_ofDebtNow_34 rfl rfl ?_
  refine tw_aload_n 1 dX10_ofDebtNow_35 rfl rfl ?_
  obtain ⟨e65, f66, th_67, td_68, ds_69, fr_70, ca_71, us_72, wo_73, cm_74, lc_75, lh_76, ld_77, rfl, k78, k79, k80, k81, k82, k83, k84, k85, k86, k87, k88, k89, k90, k91, k92, k93, k94, k95⟩ := sp63.1 x 36 kx (by decide)
  refine tw_bi (tw_callV (M := mX10_ofDebtNow) (pc := 36) okX10_due dX10_ofDebtNow_36 w_1471 rfl f66 [.ref y] [.int 4, .ref q1, .ref q1] rfl rfl ⟨by decide, by decide⟩ (Nat.le_of_ble_eq_true rfl) (c_X10_due d g τ h62 sp63.1 x kx y ky) 0 0 (Nat.le_of_ble_eq_true rfl) (Nat.le_of_ble_eq_true rfl)) (fun r98 h97 q96 => ?_) (fun E h1 q => q.elim)
  rw [q96]
  refine tw_iast dX10_ofDebtNow_39 f64 (vp_in_nI (n := 4) (by decide) (by decide)) ?_
  obtain ⟨F99, eF99⟩ : ∃ z : Nat → Int32, z = upd F61 (4 : Int32).toNatClampNeg r98 := ⟨_, rfl⟩
  rw [← eF99]
  obtain ⟨h100, eh100⟩ : ∃ z : tw_H, z = tw_up h62 q1 (.inl (d.2 0, 7, .inl F99)) := ⟨_, rfl⟩
  rw [← eh100]
  have sp101 : tw_sp d τ h g τ h100 := by rw [eh100]; exact sp63.wl n4 z5
  have f102 : h100 q1 = some (.inl (d.2 0, 7, .inl F99)) := by rw [eh100]; exact tw_up_s
  refine tw_dup dX10_ofDebtNow_40 rfl ?_
  refine tw_iconst (v := 5) dX10_ofDebtNow_41 (by decide) ?_
  refine tw_aload_n 1 dX10_ofDebtNow_42 rfl rfl ?_
  obtain ⟨e103, f104, v_105, dy_106, pd_107, i_108, j_109, rfl, k110, k111, k112⟩ := sp101.1 y 22 ky (by decide)
  refine tw_get (v := .int pd_107) rfl in_12 4 dX10_ofDebtNow_43 w_1447 rfl (by decide) f104 rfl ?_
  refine tw_if_eq 53 dX10_ofDebtNow_46 (by decide) (fun c113 => ?_) (fun c113 => ?_)
  · refine tw_iconst (v := 0) dX10_ofDebtNow_53 (by decide) ?_
    refine tw_iast dX10_ofDebtNow_54 f102 (vp_in_nI (n := 5) (by decide) (by decide)) ?_
    obtain ⟨F114, eF114⟩ : ∃ z : Nat → Int32, z = upd F99 (5 : Int32).toNatClampNeg 0 := ⟨_, rfl⟩
    rw [← eF114]
    obtain ⟨h115, eh115⟩ : ∃ z : tw_H, z = tw_up h100 q1 (.inl (d.2 0, 7, .inl F114)) := ⟨_, rfl⟩
    rw [← eh115]
    have sp116 : tw_sp d τ h g τ h115 := by rw [eh115]; exact sp101.wl n4 z5
    have f117 : h115 q1 = some (.inl (d.2 0, 7, .inl F114)) := by rw [eh115]; exact tw_up_s
    refine tw_dup dX10_ofDebtNow_55 rfl ?_
    refine tw_bipush (v := 6) dX10_ofDebtNow_56 (by decide) ?_
    refine tw_aload_n 0 dX10_ofDebtNow_58 rfl rfl ?_
    refine tw_aload_n 1 dX10_ofDebtNow_59 rfl rfl ?_
    obtain ⟨e118, f119, th_120, td_121, ds_122, fr_123, ca_124, us_125, wo_126, cm_127, lc_128, lh_129, ld_130, rfl, k131, k132, k133, k134, k135, k136, k137, k138, k139, k140, k141, k142, k143, k144, k145, k146, k147, k148⟩ := sp116.1 x 36 kx (by decide)
    refine tw_bi (tw_callV (M := mX10_ofDebtNow) (pc := 60) okX10_cheaper dX10_ofDebtNow_60 w_1529 rfl f119 [.ref y] [.int 6, .ref q1, .ref q1] rfl rfl ⟨by decide, by decide⟩ (Nat.le_of_ble_eq_true rfl) (c_X10_cheaper d g τ h115 sp116.1 x kx y ky) 0 0 (Nat.le_of_ble_eq_true rfl) (Nat.le_of_ble_eq_true rfl)) (fun r151 h150 q149 => ?_) (fun E h1 q => q.elim)
    rw [q149]
    refine tw_iast dX10_ofDebtNow_63 f117 (vp_in_nI (n := 6) (by decide) (by decide)) ?_
    obtain ⟨F152, eF152⟩ : ∃ z : Nat → Int32, z = upd F114 (6 : Int32).toNatClampNeg r151 := ⟨_, rfl⟩
    rw [← eF152]
    obtain ⟨h153, eh153⟩ : ∃ z : tw_H, z = tw_up h115 q1 (.inl (d.2 0, 7, .inl F152)) := ⟨_, rfl⟩
    rw [← eh153]
    have sp154 : tw_sp d τ h g τ h153 := by rw [eh153]; exact sp116.wl n4 z5
    have f155 : h153 q1 = some (.inl (d.2 0, 7, .inl F152)) := by rw [eh153]; exact tw_up_s
    refine tw_astore_n [(3, .ref q1), (0, .ref x), (1, .ref y), (2, .int w9)] dX10_ofDebtNow_64 rfl (by decide) rfl ?_
    refine tw_aload_n 0 dX10_ofDebtNow_65 rfl rfl ?_
    refine tw_iload_n 3 dX10_ofDebtNow_66 rfl rfl ?_
    obtain ⟨v156, ev156⟩ : ∃ y : Int32, F152 (w9).toNatClampNeg = y := ⟨_, rfl⟩
    refine tw_iald (v := v156) dX10_ofDebtNow_67 f155 hw9 ev156 ?_
    exact tw_iret dX10_ofDebtNow_68 rfl (Or.inl ⟨_, rfl, sp154⟩)
  · refine tw_iconst (v := 1) dX10_ofDebtNow_49 (by decide) ?_
    refine tw_goto 54 dX10_ofDebtNow_50 (by decide) ?_
    refine tw_iast dX10_ofDebtNow_54 f102 (vp_in_nI (n := 5) (by decide) (by decide)) ?_
    obtain ⟨F157, eF157⟩ : ∃ z : Nat → Int32, z = upd F99 (5 : Int32).toNatClampNeg 1 := ⟨_, rfl⟩
    rw [← eF157]
    obtain ⟨h158, eh158⟩ : ∃ z : tw_H, z = tw_up h100 q1 (.inl (d.2 0, 7, .inl F157)) := ⟨_, rfl⟩
    rw [← eh158]
    have sp159 : tw_sp d τ h g τ h158 := by rw [eh158]; exact sp101.wl n4 z5
    have f160 : h158 q1 = some (.inl (d.2 0, 7, .inl F157)) := by rw [eh158]; exact tw_up_s
    refine tw_dup dX10_ofDebtNow_55 rfl ?_
    refine tw_bipush (v := 6) dX10_ofDebtNow_56 (by decide) ?_
    refine tw_aload_n 0 dX10_ofDebtNow_58 rfl rfl ?_
    refine tw_aload_n 1 dX10_ofDebtNow_59 rfl rfl ?_
    obtain ⟨e161, f162, th_163, td_164, ds_165, fr_166, ca_167, us_168, wo_169, cm_170, lc_171, lh_172, ld_173, rfl, k174, k175, k176, k177, k178, k179, k180, k181, k182, k183, k184, k185, k186, k187, k188, k189, k190, k191⟩ := sp159.1 x 36 kx (by decide)
    refine tw_bi (tw_callV (M := mX10_ofDebtNow) (pc := 60) okX10_cheaper dX10_ofDebtNow_60 w_1529 rfl f162 [.ref y] [.int 6, .ref q1, .ref q1] rfl rfl ⟨by decide, by decide⟩ (Nat.le_of_ble_eq_true rfl) (c_X10_cheaper d g τ h158 sp159.1 x kx y ky) 0 0 (Nat.le_of_ble_eq_true rfl) (Nat.le_of_ble_eq_true rfl)) (fun r194 h193 q192 => ?_) (fun E h1 q => q.elim)
    rw [q192]
    refine tw_iast dX10_ofDebtNow_63 f160 (vp_in_nI (n := 6) (by decide) (by decide)) ?_
    obtain ⟨F195, eF195⟩ : ∃ z : Nat → Int32, z = upd F157 (6 : Int32).toNatClampNeg r194 := ⟨_, rfl⟩
    rw [← eF195]
    obtain ⟨h196, eh196⟩ : ∃ z : tw_H, z = tw_up h158 q1 (.inl (d.2 0, 7, .inl F195)) := ⟨_, rfl⟩
    rw [← eh196]
    have sp197 : tw_sp d τ h g τ h196 := by rw [eh196]; exact sp159.wl n4 z5
    have f198 : h196 q1 = some (.inl (d.2 0, 7, .inl F195)) := by rw [eh196]; exact tw_up_s
    refine tw_astore_n [(3, .ref q1), (0, .ref x), (1, .ref y), (2, .int w9)] dX10_ofDebtNow_64 rfl (by decide) rfl ?_
    refine tw_aload_n 0 dX10_ofDebtNow_65 rfl rfl ?_
    refine tw_iload_n 3 dX10_ofDebtNow_66 rfl rfl ?_
    obtain ⟨v199, ev199⟩ : ∃ y : Int32, F195 (w9).toNatClampNeg = y := ⟨_, rfl⟩
    refine tw_iald (v := v199) dX10_ofDebtNow_67 f198 hw9 ev199 ?_
    exact tw_iret dX10_ofDebtNow_68 rfl (Or.inl ⟨_, rfl, sp197⟩)

set_option maxHeartbeats 4000000 in
set_option maxRecDepth 100000 in
theorem c_X10_ofDebt (d : tw_D) (g : tw_G) (τ : tw_K) (h : tw_H) (hw : tw_wt d g τ h) (x : Nat) (kx : τ x = 36) (n : Int32) (w9 : Int32) : tw_Ct d mX10_ofDebt 1 7 [.ref x, .int n, .int w9] h (tw_qi (fun r h1 => tw_sp d τ h g τ h1) tw_nx) := by
  refine tw_of (by decide +kernel) (Nat.le_of_ble_eq_true rfl) ?_
  show tw_W d mX10_ofDebt _ 0 [(0, .ref x), (1, .int n), (2, .int w9)] [] h 1 7
  have sp0 := tw_sp.rf hw
  refine tw_aload_n 0 dX10_ofDebt_0 rfl rfl ?_
  refine tw_iload_n 1 dX10_ofDebt_1 rfl rfl ?_
  refine tw_iconst (v := 0) dX10_ofDebt_2 (by decide) ?_
  refine tw_aload_n 0 dX10_ofDebt_3 rfl rfl ?_
  obtain ⟨e1, f2, th_3, td_4, ds_5, fr_6, ca_7, us_8, wo_9, cm_10, lc_11, lh_12, ld_13, rfl, k14, k15, k16, k17, k18, k19, k20, k21, k22, k23, k24, k25, k26, k27, k28, k29, k30, k31⟩ := sp0.1 x 36 kx (by decide)
  refine tw_get (v := .ref ld_13) rfl in_14 11 dX10_ofDebt_4 w_1162 rfl (by decide) f2 rfl ?_
  obtain ⟨e32, f33, ⟨el34, rfl, k35⟩, k36⟩ := sp0.1 ld_13 26 k22 (by decide)
  refine tw_bi (tw_callV (M := mX10_ofDebt) (pc := 7) okJx4a65c_size_8abf5 dX10_ofDebt_7 w_1208 rfl f33 [] [.int 0, .int n, .ref x] rfl rfl ⟨by decide, by decide⟩ (Nat.le_of_ble_eq_true rfl) (c26_size d g τ h sp0.1 ld_13 k22) 1 7 (Nat.le_of_ble_eq_true rfl) (Nat.le_of_ble_eq_true rfl)) (fun r39 h38 q37 => ?_) (fun E h1 q => q.elim)
  obtain ⟨q37e, q37r⟩ := q37
  rw [q37e, q37r]
  refine tw_iconst (v := 1) dX10_ofDebt_10 (by decide) ?_
  refine tw_isub dX10_ofDebt_11 ?_
  refine tw_nmi (fun v40 ev40 => ?_)
  refine tw_bi (tw_callS (M := mX10_ofDebt) (pc := 12) okX10_isIn dX10_ofDebt_12 w_1196 [.int n, .int 0, .int v40] [.ref x] rfl rfl ⟨by decide, by decide⟩ (Nat.le_of_ble_eq_true rfl) (c_X10_isIn d g τ h sp0.1 n 0 v40) 1 7 (Nat.le_of_ble_eq_true rfl) (Nat.le_of_ble_eq_true rfl)) (fun r43 h42 q41 => ?_) (fun E h1 q => q.elim)
  obtain ⟨q41e, q41d⟩ := q41
  rw [q41e]
  rcases q41d with ⟨q41r, q41n⟩ | ⟨q41r, q41a, q41b⟩
  · rw [q41r]
    refine tw_if_ne 22 dX10_ofDebt_15 (by decide) (fun c44 => absurd (by decide) c44) (fun _ => ?_)
    refine tw_iconst (v := 1) dX10_ofDebt_18 (by decide) ?_
    refine tw_goto 23 dX10_ofDebt_19 (by decide) ?_
    refine tw_iconst (v := 1) dX10_ofDebt_23 (by decide) ?_
    refine tw_bi (tw_callV (M := mX10_ofDebt) (pc := 24) okX10_start dX10_ofDebt_24 w_1200 rfl f2 [.int 1, .int 1] [] rfl rfl ⟨by decide, by decide⟩ (Nat.le_of_ble_eq_true rfl) (c_X10_start d g τ h sp0.1 x kx 1 1 (by decide)) 1 7 (Nat.le_of_ble_eq_true rfl) (Nat.le_of_ble_eq_true rfl)) (fun r47 h46 q45 => ?_) (fun E h1 q => q.elim)
    obtain ⟨e48, he49, hs50, hr51, h352⟩ := q45
    have sp53 : tw_sp d τ h g τ h46 := by rw [he49]; exact sp0.set kx (by decide) hs50
    have f54 : h46 ld_13 = some (.inr (3, [.int (g.1 5), .ref el34, .int (nI (g.2 5))])) := by rw [he49, tw_up_n (fun q => absurd (k22) (by rw [q, kx]; decide))]; exact f33
    rcases hr51 with ei55 | ⟨ei55, ei55b⟩
    · rw [ei55]
      refine tw_if_ne 53 dX10_ofDebt_27 (by decide) (fun _ => ?_) (fun c56 => absurd c56 (by decide))
      refine tw_iconst (v := 0) dX10_ofDebt_53 (by decide) ?_
      refine tw_goto 73 dX10_ofDebt_54 (by decide) ?_
      exact tw_iret dX10_ofDebt_73 rfl (Or.inl ⟨_, rfl, sp53⟩)
    · exact absurd ei55b (by decide)
  · rw [q41r]
    refine tw_if_ne 22 dX10_ofDebt_15 (by decide) (fun _ => ?_) (fun c57 => absurd c57 (by decide))
    refine tw_iconst (v := 0) dX10_ofDebt_22 (by decide) ?_
    refine tw_iconst (v := 1) dX10_ofDebt_23 (by decide) ?_
    refine tw_bi (tw_callV (M := mX10_ofDebt) (pc := 24) okX10_start dX10_ofDebt_24 w_1200 rfl f2 [.int 0, .int 1] [] rfl rfl ⟨by decide, by decide⟩ (Nat.le_of_ble_eq_true rfl) (c_X10_start d g τ h sp0.1 x kx 0 1 (by decide)) 1 7 (Nat.le_of_ble_eq_true rfl) (Nat.le_of_ble_eq_true rfl)) (fun r60 h59 q58 => ?_) (fun E h1 q => q.elim)
    obtain ⟨e61, he62, hs63, hr64, h365⟩ := q58
    have sp66 : tw_sp d τ h g τ h59 := by rw [he62]; exact sp0.set kx (by decide) hs63
    have f67 : h59 ld_13 = some (.inr (3, [.int (g.1 5), .ref el34, .int (nI (g.2 5))])) := by rw [he62, tw_up_n (fun q => absurd (k22) (by rw [q, kx]; decide))]; exact f33
    rcases hr64 with ei68 | ⟨ei68, ei68b⟩
    · rw [ei68]
      refine tw_if_ne 53 dX10_ofDebt_27 (by decide) (fun _ => ?_) (fun c69 => absurd c69 (by decide))
      refine tw_iconst (v := 0) dX10_ofDebt_53 (by decide) ?_
      refine tw_goto 73 dX10_ofDebt_54 (by decide) ?_
      exact tw_iret dX10_ofDebt_73 rfl (Or.inl ⟨_, rfl, sp66⟩)
    · rw [ei68]
      refine tw_if_ne 53 dX10_ofDebt_27 (by decide) (fun c70 => absurd (by decide) c70) (fun _ => ?_)
      refine tw_aload_n 0 dX10_ofDebt_30 rfl rfl ?_
      refine tw_iload_n 2 dX10_ofDebt_31 rfl rfl ?_
      refine tw_iconst (v := 0) dX10_ofDebt_32 (by decide) ?_
      refine tw_bipush (v := 6) dX10_ofDebt_33 (by decide) ?_
      refine tw_bi (tw_callS (M := mX10_ofDebt) (pc := 35) okX10_isIn dX10_ofDebt_35 w_1196 [.int w9, .int 0, .int 6] [.ref x] rfl rfl ⟨by decide, by decide⟩ (Nat.le_of_ble_eq_true rfl) (c_X10_isIn d g τ h59 sp66.1 w9 0 6) 1 7 (Nat.le_of_ble_eq_true rfl) (Nat.le_of_ble_eq_true rfl)) (fun r73 h72 q71 => ?_) (fun E h1 q => q.elim)
      obtain ⟨q71e, q71d⟩ := q71
      rw [q71e]
      rcases q71d with ⟨q71r, q71n⟩ | ⟨q71r, q71a, q71b⟩
      · rw [q71r]
        refine tw_if_ne 45 dX10_ofDebt_38 (by decide) (fun c74 => absurd (by decide) c74) (fun _ => ?_)
        refine tw_iconst (v := 1) dX10_ofDebt_41 (by decide) ?_
        refine tw_goto 46 dX10_ofDebt_42 (by decide) ?_
        refine tw_iconst (v := 2) dX10_ofDebt_46 (by decide) ?_
        obtain ⟨e75, f76, th_77, td_78, ds_79, fr_80, ca_81, us_82, wo_83, cm_84, lc_85, lh_86, ld_87, rfl, k88, k89, k90, k91, k92, k93, k94, k95, k96, k97, k98, k99, k100, k101, k102, k103, k104, k105⟩ := sp66.1 x 36 kx (by decide)
        refine tw_bi (tw_callV (M := mX10_ofDebt) (pc := 47) okX10_refuse dX10_ofDebt_47 w_1204 rfl f76 [.int 1, .int 2] [] rfl rfl ⟨by decide, by decide⟩ (Nat.le_of_ble_eq_true rfl) (c_X10_refuse d g τ h59 sp66.1 x kx 1 2 (by decide)) 1 7 (Nat.le_of_ble_eq_true rfl) (Nat.le_of_ble_eq_true rfl)) (fun r108 h107 q106 => ?_) (fun E h1 q => q.elim)
        obtain ⟨e109, he110, hs111, hr112, h3113⟩ := q106
        have sp114 : tw_sp d τ h g τ h107 := by rw [he110]; exact sp66.set kx (by decide) hs111
        have f115 : h107 ld_13 = some (.inr (3, [.int (g.1 5), .ref el34, .int (nI (g.2 5))])) := by rw [he110, tw_up_n (fun q => absurd (k22) (by rw [q, kx]; decide))]; exact f67
        rcases hr112 with ei116 | ⟨ei116, ei116b⟩
        · rw [ei116]
          refine tw_if_eq 57 dX10_ofDebt_50 (by decide) (fun c117 => absurd c117 (by decide)) (fun _ => ?_)
          refine tw_iconst (v := 0) dX10_ofDebt_53 (by decide) ?_
          refine tw_goto 73 dX10_ofDebt_54 (by decide) ?_
          exact tw_iret dX10_ofDebt_73 rfl (Or.inl ⟨_, rfl, sp114⟩)
        · exact absurd ei116b (by decide)
      · rw [q71r]
        refine tw_if_ne 45 dX10_ofDebt_38 (by decide) (fun _ => ?_) (fun c118 => absurd c118 (by decide))
        refine tw_iconst (v := 0) dX10_ofDebt_45 (by decide) ?_
        refine tw_iconst (v := 2) dX10_ofDebt_46 (by decide) ?_
        obtain ⟨e119, f120, th_121, td_122, ds_123, fr_124, ca_125, us_126, wo_127, cm_128, lc_129, lh_130, ld_131, rfl, k132, k133, k134, k135, k136, k137, k138, k139, k140, k141, k142, k143, k144, k145, k146, k147, k148, k149⟩ := sp66.1 x 36 kx (by decide)
        refine tw_bi (tw_callV (M := mX10_ofDebt) (pc := 47) okX10_refuse dX10_ofDebt_47 w_1204 rfl f120 [.int 0, .int 2] [] rfl rfl ⟨by decide, by decide⟩ (Nat.le_of_ble_eq_true rfl) (c_X10_refuse d g τ h59 sp66.1 x kx 0 2 (by decide)) 1 7 (Nat.le_of_ble_eq_true rfl) (Nat.le_of_ble_eq_true rfl)) (fun r152 h151 q150 => ?_) (fun E h1 q => q.elim)
        obtain ⟨e153, he154, hs155, hr156, h3157⟩ := q150
        have sp158 : tw_sp d τ h g τ h151 := by rw [he154]; exact sp66.set kx (by decide) hs155
        have f159 : h151 ld_13 = some (.inr (3, [.int (g.1 5), .ref el34, .int (nI (g.2 5))])) := by rw [he154, tw_up_n (fun q => absurd (k22) (by rw [q, kx]; decide))]; exact f67
        rcases hr156 with ei160 | ⟨ei160, ei160b⟩
        · rw [ei160]
          refine tw_if_eq 57 dX10_ofDebt_50 (by decide) (fun c161 => absurd c161 (by decide)) (fun _ => ?_)
          refine tw_iconst (v := 0) dX10_ofDebt_53 (by decide) ?_
          refine tw_goto 73 dX10_ofDebt_54 (by decide) ?_
          exact tw_iret dX10_ofDebt_73 rfl (Or.inl ⟨_, rfl, sp158⟩)
        · rw [ei160]
          refine tw_if_eq 57 dX10_ofDebt_50 (by decide) (fun _ => ?_) (fun c162 => absurd (by decide) c162)
          refine tw_aload_n 0 dX10_ofDebt_57 rfl rfl ?_
          refine tw_aload_n 0 dX10_ofDebt_58 rfl rfl ?_
          obtain ⟨e163, f164, th_165, td_166, ds_167, fr_168, ca_169, us_170, wo_171, cm_172, lc_173, lh_174, ld_175, rfl, k176, k177, k178, k179, k180, k181, k182, k183, k184, k185, k186, k187, k188, k189, k190, k191, k192, k193⟩ := sp158.1 x 36 kx (by decide)
          refine tw_get (v := .ref ld_175) rfl in_14 11 dX10_ofDebt_59 w_1162 rfl (by decide) f164 rfl ?_
          refine tw_iload_n 1 dX10_ofDebt_62 rfl rfl ?_
          obtain ⟨j194, hj195, ej196⟩ := tw_isc q41a q41b ev40 (by omega)
          subst ej196
          obtain ⟨e197, f198, ⟨el199, rfl, k200⟩, k201⟩ := sp158.1 ld_175 26 k184 (by decide)
          refine tw_br (tw_callV (M := mX10_ofDebt) (pc := 63) okJx4a65c_get_915e3 dX10_ofDebt_63 w_1296 rfl f198 [.int (nI j194)] [.ref x] rfl rfl ⟨by decide, by decide⟩ (Nat.le_of_ble_eq_true rfl) (c26_get d g τ h151 sp158.1 ld_175 k184 j194 (by omega) (by omega)) 1 7 (Nat.le_of_ble_eq_true rfl) (Nat.le_of_ble_eq_true rfl)) (fun r204 h203 q202 => ?_) (fun E h1 q => q.elim)
          obtain ⟨q202e, q202k⟩ := q202
          rw [q202e]
          have el205 : tw_el h151 (g.2 14) j194 = r204 := by rw [← k201]; exact q202k.2.symm
          have kl206 : τ (g.2 14) = 26 := by rw [← k201]; exact k184
          obtain ⟨e207, f208, v_209, dy_210, pd_211, i_212, j_213, rfl, k214, k215, k216⟩ := sp158.1 r204 22 q202k.1 (by decide)
          refine tw_castS (ci := 12) rfl dX10_ofDebt_66 w_1437 f208 ?_
          refine tw_iload_n 2 dX10_ofDebt_69 rfl rfl ?_
          refine tw_bi (tw_callV (M := mX10_ofDebt) (pc := 70) okX10_ofDebtNow dX10_ofDebt_70 w_1525 rfl f164 [.ref r204, .int w9] [] rfl rfl ⟨by decide, by decide⟩ (Nat.le_of_ble_eq_true rfl) (c_X10_ofDebtNow d g τ h151 sp158.1 x kx r204 q202k.1 w9 (tw_irng (N := 7) q71a q71b (by decide) (by decide))) 0 0 (Nat.le_of_ble_eq_true rfl) (Nat.le_of_ble_eq_true rfl)) (fun r219 h218 q217 => ?_) (fun E h1 q => q.elim)
          have sp220 := sp158.tr q217
          exact tw_iret dX10_ofDebt_73 rfl (Or.inl ⟨_, rfl, sp220⟩)

set_option maxHeartbeats 4000000 in
set_option maxRecDepth 100000 in
theorem c_X10_isSoundNow (d : tw_D) (g : tw_G) (τ : tw_K) (h : tw_H) (hw : tw_wt d g τ h) (x : Nat) (kx : τ x = 36) : tw_Ct d mX10_isSoundNow 62 284 [.ref x] h (tw_qi (fun r h1 => tw_sp d τ h g τ h1 ∧ tw_01 r) tw_nx) := by
  refine tw_of (by decide +kernel) (Nat.le_of_ble_eq_true rfl) ?_
  show tw_W d mX10_isSoundNow _ 0 [(0, .ref x)] [] h 62 284
  have sp0 := tw_sp.rf hw
  refine tw_iconst (v := 0) dX10_isSoundNow_0 (by decide) ?_
  refine tw_istore_n [(1, .int 0), (0, .ref x)] dX10_isSoundNow_1 rfl (by decide) rfl ?_
  have L4 : ∀ (r2 k1 : Nat) (h5 : tw_H) (sp6 : tw_sp d τ h g τ h5), 2 + 1 ≤ k1 + r2 → k1 ≤ 2 → tw_W d mX10_isSoundNow (tw_qi (fun r h1 => tw_sp d τ h g τ h1 ∧ tw_01 r) tw_nx) 2 [(0, .ref x), (1, .int (nI k1))] [] h5 (2 + 20 * r2) (8 + 92 * r2) := by
    intro r2
    induction r2 with
    | zero => intro k1 h5 sp6 hk8 hk9; exact absurd hk8 (by omega)
    | succ r2 ih3 =>
      intro k1 h5 sp6 hk8 hk9
      refine tw_iload_n 1 dX10_isSoundNow_2 rfl rfl ?_
      refine tw_iconst (v := 2) dX10_isSoundNow_3 (by decide) ?_
      refine tw_icmp_ge 163 dX10_isSoundNow_4 (by decide) (fun c10 => ?_) (fun c10 => ?_)
      · refine tw_aload_n 0 dX10_isSoundNow_163 rfl rfl ?_
        obtain ⟨e11, f12, th_13, td_14, ds_15, fr_16, ca_17, us_18, wo_19, cm_20, lc_21, lh_22, ld_23, rfl, k24, k25, k26, k27, k28, k29, k30, k31, k32, k33, k34, k35, k36, k37, k38, k39, k40, k41⟩ := sp6.1 x 36 kx (by decide)
        refine tw_get (v := .ref lc_21) rfl in_14 9 dX10_isSoundNow_164 w_1160 rfl (by decide) f12 rfl ?_
        obtain ⟨e42, f43, ⟨el44, rfl, k45⟩, k46⟩ := sp6.1 lc_21 24 k30 (by decide)
        refine tw_br (tw_callV (M := mX10_isSoundNow) (pc := 167) okJx4a65c_iterator_32c93 dX10_isSoundNow_167 w_1386 rfl f43 [] [] rfl rfl ⟨by decide, by decide⟩ (Nat.le_of_ble_eq_true rfl) (c_iterator d h5 lc_21 el44 (g.1 3) (nI (g.2 3)) f43) ((2 + 20 * (r2 + 1)) - 1) ((8 + 92 * (r2 + 1)) - 4) (by omega) (by omega)) (fun it47 h48 q49 => ?_) (fun E h1 q => q.elim)
        obtain ⟨q49n, q49e⟩ := q49
        rw [q49e]
        have n50 := sp6.nn q49n
        have z51 := sp6.1.none q49n
        obtain ⟨h52, eh52⟩ : ∃ z : tw_H, z = tw_up h5 it47 (.inr (2, [.int 0, .int (-1), .int (g.1 3), .ref lc_21])) := ⟨_, rfl⟩
        rw [← eh52]
        have sp53 : tw_sp d τ h g τ h52 := by rw [eh52]; exact sp6.mk q49n
        have f54 : h52 it47 = some (.inr (2, [.int 0, .int (-1), .int (g.1 3), .ref lc_21])) := by rw [eh52]; exact tw_up_s
        refine tw_astore_n [(1, .ref it47), (0, .ref x)] dX10_isSoundNow_170 rfl (by decide) rfl ?_
        have L59 : ∀ (r55 j56 : Nat) (l57 : Int32) (h60 : tw_H) (sp61 : tw_sp d τ (tw_rm h52 it47) g τ h60) (ft62 : h60 it47 = some (.inr (2, [.int (nI j56), .int l57, .int (g.1 3), .ref lc_21]))) (zt63 : τ it47 = 0), g.2 3 + 1 ≤ j56 + r55 → j56 ≤ g.2 3 → tw_W d mX10_isSoundNow (tw_qi (fun r h1 => tw_sp d τ h g τ h1 ∧ tw_01 r) tw_nx) 171 [(0, .ref x), (1, .ref it47)] [] h60 ((2 + 20 * (r2 + 1)) - 1) ((8 + 92 * (r2 + 1)) - 4) := by
          intro r55
          induction r55 with
          | zero => intro j56 l57 h60 sp61 ft62 zt63 hk64 hk65; exact absurd hk64 (by omega)
          | succ r55 ih58 =>
            intro j56 l57 h60 sp61 ft62 zt63 hk64 hk65
            refine tw_aload_n 1 dX10_isSoundNow_171 rfl rfl ?_
            obtain ⟨e66, f67, ⟨el68, rfl, k69⟩, k70⟩ := sp61.1 lc_21 24 k30 (by decide)
            refine tw_bi (tw_callF (M := mX10_isSoundNow) (pc := 172) (n9 := 0) (ci := 2) tw_hasNext ok_itHas w_1416 w_1414 (fun s H z => z.2.2.2.2.2.2.2.2.1) (by decide +kernel) dX10_isSoundNow_172 w_1410 rfl ft62 [] [] rfl rfl ⟨by decide, by decide⟩ (Nat.le_of_ble_eq_true rfl) (c_hasNext d h60 it47 lc_21 el68 j56 (g.2 3) l57 (g.1 3) (g.1 3) ft62 f67 (by omega) (tw_lim24 sp61.1 k30)) ((2 + 20 * (r2 + 1)) - 1) ((8 + 92 * (r2 + 1)) - 4) (by omega) (by omega)) (fun r73 h72 q71 => ?_) (fun E h1 q => q.elim)
            obtain ⟨q71e, q71q⟩ := q71
            rw [q71e]
            rcases q71q with ⟨q71r, q71j⟩ | ⟨q71r, q71j⟩
            · rw [q71r]
              refine tw_if_eq 231 dX10_isSoundNow_177 (by decide) (fun _ => ?_) (fun c74 => absurd (by decide) c74)
              refine tw_iconst (v := 0) dX10_isSoundNow_231 (by decide) ?_
              refine tw_istore_n [(1, .int 0), (0, .ref x)] dX10_isSoundNow_232 rfl (by decide) rfl ?_
              have L78 : ∀ (r76 k75 : Nat), 4 + 1 ≤ k75 + r76 → k75 ≤ 4 → tw_W d mX10_isSoundNow (tw_qi (fun r h1 => tw_sp d τ h g τ h1 ∧ tw_01 r) tw_nx) 233 [(0, .ref x), (1, .int (nI k75))] [] h60 ((2 + 20 * (r2 + 1)) - 1) ((8 + 92 * (r2 + 1)) - 4) := by
                intro r76
                induction r76 with
                | zero => intro k75  hk82 hk83; exact absurd hk82 (by omega)
                | succ r76 ih77 =>
                  intro k75  hk82 hk83
                  refine tw_iload_n 1 dX10_isSoundNow_233 rfl rfl ?_
                  refine tw_iconst (v := 4) dX10_isSoundNow_234 (by decide) ?_
                  refine tw_icmp_ge 297 dX10_isSoundNow_235 (by decide) (fun c84 => ?_) (fun c84 => ?_)
                  · refine tw_iconst (v := 1) dX10_isSoundNow_297 (by decide) ?_
                    exact tw_zret dX10_isSoundNow_298 rfl rfl (Or.inl ⟨_, rfl, ⟨(sp0.tr (sp53.trm n50 sp61)), (by unfold tw_01; decide)⟩⟩)
                  · have kl85 := tw_klt (N := 4) c84 hk83 (by decide)
                    refine tw_iconst (v := 0) dX10_isSoundNow_238 (by decide) ?_
                    refine tw_istore_n [(2, .int 0), (0, .ref x), (1, .int (nI k75))] dX10_isSoundNow_239 rfl (by decide) rfl ?_
                    have L89 : ∀ (r87 k86 : Nat), 4 + 1 ≤ k86 + r87 → k86 ≤ 4 → tw_W d mX10_isSoundNow (tw_qi (fun r h1 => tw_sp d τ h g τ h1 ∧ tw_01 r) tw_nx) 240 [(0, .ref x), (1, .int (nI k75)), (2, .int (nI k86))] [] h60 ((2 + 20 * (r2 + 1)) - 1) ((8 + 92 * (r2 + 1)) - 4) := by
                      intro r87
                      induction r87 with
                      | zero => intro k86  hk93 hk94; exact absurd hk93 (by omega)
                      | succ r87 ih88 =>
                        intro k86  hk93 hk94
                        refine tw_iload_n 2 dX10_isSoundNow_240 rfl rfl ?_
                        refine tw_iconst (v := 4) dX10_isSoundNow_241 (by decide) ?_
                        refine tw_icmp_ge 291 dX10_isSoundNow_242 (by decide) (fun c95 => ?_) (fun c95 => ?_)
                        · obtain ⟨v96, ev96⟩ : ∃ y : Int32, y = (nI k75) + 1 := ⟨_, rfl⟩
                          refine tw_iinc [(1, .int v96), (0, .ref x), (2, .int (nI k86))] 1 dX10_isSoundNow_291 rfl (by rw [ev96]; rfl) (by decide) rfl ?_
                          refine tw_goto 233 dX10_isSoundNow_294 (by decide) ?_
                          have qv96 := tw_nI3 ev96
                          rw [qv96]
                          refine tw_lv [1, 0] rfl ?_
                          exact ih77 (k75 + 1)  (by omega) (by omega)
                        · have kl97 := tw_klt (N := 4) c95 hk94 (by decide)
                          refine tw_aload_n 0 dX10_isSoundNow_245 rfl rfl ?_
                          obtain ⟨e98, f99, th_100, td_101, ds_102, fr_103, ca_104, us_105, wo_106, cm_107, lc_108, lh_109, ld_110, rfl, k111, k112, k113, k114, k115, k116, k117, k118, k119, k120, k121, k122, k123, k124, k125, k126, k127, k128⟩ := sp61.1 x 36 kx (by decide)
                          refine tw_get (v := .ref ds_102) rfl in_14 3 dX10_isSoundNow_246 w_1154 rfl (by decide) f99 rfl ?_
                          refine tw_iload_n 1 dX10_isSoundNow_249 rfl rfl ?_
                          obtain ⟨e131, f132, F129, rfl, k130⟩ := sp61.1 ds_102 34 k111 (by decide)
                          obtain ⟨q133, k134, k135, iq136⟩ := k130 ((nI k75)).toNatClampNeg (by rw [nI_clamp (by omega)]; omega)
                          refine tw_aald (v := .ref q133) 8 rfl rfl dX10_isSoundNow_250 f132 (vp_in_nI (by omega) (by decide)) (by rw [k134]; rfl) ?_
                          refine tw_iload_n 2 dX10_isSoundNow_251 rfl rfl ?_
                          obtain ⟨e137, f138, F139, rfl, pf140⟩ := sp61.1 q133 6 k135 (by decide)
                          obtain ⟨v141, ev141⟩ : ∃ y : Int32, F139 ((nI k86)).toNatClampNeg = y := ⟨_, rfl⟩
                          refine tw_iald (v := v141) dX10_isSoundNow_252 f138 (vp_in_nI (by omega) (by decide)) ev141 ?_
                          refine tw_aload_n 0 dX10_isSoundNow_253 rfl rfl ?_
                          refine tw_get (v := .ref ds_102) rfl in_14 3 dX10_isSoundNow_254 w_1154 rfl (by decide) f99 rfl ?_
                          refine tw_iload_n 2 dX10_isSoundNow_257 rfl rfl ?_
                          obtain ⟨q142, k143, k144, iq145⟩ := k130 ((nI k86)).toNatClampNeg (by rw [nI_clamp (by omega)]; omega)
                          refine tw_aald (v := .ref q142) 8 rfl rfl dX10_isSoundNow_258 f132 (vp_in_nI (by omega) (by decide)) (by rw [k143]; rfl) ?_
                          refine tw_iload_n 1 dX10_isSoundNow_259 rfl rfl ?_
                          obtain ⟨e146, f147, F148, rfl, pf149⟩ := sp61.1 q142 6 k144 (by decide)
                          obtain ⟨v150, ev150⟩ : ∃ y : Int32, F148 ((nI k75)).toNatClampNeg = y := ⟨_, rfl⟩
                          refine tw_iald (v := v150) dX10_isSoundNow_260 f147 (vp_in_nI (by omega) (by decide)) ev150 ?_
                          refine tw_icmp_ne 283 dX10_isSoundNow_261 (by decide) (fun c151 => ?_) (fun c151 => ?_)
                          · refine tw_iconst (v := 0) dX10_isSoundNow_283 (by decide) ?_
                            exact tw_zret dX10_isSoundNow_284 rfl rfl (Or.inl ⟨_, rfl, ⟨(sp0.tr (sp53.trm n50 sp61)), (by unfold tw_01; decide)⟩⟩)
                          · refine tw_aload_n 0 dX10_isSoundNow_264 rfl rfl ?_
                            refine tw_get (v := .ref fr_103) rfl in_14 4 dX10_isSoundNow_265 w_1155 rfl (by decide) f99 rfl ?_
                            refine tw_iload_n 1 dX10_isSoundNow_268 rfl rfl ?_
                            obtain ⟨e154, f155, F152, rfl, k153⟩ := sp61.1 fr_103 34 k112 (by decide)
                            obtain ⟨q156, k157, k158, iq159⟩ := k153 ((nI k75)).toNatClampNeg (by rw [nI_clamp (by omega)]; omega)
                            refine tw_aald (v := .ref q156) 8 rfl rfl dX10_isSoundNow_269 f155 (vp_in_nI (by omega) (by decide)) (by rw [k157]; rfl) ?_
                            refine tw_iload_n 2 dX10_isSoundNow_270 rfl rfl ?_
                            obtain ⟨e160, f161, F162, rfl, pf163⟩ := sp61.1 q156 6 k158 (by decide)
                            obtain ⟨v164, ev164⟩ : ∃ y : Int32, F162 ((nI k86)).toNatClampNeg = y := ⟨_, rfl⟩
                            refine tw_iald (v := v164) dX10_isSoundNow_271 f161 (vp_in_nI (by omega) (by decide)) ev164 ?_
                            refine tw_aload_n 0 dX10_isSoundNow_272 rfl rfl ?_
                            refine tw_get (v := .ref fr_103) rfl in_14 4 dX10_isSoundNow_273 w_1155 rfl (by decide) f99 rfl ?_
                            refine tw_iload_n 2 dX10_isSoundNow_276 rfl rfl ?_
                            obtain ⟨q165, k166, k167, iq168⟩ := k153 ((nI k86)).toNatClampNeg (by rw [nI_clamp (by omega)]; omega)
                            refine tw_aald (v := .ref q165) 8 rfl rfl dX10_isSoundNow_277 f155 (vp_in_nI (by omega) (by decide)) (by rw [k166]; rfl) ?_
                            refine tw_iload_n 1 dX10_isSoundNow_278 rfl rfl ?_
                            obtain ⟨e169, f170, F171, rfl, pf172⟩ := sp61.1 q165 6 k167 (by decide)
                            obtain ⟨v173, ev173⟩ : ∃ y : Int32, F171 ((nI k75)).toNatClampNeg = y := ⟨_, rfl⟩
                            refine tw_iald (v := v173) dX10_isSoundNow_279 f170 (vp_in_nI (by omega) (by decide)) ev173 ?_
                            refine tw_icmp_eq 285 dX10_isSoundNow_280 (by decide) (fun c174 => ?_) (fun c174 => ?_)
                            · obtain ⟨v175, ev175⟩ : ∃ y : Int32, y = (nI k86) + 1 := ⟨_, rfl⟩
                              refine tw_iinc [(2, .int v175), (0, .ref x), (1, .int (nI k75))] 2 dX10_isSoundNow_285 rfl (by rw [ev175]; rfl) (by decide) rfl ?_
                              refine tw_goto 240 dX10_isSoundNow_288 (by decide) ?_
                              have qv175 := tw_nI3 ev175
                              rw [qv175]
                              refine tw_lv [1, 2, 0] rfl ?_
                              exact ih88 (k86 + 1)  (by omega) (by omega)
                            · refine tw_iconst (v := 0) dX10_isSoundNow_283 (by decide) ?_
                              exact tw_zret dX10_isSoundNow_284 rfl rfl (Or.inl ⟨_, rfl, ⟨(sp0.tr (sp53.trm n50 sp61)), (by unfold tw_01; decide)⟩⟩)
                    refine tw_lv [1, 2, 0] rfl ?_
                    exact L89 (4 + 1) 0  (by omega) (by omega)
              refine tw_lv [1, 0] rfl ?_
              exact L78 (4 + 1) 0  (by omega) (by omega)
            · rw [q71r]
              refine tw_if_eq 231 dX10_isSoundNow_177 (by decide) (fun c176 => absurd c176 (by decide)) (fun _ => ?_)
              refine tw_aload_n 1 dX10_isSoundNow_180 rfl rfl ?_
              have k177 : τ el68 = 27 := k69.resolve_left (fun q => absurd q71j (by rw [q.2.1]; exact Nat.not_lt_zero _))
              obtain ⟨e178, f179, ⟨F180, rfl, hc181, hc182⟩, un183⟩ := sp61.1 el68 27 k177 (by decide)
              obtain ⟨y184, hy185, ky186⟩ := hc182 j56 q71j
              refine tw_br (tw_callF (M := mX10_isSoundNow) (pc := 181) (n9 := 0) (ci := 2) tw_next ok_itNext w_1425 w_1423 (fun s H z => z.2.2.2.2.2.2.2.2.2) (by decide +kernel) dX10_isSoundNow_181 w_1420 rfl ft62 [] [] rfl rfl ⟨by decide, by decide⟩ (Nat.le_of_ble_eq_true rfl) (c_next d h60 it47 lc_21 el68 j56 (g.2 3) y184 l57 (g.1 3) F180 ft62 f67 f179 q71j hc181 hy185) ((2 + 20 * (r2 + 1)) - 1) ((8 + 92 * (r2 + 1)) - 4) (by omega) (by omega)) (fun r189 h188 q187 => ?_) (fun E h1 q => q.elim)
              obtain ⟨q187r, q187e⟩ := q187
              rw [q187r]
              have sp190 : tw_sp d τ (tw_rm h52 it47) g τ h188 := by rw [q187e]; exact sp61.wl tw_rm_s zt63
              have f191 : h188 it47 = some (.inr (2, [.int (nI (j56 + 1)), .int (nI j56), .int (g.1 3), .ref lc_21])) := by rw [q187e]; exact tw_up_s
              obtain ⟨e192, f193, r_194, c_195, v_196, o_197, t_198, rfl, k199, k200, k201, k202, k203, k204⟩ := sp190.1 y184 21 ky186 (by decide)
              refine tw_castS (ci := 11) rfl dX10_isSoundNow_186 w_1212 f193 ?_
              refine tw_astore_n [(2, .ref y184), (0, .ref x), (1, .ref it47)] dX10_isSoundNow_189 rfl (by decide) rfl ?_
              refine tw_aload_n 0 dX10_isSoundNow_190 rfl rfl ?_
              refine tw_get (v := .ref t_198) rfl in_11 4 dX10_isSoundNow_191 w_1225 rfl (by decide) f193 rfl ?_
              refine tw_astore_n [(3, .ref t_198), (2, .ref y184), (0, .ref x), (1, .ref it47)] dX10_isSoundNow_194 rfl (by decide) rfl ?_
              refine tw_aload_n 0 dX10_isSoundNow_195 rfl rfl ?_
              obtain ⟨e205, f206, F207, rfl, k209, pf208⟩ := sp190.1 t_198 33 k201 (by decide)
              refine tw_alen (v := nI 5) 0 rfl dX10_isSoundNow_196 f206 rfl ?_
              refine tw_istore [(4, .int (nI 5)), (3, .ref t_198), (2, .ref y184), (0, .ref x), (1, .ref it47)] dX10_isSoundNow_197 (by decide) rfl ?_
              refine tw_iconst (v := 0) dX10_isSoundNow_199 (by decide) ?_
              refine tw_istore [(5, .int 0), (4, .int (nI 5)), (3, .ref t_198), (2, .ref y184), (0, .ref x), (1, .ref it47)] dX10_isSoundNow_200 (by decide) rfl ?_
              have L213 : ∀ (r211 k210 : Nat), 5 + 1 ≤ k210 + r211 → k210 ≤ 5 → tw_W d mX10_isSoundNow (tw_qi (fun r h1 => tw_sp d τ h g τ h1 ∧ tw_01 r) tw_nx) 202 [(0, .ref x), (1, .ref it47), (2, .ref y184), (3, .ref t_198), (4, .int (nI 5)), (5, .int (nI k210))] [] h188 ((2 + 20 * (r2 + 1)) - 1) ((8 + 92 * (r2 + 1)) - 4) := by
                intro r211
                induction r211 with
                | zero => intro k210  hk217 hk218; exact absurd hk217 (by omega)
                | succ r211 ih212 =>
                  intro k210  hk217 hk218
                  refine tw_iload 5 dX10_isSoundNow_202 rfl ?_
                  refine tw_iload 4 dX10_isSoundNow_204 rfl ?_
                  refine tw_icmp_ge 228 dX10_isSoundNow_206 (by decide) (fun c219 => ?_) (fun c219 => ?_)
                  · refine tw_goto 171 dX10_isSoundNow_228 (by decide) ?_
                    refine tw_lv [0, 1] rfl ?_
                    exact ih58 ((j56 + 1)) (nI j56)  _ sp190 f191 zt63  (by omega) (by omega)
                  · have kl220 := tw_klt (N := 5) c219 hk218 (by decide)
                    refine tw_aload_n 3 dX10_isSoundNow_209 rfl rfl ?_
                    refine tw_iload 5 dX10_isSoundNow_210 rfl ?_
                    obtain ⟨v221, ev221⟩ : ∃ y : Int32, F207 ((nI k210)).toNatClampNeg = y := ⟨_, rfl⟩
                    refine tw_iald (v := v221) dX10_isSoundNow_212 f206 (vp_in_nI (by omega) (by decide)) ev221 ?_
                    refine tw_istore [(6, .int v221), (0, .ref x), (1, .ref it47), (2, .ref y184), (3, .ref t_198), (4, .int (nI 5)), (5, .int (nI k210))] dX10_isSoundNow_213 (by decide) rfl ?_
                    refine tw_iload 0 dX10_isSoundNow_215 rfl ?_
                    refine tw_if_ge 222 dX10_isSoundNow_217 (by decide) (fun c222 => ?_) (fun c222 => ?_)
                    · obtain ⟨v223, ev223⟩ : ∃ y : Int32, y = (nI k210) + 1 := ⟨_, rfl⟩
                      refine tw_iinc [(5, .int v223), (6, .int v221), (0, .ref x), (1, .ref it47), (2, .ref y184), (3, .ref t_198), (4, .int (nI 5))] 6 dX10_isSoundNow_222 rfl (by rw [ev223]; rfl) (by decide) rfl ?_
                      refine tw_goto 202 dX10_isSoundNow_225 (by decide) ?_
                      have qv223 := tw_nI3 ev223
                      rw [qv223]
                      refine tw_lv [2, 3, 4, 5, 6, 0] rfl ?_
                      exact ih212 (k210 + 1)  (by omega) (by omega)
                    · refine tw_iconst (v := 0) dX10_isSoundNow_220 (by decide) ?_
                      exact tw_zret dX10_isSoundNow_221 rfl rfl (Or.inl ⟨_, rfl, ⟨(sp0.tr (sp53.trm n50 sp190)), (by unfold tw_01; decide)⟩⟩)
              refine tw_lv [4, 5, 3, 2, 1, 0] rfl ?_
              exact L213 (5 + 1) 0  (by omega) (by omega)
        refine tw_lv [1, 0] rfl ?_
        exact L59 (g.2 3 + 1) 0 (-1)  _ (tw_sp.rm sp53.1 it47) f54 z51  (by omega) (Nat.zero_le _)
      · have kl224 := tw_klt (N := 2) c10 hk9 (by decide)
        refine tw_aload_n 0 dX10_isSoundNow_7 rfl rfl ?_
        refine tw_iload_n 1 dX10_isSoundNow_8 rfl rfl ?_
        refine tw_iconst (v := 0) dX10_isSoundNow_9 (by decide) ?_
        obtain ⟨e225, f226, th_227, td_228, ds_229, fr_230, ca_231, us_232, wo_233, cm_234, lc_235, lh_236, ld_237, rfl, k238, k239, k240, k241, k242, k243, k244, k245, k246, k247, k248, k249, k250, k251, k252, k253, k254, k255⟩ := sp6.1 x 36 kx (by decide)
        refine tw_bi (tw_callV (M := mX10_isSoundNow) (pc := 10) okX10_worldNow dX10_isSoundNow_10 w_1537 rfl f226 [.int (nI k1), .int 0] [] rfl rfl ⟨by decide, by decide⟩ (Nat.le_of_ble_eq_true rfl) (c_X10_worldNow d g τ h5 sp6.1 x kx (nI k1) 0 (vp_in_nI (by omega) (by decide)) (vp_in_nI (n := 0) (by decide) (by decide))) ((2 + 20 * (r2 + 1)) - 3) ((8 + 92 * (r2 + 1)) - 14) (by omega) (by omega)) (fun r258 h257 q256 => ?_) (fun E h1 q => q.elim)
        have sp259 := sp6.tr q256
        refine tw_aload_n 0 dX10_isSoundNow_13 rfl rfl ?_
        refine tw_iload_n 1 dX10_isSoundNow_14 rfl rfl ?_
        refine tw_iconst (v := 1) dX10_isSoundNow_15 (by decide) ?_
        obtain ⟨e260, f261, th_262, td_263, ds_264, fr_265, ca_266, us_267, wo_268, cm_269, lc_270, lh_271, ld_272, rfl, k273, k274, k275, k276, k277, k278, k279, k280, k281, k282, k283, k284, k285, k286, k287, k288, k289, k290⟩ := sp259.1 x 36 kx (by decide)
        refine tw_bi (tw_callV (M := mX10_isSoundNow) (pc := 16) okX10_worldNow dX10_isSoundNow_16 w_1537 rfl f261 [.int (nI k1), .int 1] [.int r258] rfl rfl ⟨by decide, by decide⟩ (Nat.le_of_ble_eq_true rfl) (c_X10_worldNow d g τ h257 sp259.1 x kx (nI k1) 1 (vp_in_nI (by omega) (by decide)) (vp_in_nI (n := 1) (by decide) (by decide))) (((2 + 20 * (r2 + 1)) - 3) - 3) (((8 + 92 * (r2 + 1)) - 14) - 14) (by omega) (by omega)) (fun r293 h292 q291 => ?_) (fun E h1 q => q.elim)
        have sp294 := sp259.tr q291
        refine tw_iadd dX10_isSoundNow_19 ?_
        refine tw_nmi (fun v295 ev295 => ?_)
        refine tw_aload_n 0 dX10_isSoundNow_20 rfl rfl ?_
        refine tw_iload_n 1 dX10_isSoundNow_21 rfl rfl ?_
        refine tw_iconst (v := 2) dX10_isSoundNow_22 (by decide) ?_
        obtain ⟨e296, f297, th_298, td_299, ds_300, fr_301, ca_302, us_303, wo_304, cm_305, lc_306, lh_307, ld_308, rfl, k309, k310, k311, k312, k313, k314, k315, k316, k317, k318, k319, k320, k321, k322, k323, k324, k325, k326⟩ := sp294.1 x 36 kx (by decide)
        refine tw_bi (tw_callV (M := mX10_isSoundNow) (pc := 23) okX10_worldNow dX10_isSoundNow_23 w_1537 rfl f297 [.int (nI k1), .int 2] [.int v295] rfl rfl ⟨by decide, by decide⟩ (Nat.le_of_ble_eq_true rfl) (c_X10_worldNow d g τ h292 sp294.1 x kx (nI k1) 2 (vp_in_nI (by omega) (by decide)) (vp_in_nI (n := 2) (by decide) (by decide))) ((((2 + 20 * (r2 + 1)) - 3) - 3) - 3) ((((8 + 92 * (r2 + 1)) - 14) - 14) - 14) (by omega) (by omega)) (fun r329 h328 q327 => ?_) (fun E h1 q => q.elim)
        have sp330 := sp294.tr q327
        refine tw_iadd dX10_isSoundNow_26 ?_
        refine tw_nmi (fun v331 ev331 => ?_)
        refine tw_aload_n 0 dX10_isSoundNow_27 rfl rfl ?_
        refine tw_iload_n 1 dX10_isSoundNow_28 rfl rfl ?_
        refine tw_iconst (v := 3) dX10_isSoundNow_29 (by decide) ?_
        obtain ⟨e332, f333, th_334, td_335, ds_336, fr_337, ca_338, us_339, wo_340, cm_341, lc_342, lh_343, ld_344, rfl, k345, k346, k347, k348, k349, k350, k351, k352, k353, k354, k355, k356, k357, k358, k359, k360, k361, k362⟩ := sp330.1 x 36 kx (by decide)
        refine tw_bi (tw_callV (M := mX10_isSoundNow) (pc := 30) okX10_worldNow dX10_isSoundNow_30 w_1537 rfl f333 [.int (nI k1), .int 3] [.int v331] rfl rfl ⟨by decide, by decide⟩ (Nat.le_of_ble_eq_true rfl) (c_X10_worldNow d g τ h328 sp330.1 x kx (nI k1) 3 (vp_in_nI (by omega) (by decide)) (vp_in_nI (n := 3) (by decide) (by decide))) (((((2 + 20 * (r2 + 1)) - 3) - 3) - 3) - 3) (((((8 + 92 * (r2 + 1)) - 14) - 14) - 14) - 14) (by omega) (by omega)) (fun r365 h364 q363 => ?_) (fun E h1 q => q.elim)
        have sp366 := sp330.tr q363
        refine tw_iadd dX10_isSoundNow_33 ?_
        refine tw_nmi (fun v367 ev367 => ?_)
        refine tw_aload_n 0 dX10_isSoundNow_34 rfl rfl ?_
        refine tw_iload_n 1 dX10_isSoundNow_35 rfl rfl ?_
        refine tw_iconst (v := 4) dX10_isSoundNow_36 (by decide) ?_
        obtain ⟨e368, f369, th_370, td_371, ds_372, fr_373, ca_374, us_375, wo_376, cm_377, lc_378, lh_379, ld_380, rfl, k381, k382, k383, k384, k385, k386, k387, k388, k389, k390, k391, k392, k393, k394, k395, k396, k397, k398⟩ := sp366.1 x 36 kx (by decide)
        refine tw_bi (tw_callV (M := mX10_isSoundNow) (pc := 37) okX10_worldNow dX10_isSoundNow_37 w_1537 rfl f369 [.int (nI k1), .int 4] [.int v367] rfl rfl ⟨by decide, by decide⟩ (Nat.le_of_ble_eq_true rfl) (c_X10_worldNow d g τ h364 sp366.1 x kx (nI k1) 4 (vp_in_nI (by omega) (by decide)) (vp_in_nI (n := 4) (by decide) (by decide))) ((((((2 + 20 * (r2 + 1)) - 3) - 3) - 3) - 3) - 3) ((((((8 + 92 * (r2 + 1)) - 14) - 14) - 14) - 14) - 14) (by omega) (by omega)) (fun r401 h400 q399 => ?_) (fun E h1 q => q.elim)
        have sp402 := sp366.tr q399
        refine tw_iadd dX10_isSoundNow_40 ?_
        refine tw_nmi (fun v403 ev403 => ?_)
        refine tw_aload_n 0 dX10_isSoundNow_41 rfl rfl ?_
        refine tw_iload_n 1 dX10_isSoundNow_42 rfl rfl ?_
        refine tw_iconst (v := 5) dX10_isSoundNow_43 (by decide) ?_
        obtain ⟨e404, f405, th_406, td_407, ds_408, fr_409, ca_410, us_411, wo_412, cm_413, lc_414, lh_415, ld_416, rfl, k417, k418, k419, k420, k421, k422, k423, k424, k425, k426, k427, k428, k429, k430, k431, k432, k433, k434⟩ := sp402.1 x 36 kx (by decide)
        refine tw_bi (tw_callV (M := mX10_isSoundNow) (pc := 44) okX10_worldNow dX10_isSoundNow_44 w_1537 rfl f405 [.int (nI k1), .int 5] [.int v403] rfl rfl ⟨by decide, by decide⟩ (Nat.le_of_ble_eq_true rfl) (c_X10_worldNow d g τ h400 sp402.1 x kx (nI k1) 5 (vp_in_nI (by omega) (by decide)) (vp_in_nI (n := 5) (by decide) (by decide))) (((((((2 + 20 * (r2 + 1)) - 3) - 3) - 3) - 3) - 3) - 3) (((((((8 + 92 * (r2 + 1)) - 14) - 14) - 14) - 14) - 14) - 14) (by omega) (by omega)) (fun r437 h436 q435 => ?_) (fun E h1 q => q.elim)
        have sp438 := sp402.tr q435
        refine tw_icmp_eq 52 dX10_isSoundNow_47 (by decide) (fun c439 => ?_) (fun c439 => ?_)
        · refine tw_aload_n 0 dX10_isSoundNow_52 rfl rfl ?_
          obtain ⟨e440, f441, th_442, td_443, ds_444, fr_445, ca_446, us_447, wo_448, cm_449, lc_450, lh_451, ld_452, rfl, k453, k454, k455, k456, k457, k458, k459, k460, k461, k462, k463, k464, k465, k466, k467, k468, k469, k470⟩ := sp438.1 x 36 kx (by decide)
          refine tw_get (v := .ref lc_450) rfl in_14 9 dX10_isSoundNow_53 w_1160 rfl (by decide) f441 rfl ?_
          obtain ⟨e471, f472, ⟨el473, rfl, k474⟩, k475⟩ := sp438.1 lc_450 24 k459 (by decide)
          refine tw_br (tw_callV (M := mX10_isSoundNow) (pc := 56) okJx4a65c_iterator_32c93 dX10_isSoundNow_56 w_1386 rfl f472 [] [] rfl rfl ⟨by decide, by decide⟩ (Nat.le_of_ble_eq_true rfl) (c_iterator d h436 lc_450 el473 (g.1 3) (nI (g.2 3)) f472) ((((((((2 + 20 * (r2 + 1)) - 3) - 3) - 3) - 3) - 3) - 3) - 1) ((((((((8 + 92 * (r2 + 1)) - 14) - 14) - 14) - 14) - 14) - 14) - 4) (by omega) (by omega)) (fun it476 h477 q478 => ?_) (fun E h1 q => q.elim)
          obtain ⟨q478n, q478e⟩ := q478
          rw [q478e]
          have n479 := sp438.nn q478n
          have z480 := sp438.1.none q478n
          obtain ⟨h481, eh481⟩ : ∃ z : tw_H, z = tw_up h436 it476 (.inr (2, [.int 0, .int (-1), .int (g.1 3), .ref lc_450])) := ⟨_, rfl⟩
          rw [← eh481]
          have sp482 : tw_sp d τ h g τ h481 := by rw [eh481]; exact sp438.mk q478n
          have f483 : h481 it476 = some (.inr (2, [.int 0, .int (-1), .int (g.1 3), .ref lc_450])) := by rw [eh481]; exact tw_up_s
          refine tw_astore_n [(2, .ref it476), (0, .ref x), (1, .int (nI k1))] dX10_isSoundNow_59 rfl (by decide) rfl ?_
          have L488 : ∀ (r484 j485 : Nat) (l486 : Int32) (h489 : tw_H) (sp490 : tw_sp d τ (tw_rm h481 it476) g τ h489) (ft491 : h489 it476 = some (.inr (2, [.int (nI j485), .int l486, .int (g.1 3), .ref lc_450]))) (zt492 : τ it476 = 0), g.2 3 + 1 ≤ j485 + r484 → j485 ≤ g.2 3 → tw_W d mX10_isSoundNow (tw_qi (fun r h1 => tw_sp d τ h g τ h1 ∧ tw_01 r) tw_nx) 60 [(0, .ref x), (1, .int (nI k1)), (2, .ref it476)] [] h489 ((((((((2 + 20 * (r2 + 1)) - 3) - 3) - 3) - 3) - 3) - 3) - 1) ((((((((8 + 92 * (r2 + 1)) - 14) - 14) - 14) - 14) - 14) - 14) - 4) := by
            intro r484
            induction r484 with
            | zero => intro j485 l486 h489 sp490 ft491 zt492 hk493 hk494; exact absurd hk493 (by omega)
            | succ r484 ih487 =>
              intro j485 l486 h489 sp490 ft491 zt492 hk493 hk494
              refine tw_aload_n 2 dX10_isSoundNow_60 rfl rfl ?_
              obtain ⟨e495, f496, ⟨el497, rfl, k498⟩, k499⟩ := sp490.1 lc_450 24 k459 (by decide)
              refine tw_bi (tw_callF (M := mX10_isSoundNow) (pc := 61) (n9 := 0) (ci := 2) tw_hasNext ok_itHas w_1416 w_1414 (fun s H z => z.2.2.2.2.2.2.2.2.1) (by decide +kernel) dX10_isSoundNow_61 w_1410 rfl ft491 [] [] rfl rfl ⟨by decide, by decide⟩ (Nat.le_of_ble_eq_true rfl) (c_hasNext d h489 it476 lc_450 el497 j485 (g.2 3) l486 (g.1 3) (g.1 3) ft491 f496 (by omega) (tw_lim24 sp490.1 k459)) ((((((((2 + 20 * (r2 + 1)) - 3) - 3) - 3) - 3) - 3) - 3) - 1) ((((((((8 + 92 * (r2 + 1)) - 14) - 14) - 14) - 14) - 14) - 14) - 4) (by omega) (by omega)) (fun r502 h501 q500 => ?_) (fun E h1 q => q.elim)
              obtain ⟨q500e, q500q⟩ := q500
              rw [q500e]
              rcases q500q with ⟨q500r, q500j⟩ | ⟨q500r, q500j⟩
              · rw [q500r]
                refine tw_if_eq 95 dX10_isSoundNow_66 (by decide) (fun _ => ?_) (fun c503 => absurd (by decide) c503)
                refine tw_aload_n 0 dX10_isSoundNow_95 rfl rfl ?_
                obtain ⟨e504, f505, th_506, td_507, ds_508, fr_509, ca_510, us_511, wo_512, cm_513, lc_514, lh_515, ld_516, rfl, k517, k518, k519, k520, k521, k522, k523, k524, k525, k526, k527, k528, k529, k530, k531, k532, k533, k534⟩ := sp490.1 x 36 kx (by decide)
                refine tw_get (v := .ref lh_515) rfl in_14 10 dX10_isSoundNow_96 w_1161 rfl (by decide) f505 rfl ?_
                obtain ⟨e535, f536, ⟨el537, rfl, k538⟩, k539⟩ := sp490.1 lh_515 25 k524 (by decide)
                refine tw_br (tw_callV (M := mX10_isSoundNow) (pc := 99) okJx4a65c_iterator_32c93 dX10_isSoundNow_99 w_1386 rfl f536 [] [] rfl rfl ⟨by decide, by decide⟩ (Nat.le_of_ble_eq_true rfl) (c_iterator d h489 lh_515 el537 (g.1 4) (nI (g.2 4)) f536) (((((((((2 + 20 * (r2 + 1)) - 3) - 3) - 3) - 3) - 3) - 3) - 1) - 1) (((((((((8 + 92 * (r2 + 1)) - 14) - 14) - 14) - 14) - 14) - 14) - 4) - 4) (by omega) (by omega)) (fun it540 h541 q542 => ?_) (fun E h1 q => q.elim)
                obtain ⟨q542n, q542e⟩ := q542
                rw [q542e]
                have n543 := sp490.nn q542n
                have z544 := sp490.1.none q542n
                have ne545 := tw_neF ft491 q542n
                obtain ⟨h546, eh546⟩ : ∃ z : tw_H, z = tw_up h489 it540 (.inr (2, [.int 0, .int (-1), .int (g.1 4), .ref lh_515])) := ⟨_, rfl⟩
                rw [← eh546]
                have sp547 : tw_sp d τ (tw_rm h481 it476) g τ h546 := by rw [eh546]; exact sp490.mk q542n
                have f548 : h546 it476 = some (.inr (2, [.int (nI j485), .int l486, .int (g.1 3), .ref lc_450])) := by rw [eh546, tw_up_n ne545]; exact ft491
                have f549 : h546 it540 = some (.inr (2, [.int 0, .int (-1), .int (g.1 4), .ref lh_515])) := by rw [eh546]; exact tw_up_s
                refine tw_astore_n [(2, .ref it540), (0, .ref x), (1, .int (nI k1))] dX10_isSoundNow_102 rfl (by decide) rfl ?_
                have L554 : ∀ (r550 j551 : Nat) (l552 : Int32) (h555 : tw_H) (sp556 : tw_sp d τ (tw_rm h546 it540) g τ h555) (ft557 : h555 it540 = some (.inr (2, [.int (nI j551), .int l552, .int (g.1 4), .ref lh_515]))) (zt558 : τ it540 = 0), g.2 4 + 1 ≤ j551 + r550 → j551 ≤ g.2 4 → tw_W d mX10_isSoundNow (tw_qi (fun r h1 => tw_sp d τ h g τ h1 ∧ tw_01 r) tw_nx) 103 [(0, .ref x), (1, .int (nI k1)), (2, .ref it540)] [] h555 (((((((((2 + 20 * (r2 + 1)) - 3) - 3) - 3) - 3) - 3) - 3) - 1) - 1) (((((((((8 + 92 * (r2 + 1)) - 14) - 14) - 14) - 14) - 14) - 14) - 4) - 4) := by
                  intro r550
                  induction r550 with
                  | zero => intro j551 l552 h555 sp556 ft557 zt558 hk559 hk560; exact absurd hk559 (by omega)
                  | succ r550 ih553 =>
                    intro j551 l552 h555 sp556 ft557 zt558 hk559 hk560
                    have f561 := (sp556.2.2 _ _ (by unfold tw_rm; rw [if_neg ne545]; exact f548) zt492).1
                    have z562 := (sp556.2.2 _ _ (by unfold tw_rm; rw [if_neg ne545]; exact f548) zt492).2
                    refine tw_aload_n 2 dX10_isSoundNow_103 rfl rfl ?_
                    obtain ⟨e563, f564, ⟨el565, rfl, k566⟩, k567⟩ := sp556.1 lh_515 25 k524 (by decide)
                    refine tw_bi (tw_callF (M := mX10_isSoundNow) (pc := 104) (n9 := 0) (ci := 2) tw_hasNext ok_itHas w_1416 w_1414 (fun s H z => z.2.2.2.2.2.2.2.2.1) (by decide +kernel) dX10_isSoundNow_104 w_1410 rfl ft557 [] [] rfl rfl ⟨by decide, by decide⟩ (Nat.le_of_ble_eq_true rfl) (c_hasNext d h555 it540 lh_515 el565 j551 (g.2 4) l552 (g.1 4) (g.1 4) ft557 f564 (by omega) (tw_lim25 sp556.1 k524)) (((((((((2 + 20 * (r2 + 1)) - 3) - 3) - 3) - 3) - 3) - 3) - 1) - 1) (((((((((8 + 92 * (r2 + 1)) - 14) - 14) - 14) - 14) - 14) - 14) - 4) - 4) (by omega) (by omega)) (fun r570 h569 q568 => ?_) (fun E h1 q => q.elim)
                    obtain ⟨q568e, q568q⟩ := q568
                    rw [q568e]
                    rcases q568q with ⟨q568r, q568j⟩ | ⟨q568r, q568j⟩
                    · rw [q568r]
                      refine tw_if_eq 157 dX10_isSoundNow_109 (by decide) (fun _ => ?_) (fun c571 => absurd (by decide) c571)
                      obtain ⟨v572, ev572⟩ : ∃ y : Int32, y = (nI k1) + 1 := ⟨_, rfl⟩
                      refine tw_iinc [(1, .int v572), (0, .ref x), (2, .ref it540)] 1 dX10_isSoundNow_157 rfl (by rw [ev572]; rfl) (by decide) rfl ?_
                      refine tw_goto 2 dX10_isSoundNow_160 (by decide) ?_
                      have qv572 := tw_nI3 ev572
                      rw [qv572]
                      refine tw_lv [1, 0] rfl ?_
                      refine tw_less (c2 := 2 + 20 * r2) (n2 := 8 + 92 * r2) (by omega) (by omega) ?_
                      exact ih3 (k1 + 1)  _ (sp482.trm n479 (sp547.trm n543 sp556)) (by omega) (by omega)
                    · rw [q568r]
                      refine tw_if_eq 157 dX10_isSoundNow_109 (by decide) (fun c573 => absurd c573 (by decide)) (fun _ => ?_)
                      refine tw_aload_n 2 dX10_isSoundNow_112 rfl rfl ?_
                      have k574 : τ el565 = 28 := k566.resolve_left (fun q => absurd q568j (by rw [q.2.1]; exact Nat.not_lt_zero _))
                      obtain ⟨e575, f576, ⟨F577, rfl, hc578, hc579⟩, un580⟩ := sp556.1 el565 28 k574 (by decide)
                      obtain ⟨y581, hy582, ky583⟩ := hc579 j551 q568j
                      refine tw_br (tw_callF (M := mX10_isSoundNow) (pc := 113) (n9 := 0) (ci := 2) tw_next ok_itNext w_1425 w_1423 (fun s H z => z.2.2.2.2.2.2.2.2.2) (by decide +kernel) dX10_isSoundNow_113 w_1420 rfl ft557 [] [] rfl rfl ⟨by decide, by decide⟩ (Nat.le_of_ble_eq_true rfl) (c_next d h555 it540 lh_515 el565 j551 (g.2 4) y581 l552 (g.1 4) F577 ft557 f564 f576 q568j hc578 hy582) (((((((((2 + 20 * (r2 + 1)) - 3) - 3) - 3) - 3) - 3) - 3) - 1) - 1) (((((((((8 + 92 * (r2 + 1)) - 14) - 14) - 14) - 14) - 14) - 14) - 4) - 4) (by omega) (by omega)) (fun r586 h585 q584 => ?_) (fun E h1 q => q.elim)
                      obtain ⟨q584r, q584e⟩ := q584
                      rw [q584r]
                      have sp587 : tw_sp d τ (tw_rm h546 it540) g τ h585 := by rw [q584e]; exact sp556.wl tw_rm_s zt558
                      have f588 : h585 it476 = some (.inr (2, [.int (nI j485), .int l486, .int (g.1 3), .ref lc_450])) := by rw [q584e, tw_up_n ne545]; exact f561
                      have f589 : h585 it540 = some (.inr (2, [.int (nI (j551 + 1)), .int (nI j551), .int (g.1 4), .ref lh_515])) := by rw [q584e]; exact tw_up_s
                      obtain ⟨e590, f591, x_592, y_593, dy_594, p_595, rfl, k596, k597, k598⟩ := sp587.1 y581 23 ky583 (by decide)
                      refine tw_castS (ci := 13) rfl dX10_isSoundNow_118 w_1336 f591 ?_
                      refine tw_astore_n [(3, .ref y581), (0, .ref x), (1, .int (nI k1)), (2, .ref it540)] dX10_isSoundNow_121 rfl (by decide) rfl ?_
                      refine tw_aload_n 0 dX10_isSoundNow_122 rfl rfl ?_
                      refine tw_get (v := .ref p_595) rfl in_13 3 dX10_isSoundNow_123 w_1348 rfl (by decide) f591 rfl ?_
                      refine tw_iload_n 2 dX10_isSoundNow_126 rfl rfl ?_
                      obtain ⟨e599, f600, F601, rfl⟩ := sp587.1 p_595 31 k596 (by decide)
                      obtain ⟨v602, ev602⟩ : ∃ y : Int64, F601 ((nI k1)).toNatClampNeg = y := ⟨_, rfl⟩
                      refine tw_lald (v := v602) dX10_isSoundNow_127 f600 (vp_in_nI (by omega) (by decide)) ev602 ?_
                      refine tw_lconst (v := 0) dX10_isSoundNow_128 (by decide) ?_
                      refine tw_lcmp dX10_isSoundNow_129 ?_
                      refine tw_nmi (fun v603 ev603 => ?_)
                      refine tw_if_lt 152 dX10_isSoundNow_130 (by decide) (fun c604 => ?_) (fun c604 => ?_)
                      · refine tw_iconst (v := 0) dX10_isSoundNow_152 (by decide) ?_
                        exact tw_zret dX10_isSoundNow_153 rfl rfl (Or.inl ⟨_, rfl, ⟨(sp0.tr (sp482.trm n479 (sp547.trm n543 sp587))), (by unfold tw_01; decide)⟩⟩)
                      · refine tw_aload_n 0 dX10_isSoundNow_133 rfl rfl ?_
                        refine tw_get (v := .int x_592) rfl in_13 0 dX10_isSoundNow_134 w_1342 rfl (by decide) f591 rfl ?_
                        refine tw_iconst (v := -1) dX10_isSoundNow_137 (by decide) ?_
                        refine tw_icmp_ne 154 dX10_isSoundNow_138 (by decide) (fun c605 => ?_) (fun c605 => ?_)
                        · refine tw_goto 103 dX10_isSoundNow_154 (by decide) ?_
                          refine tw_lv [1, 2, 3] rfl ?_
                          exact ih553 ((j551 + 1)) (nI j551)  _ sp587 f589 zt558  (by omega) (by omega)
                        · refine tw_aload_n 0 dX10_isSoundNow_141 rfl rfl ?_
                          refine tw_get (v := .int dy_594) rfl in_13 2 dX10_isSoundNow_142 w_1346 rfl (by decide) f591 rfl ?_
                          refine tw_aload_n 1 dX10_isSoundNow_145 rfl rfl ?_
                          obtain ⟨e606, f607, th_608, td_609, ds_610, fr_611, ca_612, us_613, wo_614, cm_615, lc_616, lh_617, ld_618, rfl, k619, k620, k621, k622, k623, k624, k625, k626, k627, k628, k629, k630, k631, k632, k633, k634, k635, k636⟩ := sp587.1 x 36 kx (by decide)
                          refine tw_get (v := .int td_609) rfl in_14 1 dX10_isSoundNow_146 w_1152 rfl (by decide) f607 rfl ?_
                          refine tw_icmp_gt 154 dX10_isSoundNow_149 (by decide) (fun c637 => ?_) (fun c637 => ?_)
                          · refine tw_goto 103 dX10_isSoundNow_154 (by decide) ?_
                            refine tw_lv [1, 2, 3] rfl ?_
                            exact ih553 ((j551 + 1)) (nI j551)  _ sp587 f589 zt558  (by omega) (by omega)
                          · refine tw_iconst (v := 0) dX10_isSoundNow_152 (by decide) ?_
                            exact tw_zret dX10_isSoundNow_153 rfl rfl (Or.inl ⟨_, rfl, ⟨(sp0.tr (sp482.trm n479 (sp547.trm n543 sp587))), (by unfold tw_01; decide)⟩⟩)
                refine tw_lv [1, 2, 0] rfl ?_
                exact L554 (g.2 4 + 1) 0 (-1)  _ (tw_sp.rm sp547.1 it540) f549 z544  (by omega) (Nat.zero_le _)
              · rw [q500r]
                refine tw_if_eq 95 dX10_isSoundNow_66 (by decide) (fun c638 => absurd c638 (by decide)) (fun _ => ?_)
                refine tw_aload_n 2 dX10_isSoundNow_69 rfl rfl ?_
                have k639 : τ el497 = 27 := k498.resolve_left (fun q => absurd q500j (by rw [q.2.1]; exact Nat.not_lt_zero _))
                obtain ⟨e640, f641, ⟨F642, rfl, hc643, hc644⟩, un645⟩ := sp490.1 el497 27 k639 (by decide)
                obtain ⟨y646, hy647, ky648⟩ := hc644 j485 q500j
                refine tw_br (tw_callF (M := mX10_isSoundNow) (pc := 70) (n9 := 0) (ci := 2) tw_next ok_itNext w_1425 w_1423 (fun s H z => z.2.2.2.2.2.2.2.2.2) (by decide +kernel) dX10_isSoundNow_70 w_1420 rfl ft491 [] [] rfl rfl ⟨by decide, by decide⟩ (Nat.le_of_ble_eq_true rfl) (c_next d h489 it476 lc_450 el497 j485 (g.2 3) y646 l486 (g.1 3) F642 ft491 f496 f641 q500j hc643 hy647) ((((((((2 + 20 * (r2 + 1)) - 3) - 3) - 3) - 3) - 3) - 3) - 1) ((((((((8 + 92 * (r2 + 1)) - 14) - 14) - 14) - 14) - 14) - 14) - 4) (by omega) (by omega)) (fun r651 h650 q649 => ?_) (fun E h1 q => q.elim)
                obtain ⟨q649r, q649e⟩ := q649
                rw [q649r]
                have sp652 : tw_sp d τ (tw_rm h481 it476) g τ h650 := by rw [q649e]; exact sp490.wl tw_rm_s zt492
                have f653 : h650 it476 = some (.inr (2, [.int (nI (j485 + 1)), .int (nI j485), .int (g.1 3), .ref lc_450])) := by rw [q649e]; exact tw_up_s
                obtain ⟨e654, f655, r_656, c_657, v_658, o_659, t_660, rfl, k661, k662, k663, k664, k665, k666⟩ := sp652.1 y646 21 ky648 (by decide)
                refine tw_castS (ci := 11) rfl dX10_isSoundNow_75 w_1212 f655 ?_
                refine tw_astore_n [(3, .ref y646), (0, .ref x), (1, .int (nI k1)), (2, .ref it476)] dX10_isSoundNow_78 rfl (by decide) rfl ?_
                refine tw_aload_n 0 dX10_isSoundNow_79 rfl rfl ?_
                refine tw_get (v := .ref v_658) rfl in_11 2 dX10_isSoundNow_80 w_1221 rfl (by decide) f655 rfl ?_
                refine tw_iload_n 2 dX10_isSoundNow_83 rfl rfl ?_
                obtain ⟨e667, f668, F669, rfl⟩ := sp652.1 v_658 31 k661 (by decide)
                obtain ⟨v670, ev670⟩ : ∃ y : Int64, F669 ((nI k1)).toNatClampNeg = y := ⟨_, rfl⟩
                refine tw_lald (v := v670) dX10_isSoundNow_84 f668 (vp_in_nI (by omega) (by decide)) ev670 ?_
                refine tw_lconst (v := 0) dX10_isSoundNow_85 (by decide) ?_
                refine tw_lcmp dX10_isSoundNow_86 ?_
                refine tw_nmi (fun v671 ev671 => ?_)
                refine tw_if_ge 92 dX10_isSoundNow_87 (by decide) (fun c672 => ?_) (fun c672 => ?_)
                · refine tw_goto 60 dX10_isSoundNow_92 (by decide) ?_
                  refine tw_lv [1, 2, 3] rfl ?_
                  exact ih487 ((j485 + 1)) (nI j485)  _ sp652 f653 zt492  (by omega) (by omega)
                · refine tw_iconst (v := 0) dX10_isSoundNow_90 (by decide) ?_
                  exact tw_zret dX10_isSoundNow_91 rfl rfl (Or.inl ⟨_, rfl, ⟨(sp0.tr (sp482.trm n479 sp652)), (by unfold tw_01; decide)⟩⟩)
          refine tw_lv [1, 2, 0] rfl ?_
          exact L488 (g.2 3 + 1) 0 (-1)  _ (tw_sp.rm sp482.1 it476) f483 z480  (by omega) (Nat.zero_le _)
        · refine tw_iconst (v := 0) dX10_isSoundNow_50 (by decide) ?_
          exact tw_zret dX10_isSoundNow_51 rfl rfl (Or.inl ⟨_, rfl, ⟨(sp0.tr sp438), (by unfold tw_01; decide)⟩⟩)
  refine tw_lv [1, 0] rfl ?_
  refine tw_less (c2 := 2 + 20 * 3) (n2 := 8 + 92 * 3) (by omega) (by omega) ?_
  exact L4 3 0  _ (tw_sp.rf sp0.1) (by omega) (by omega)

set_option maxHeartbeats 4000000 in
set_option maxRecDepth 100000 in
theorem c_X10_isSound (d : tw_D) (g : tw_G) (τ : tw_K) (h : tw_H) (hw : tw_wt d g τ h) (x : Nat) (kx : τ x = 36) : tw_Ct d mX10_isSound 62 284 [.ref x] h (tw_qi (fun r h1 => tw_sp d τ h g τ h1 ∧ tw_01 r) tw_nx) := by
  refine tw_of (by decide +kernel) (Nat.le_of_ble_eq_true rfl) ?_
  show tw_W d mX10_isSound _ 0 [(0, .ref x)] [] h 62 284
  have sp0 := tw_sp.rf hw
  refine tw_aload_n 0 dX10_isSound_0 rfl rfl ?_
  refine tw_iconst (v := 0) dX10_isSound_1 (by decide) ?_
  obtain ⟨e1, f2, th_3, td_4, ds_5, fr_6, ca_7, us_8, wo_9, cm_10, lc_11, lh_12, ld_13, rfl, k14, k15, k16, k17, k18, k19, k20, k21, k22, k23, k24, k25, k26, k27, k28, k29, k30, k31⟩ := sp0.1 x 36 kx (by decide)
  refine tw_put rfl in_14 tyX10 tyX10_ok nmX10 0 dX10_isSound_2 w_1151 rfl (by decide) f2 rfl rfl rfl rfl (Nat.le_of_ble_eq_true rfl) [.int 0, .int td_4, .int (g.1 1), .ref ds_5, .ref fr_6, .ref ca_7, .ref us_8, .ref wo_9, .ref cm_10, .ref lc_11, .ref lh_12, .ref ld_13] rfl ?_
  obtain ⟨h32, eh32⟩ : ∃ z : tw_H, z = tw_up h x (.inr (14, [.int 0, .int td_4, .int (g.1 1), .ref ds_5, .ref fr_6, .ref ca_7, .ref us_8, .ref wo_9, .ref cm_10, .ref lc_11, .ref lh_12, .ref ld_13])) := ⟨_, rfl⟩
  rw [← eh32]
  have sp33 : tw_sp d τ h g τ h32 := by rw [eh32]; exact sp0.set kx (by decide) ⟨0, td_4, ds_5, fr_6, ca_7, us_8, wo_9, cm_10, lc_11, lh_12, ld_13, rfl, k14, k15, k16, k17, k18, k19, k20, k21, k22, k23, k24, k25, k26, (by decide), k28, k29, k30, k31⟩
  have f34 : h32 x = some (.inr (14, [.int 0, .int td_4, .int (g.1 1), .ref ds_5, .ref fr_6, .ref ca_7, .ref us_8, .ref wo_9, .ref cm_10, .ref lc_11, .ref lh_12, .ref ld_13])) := by rw [eh32]; exact tw_up_s
  refine tw_aload_n 0 dX10_isSound_5 rfl rfl ?_
  refine tw_bi (tw_callV (M := mX10_isSound) (pc := 6) okX10_isSoundNow dX10_isSound_6 w_1589 rfl f34 [] [] rfl rfl ⟨by decide, by decide⟩ (Nat.le_of_ble_eq_true rfl) (c_X10_isSoundNow d g τ h32 sp33.1 x kx) 0 0 (Nat.le_of_ble_eq_true rfl) (Nat.le_of_ble_eq_true rfl)) (fun r37 h36 q35 => ?_) (fun E h1 q => q.elim)
  obtain ⟨q35s, p39⟩ := q35
  have sp38 := sp33.tr q35s
  exact tw_zret dX10_isSound_9 rfl (tw_nar01 p39) (Or.inl ⟨_, rfl, ⟨sp38, p39⟩⟩)

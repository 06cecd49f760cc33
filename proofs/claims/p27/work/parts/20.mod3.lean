/-! the class's methods over the typed heap. Laid by wip/p5/mkclass.py. -/
set_option maxHeartbeats 4000000 in
set_option maxRecDepth 100000 in
theorem c_X10_trip (d : tw_D) (g : tw_G) (τ : tw_K) (h : tw_H) (hw : tw_wt d g τ h) (x : Nat) (kx : τ x = 36) (a : Int32) (b : Int32) (m : Int32) (gr : Int32) : tw_Ct d mX10_trip 0 0 [.ref x, .int a, .int b, .int m, .int gr] h (tw_qi (fun r h1 => tw_sp d τ h g τ h1) tw_nx) := by
  refine tw_of (by decide +kernel) (Nat.le_of_ble_eq_true rfl) ?_
  show tw_W d mX10_trip _ 0 [(0, .ref x), (1, .int a), (2, .int b), (3, .int m), (4, .int gr)] [] h 0 0
  have sp0 := tw_sp.rf hw
  refine tw_aload_n 0 dX10_trip_0 rfl rfl ?_
  refine tw_aload_n 0 dX10_trip_1 rfl rfl ?_
  refine tw_iload_n 1 dX10_trip_2 rfl rfl ?_
  obtain ⟨e1, f2, th_3, td_4, ds_5, fr_6, ca_7, us_8, wo_9, cm_10, lc_11, lh_12, ld_13, rfl, k14, k15, k16, k17, k18, k19, k20, k21, k22, k23, k24, k25, k26, k27, k28, k29, k30, k31, k32, k33, k34, k35⟩ := sp0.1 x 36 kx (by decide)
  refine tw_bi (tw_callV (M := mX10_trip) (pc := 3) okX10_isNoCountry dX10_trip_3 w_1288 rfl f2 [.int a] [.ref x] rfl rfl ⟨by decide, by decide⟩ (Nat.le_of_ble_eq_true rfl) (c_X10_isNoCountry d g τ h sp0.1 x kx a) 0 0 (Nat.le_of_ble_eq_true rfl) (Nat.le_of_ble_eq_true rfl)) (fun r38 h37 q36 => ?_) (fun E h1 q => q.elim)
  obtain ⟨q36e, q36d⟩ := q36
  rw [q36e]
  rcases q36d with q36r | ⟨q36r, j39, q36j, q36k⟩
  · rw [q36r]
    refine tw_if_ne 17 dX10_trip_6 (by decide) (fun _ => ?_) (fun c40 => absurd c40 (by decide))
    refine tw_iconst (v := 1) dX10_trip_17 (by decide) ?_
    refine tw_goto 22 dX10_trip_18 (by decide) ?_
    refine tw_iconst (v := 1) dX10_trip_22 (by decide) ?_
    refine tw_bi (tw_callV (M := mX10_trip) (pc := 23) okX10_start dX10_trip_23 w_1196 rfl f2 [.int 1, .int 1] [] rfl rfl ⟨by decide, by decide⟩ (Nat.le_of_ble_eq_true rfl) (c_X10_start d g τ h sp0.1 x kx 1 1 (by decide)) 0 0 (Nat.le_of_ble_eq_true rfl) (Nat.le_of_ble_eq_true rfl)) (fun r43 h42 q41 => ?_) (fun E h1 q => q.elim)
    obtain ⟨e44, he45, hs46, hr47, h348⟩ := q41
    have sp49 : tw_sp d τ h g τ h42 := by rw [he45]; exact sp0.set kx (by decide) hs46
    rcases hr47 with ei50 | ⟨ei50, ei50b⟩
    · rw [ei50]
      refine tw_if_ne 65 dX10_trip_26 (by decide) (fun _ => ?_) (fun c51 => absurd c51 (by decide))
      refine tw_iconst (v := 0) dX10_trip_65 (by decide) ?_
      refine tw_goto 80 dX10_trip_66 (by decide) ?_
      exact tw_iret dX10_trip_80 rfl (Or.inl ⟨_, rfl, sp49⟩)
    · exact absurd ei50b (by decide)
  · rw [q36r]
    subst q36k
    refine tw_if_ne 17 dX10_trip_6 (by decide) (fun c52 => absurd (by decide) c52) (fun _ => ?_)
    refine tw_aload_n 0 dX10_trip_9 rfl rfl ?_
    refine tw_iload_n 2 dX10_trip_10 rfl rfl ?_
    refine tw_bi (tw_callV (M := mX10_trip) (pc := 11) okX10_isNoCountry dX10_trip_11 w_1288 rfl f2 [.int b] [.ref x] rfl rfl ⟨by decide, by decide⟩ (Nat.le_of_ble_eq_true rfl) (c_X10_isNoCountry d g τ h sp0.1 x kx b) 0 0 (Nat.le_of_ble_eq_true rfl) (Nat.le_of_ble_eq_true rfl)) (fun r55 h54 q53 => ?_) (fun E h1 q => q.elim)
    obtain ⟨q53e, q53d⟩ := q53
    rw [q53e]
    rcases q53d with q53r | ⟨q53r, j56, q53j, q53k⟩
    · rw [q53r]
      refine tw_if_eq 21 dX10_trip_14 (by decide) (fun c57 => absurd c57 (by decide)) (fun _ => ?_)
      refine tw_iconst (v := 1) dX10_trip_17 (by decide) ?_
      refine tw_goto 22 dX10_trip_18 (by decide) ?_
      refine tw_iconst (v := 1) dX10_trip_22 (by decide) ?_
      refine tw_bi (tw_callV (M := mX10_trip) (pc := 23) okX10_start dX10_trip_23 w_1196 rfl f2 [.int 1, .int 1] [] rfl rfl ⟨by decide, by decide⟩ (Nat.le_of_ble_eq_true rfl) (c_X10_start d g τ h sp0.1 x kx 1 1 (by decide)) 0 0 (Nat.le_of_ble_eq_true rfl) (Nat.le_of_ble_eq_true rfl)) (fun r60 h59 q58 => ?_) (fun E h1 q => q.elim)
      obtain ⟨e61, he62, hs63, hr64, h365⟩ := q58
      have sp66 : tw_sp d τ h g τ h59 := by rw [he62]; exact sp0.set kx (by decide) hs63
      rcases hr64 with ei67 | ⟨ei67, ei67b⟩
      · rw [ei67]
        refine tw_if_ne 65 dX10_trip_26 (by decide) (fun _ => ?_) (fun c68 => absurd c68 (by decide))
        refine tw_iconst (v := 0) dX10_trip_65 (by decide) ?_
        refine tw_goto 80 dX10_trip_66 (by decide) ?_
        exact tw_iret dX10_trip_80 rfl (Or.inl ⟨_, rfl, sp66⟩)
      · exact absurd ei67b (by decide)
    · rw [q53r]
      subst q53k
      refine tw_if_eq 21 dX10_trip_14 (by decide) (fun _ => ?_) (fun c69 => absurd (by decide) c69)
      refine tw_iconst (v := 0) dX10_trip_21 (by decide) ?_
      refine tw_iconst (v := 1) dX10_trip_22 (by decide) ?_
      refine tw_bi (tw_callV (M := mX10_trip) (pc := 23) okX10_start dX10_trip_23 w_1196 rfl f2 [.int 0, .int 1] [] rfl rfl ⟨by decide, by decide⟩ (Nat.le_of_ble_eq_true rfl) (c_X10_start d g τ h sp0.1 x kx 0 1 (by decide)) 0 0 (Nat.le_of_ble_eq_true rfl) (Nat.le_of_ble_eq_true rfl)) (fun r72 h71 q70 => ?_) (fun E h1 q => q.elim)
      obtain ⟨e73, he74, hs75, hr76, h377⟩ := q70
      have sp78 : tw_sp d τ h g τ h71 := by rw [he74]; exact sp0.set kx (by decide) hs75
      rcases hr76 with ei79 | ⟨ei79, ei79b⟩
      · rw [ei79]
        refine tw_if_ne 65 dX10_trip_26 (by decide) (fun _ => ?_) (fun c80 => absurd c80 (by decide))
        refine tw_iconst (v := 0) dX10_trip_65 (by decide) ?_
        refine tw_goto 80 dX10_trip_66 (by decide) ?_
        exact tw_iret dX10_trip_80 rfl (Or.inl ⟨_, rfl, sp78⟩)
      · rw [ei79]
        refine tw_if_ne 65 dX10_trip_26 (by decide) (fun c81 => absurd (by decide) c81) (fun _ => ?_)
        refine tw_aload_n 0 dX10_trip_29 rfl rfl ?_
        refine tw_iload_n 1 dX10_trip_30 rfl rfl ?_
        refine tw_iload_n 2 dX10_trip_31 rfl rfl ?_
        refine tw_icmp_eq 53 dX10_trip_32 (by decide) (fun c82 => ?_) (fun c82 => ?_)
        · refine tw_iconst (v := 1) dX10_trip_53 (by decide) ?_
          refine tw_goto 58 dX10_trip_54 (by decide) ?_
          refine tw_iconst (v := 2) dX10_trip_58 (by decide) ?_
          obtain ⟨e83, f84, th_85, td_86, ds_87, fr_88, ca_89, us_90, wo_91, cm_92, lc_93, lh_94, ld_95, rfl, k96, k97, k98, k99, k100, k101, k102, k103, k104, k105, k106, k107, k108, k109, k110, k111, k112, k113, k114, k115, k116, k117⟩ := sp78.1 x 36 kx (by decide)
          refine tw_bi (tw_callV (M := mX10_trip) (pc := 59) okX10_refuse dX10_trip_59 w_1200 rfl f84 [.int 1, .int 2] [] rfl rfl ⟨by decide, by decide⟩ (Nat.le_of_ble_eq_true rfl) (c_X10_refuse d g τ h71 sp78.1 x kx 1 2 (by decide)) 0 0 (Nat.le_of_ble_eq_true rfl) (Nat.le_of_ble_eq_true rfl)) (fun r120 h119 q118 => ?_) (fun E h1 q => q.elim)
          obtain ⟨e121, he122, hs123, hr124, h3125⟩ := q118
          have sp126 : tw_sp d τ h g τ h119 := by rw [he122]; exact sp78.set kx (by decide) hs123
          rcases hr124 with ei127 | ⟨ei127, ei127b⟩
          · rw [ei127]
            refine tw_if_eq 69 dX10_trip_62 (by decide) (fun c128 => absurd c128 (by decide)) (fun _ => ?_)
            refine tw_iconst (v := 0) dX10_trip_65 (by decide) ?_
            refine tw_goto 80 dX10_trip_66 (by decide) ?_
            exact tw_iret dX10_trip_80 rfl (Or.inl ⟨_, rfl, sp126⟩)
          · exact absurd ei127b (by decide)
        · refine tw_iload_n 3 dX10_trip_35 rfl rfl ?_
          refine tw_bi (tw_callS (M := mX10_trip) (pc := 36) okX10_isNoMetal dX10_trip_36 w_1308 [.int m] [.ref x] rfl rfl ⟨by decide, by decide⟩ (Nat.le_of_ble_eq_true rfl) (c_X10_isNoMetal d g τ h71 sp78.1 m) 0 0 (Nat.le_of_ble_eq_true rfl) (Nat.le_of_ble_eq_true rfl)) (fun r131 h130 q129 => ?_) (fun E h1 q => q.elim)
          obtain ⟨q129e, q129d⟩ := q129
          rw [q129e]
          rcases q129d with q129r | ⟨q129r, q129m⟩
          · rw [q129r]
            refine tw_if_ne 53 dX10_trip_39 (by decide) (fun _ => ?_) (fun c132 => absurd c132 (by decide))
            refine tw_iconst (v := 1) dX10_trip_53 (by decide) ?_
            refine tw_goto 58 dX10_trip_54 (by decide) ?_
            refine tw_iconst (v := 2) dX10_trip_58 (by decide) ?_
            obtain ⟨e133, f134, th_135, td_136, ds_137, fr_138, ca_139, us_140, wo_141, cm_142, lc_143, lh_144, ld_145, rfl, k146, k147, k148, k149, k150, k151, k152, k153, k154, k155, k156, k157, k158, k159, k160, k161, k162, k163, k164, k165, k166, k167⟩ := sp78.1 x 36 kx (by decide)
            refine tw_bi (tw_callV (M := mX10_trip) (pc := 59) okX10_refuse dX10_trip_59 w_1200 rfl f134 [.int 1, .int 2] [] rfl rfl ⟨by decide, by decide⟩ (Nat.le_of_ble_eq_true rfl) (c_X10_refuse d g τ h71 sp78.1 x kx 1 2 (by decide)) 0 0 (Nat.le_of_ble_eq_true rfl) (Nat.le_of_ble_eq_true rfl)) (fun r170 h169 q168 => ?_) (fun E h1 q => q.elim)
            obtain ⟨e171, he172, hs173, hr174, h3175⟩ := q168
            have sp176 : tw_sp d τ h g τ h169 := by rw [he172]; exact sp78.set kx (by decide) hs173
            rcases hr174 with ei177 | ⟨ei177, ei177b⟩
            · rw [ei177]
              refine tw_if_eq 69 dX10_trip_62 (by decide) (fun c178 => absurd c178 (by decide)) (fun _ => ?_)
              refine tw_iconst (v := 0) dX10_trip_65 (by decide) ?_
              refine tw_goto 80 dX10_trip_66 (by decide) ?_
              exact tw_iret dX10_trip_80 rfl (Or.inl ⟨_, rfl, sp176⟩)
            · exact absurd ei177b (by decide)
          · rw [q129r]
            refine tw_if_ne 53 dX10_trip_39 (by decide) (fun c179 => absurd (by decide) c179) (fun _ => ?_)
            refine tw_iload 4 dX10_trip_42 rfl ?_
            refine tw_iconst (v := 0) dX10_trip_44 (by decide) ?_
            refine tw_ldc (v := 99999) dX10_trip_45 w_1195 ?_
            refine tw_bi (tw_callS (M := mX10_trip) (pc := 47) okX10_isIn dX10_trip_47 w_1192 [.int gr, .int 0, .int 99999] [.ref x] rfl rfl ⟨by decide, by decide⟩ (Nat.le_of_ble_eq_true rfl) (c_X10_isIn d g τ h71 sp78.1 gr 0 99999) 0 0 (Nat.le_of_ble_eq_true rfl) (Nat.le_of_ble_eq_true rfl)) (fun r182 h181 q180 => ?_) (fun E h1 q => q.elim)
            obtain ⟨q180e, q180d⟩ := q180
            rw [q180e]
            rcases q180d with ⟨q180r, q180n⟩ | ⟨q180r, q180a, q180b⟩
            · rw [q180r]
              refine tw_if_ne 57 dX10_trip_50 (by decide) (fun c183 => absurd (by decide) c183) (fun _ => ?_)
              refine tw_iconst (v := 1) dX10_trip_53 (by decide) ?_
              refine tw_goto 58 dX10_trip_54 (by decide) ?_
              refine tw_iconst (v := 2) dX10_trip_58 (by decide) ?_
              obtain ⟨e184, f185, th_186, td_187, ds_188, fr_189, ca_190, us_191, wo_192, cm_193, lc_194, lh_195, ld_196, rfl, k197, k198, k199, k200, k201, k202, k203, k204, k205, k206, k207, k208, k209, k210, k211, k212, k213, k214, k215, k216, k217, k218⟩ := sp78.1 x 36 kx (by decide)
              refine tw_bi (tw_callV (M := mX10_trip) (pc := 59) okX10_refuse dX10_trip_59 w_1200 rfl f185 [.int 1, .int 2] [] rfl rfl ⟨by decide, by decide⟩ (Nat.le_of_ble_eq_true rfl) (c_X10_refuse d g τ h71 sp78.1 x kx 1 2 (by decide)) 0 0 (Nat.le_of_ble_eq_true rfl) (Nat.le_of_ble_eq_true rfl)) (fun r221 h220 q219 => ?_) (fun E h1 q => q.elim)
              obtain ⟨e222, he223, hs224, hr225, h3226⟩ := q219
              have sp227 : tw_sp d τ h g τ h220 := by rw [he223]; exact sp78.set kx (by decide) hs224
              rcases hr225 with ei228 | ⟨ei228, ei228b⟩
              · rw [ei228]
                refine tw_if_eq 69 dX10_trip_62 (by decide) (fun c229 => absurd c229 (by decide)) (fun _ => ?_)
                refine tw_iconst (v := 0) dX10_trip_65 (by decide) ?_
                refine tw_goto 80 dX10_trip_66 (by decide) ?_
                exact tw_iret dX10_trip_80 rfl (Or.inl ⟨_, rfl, sp227⟩)
              · exact absurd ei228b (by decide)
            · rw [q180r]
              refine tw_if_ne 57 dX10_trip_50 (by decide) (fun _ => ?_) (fun c230 => absurd c230 (by decide))
              refine tw_iconst (v := 0) dX10_trip_57 (by decide) ?_
              refine tw_iconst (v := 2) dX10_trip_58 (by decide) ?_
              obtain ⟨e231, f232, th_233, td_234, ds_235, fr_236, ca_237, us_238, wo_239, cm_240, lc_241, lh_242, ld_243, rfl, k244, k245, k246, k247, k248, k249, k250, k251, k252, k253, k254, k255, k256, k257, k258, k259, k260, k261, k262, k263, k264, k265⟩ := sp78.1 x 36 kx (by decide)
              refine tw_bi (tw_callV (M := mX10_trip) (pc := 59) okX10_refuse dX10_trip_59 w_1200 rfl f232 [.int 0, .int 2] [] rfl rfl ⟨by decide, by decide⟩ (Nat.le_of_ble_eq_true rfl) (c_X10_refuse d g τ h71 sp78.1 x kx 0 2 (by decide)) 0 0 (Nat.le_of_ble_eq_true rfl) (Nat.le_of_ble_eq_true rfl)) (fun r268 h267 q266 => ?_) (fun E h1 q => q.elim)
              obtain ⟨e269, he270, hs271, hr272, h3273⟩ := q266
              have sp274 : tw_sp d τ h g τ h267 := by rw [he270]; exact sp78.set kx (by decide) hs271
              rcases hr272 with ei275 | ⟨ei275, ei275b⟩
              · rw [ei275]
                refine tw_if_eq 69 dX10_trip_62 (by decide) (fun c276 => absurd c276 (by decide)) (fun _ => ?_)
                refine tw_iconst (v := 0) dX10_trip_65 (by decide) ?_
                refine tw_goto 80 dX10_trip_66 (by decide) ?_
                exact tw_iret dX10_trip_80 rfl (Or.inl ⟨_, rfl, sp274⟩)
              · rw [ei275]
                refine tw_if_eq 69 dX10_trip_62 (by decide) (fun _ => ?_) (fun c277 => absurd (by decide) c277)
                refine tw_aload_n 0 dX10_trip_69 rfl rfl ?_
                refine tw_iload_n 1 dX10_trip_70 rfl rfl ?_
                refine tw_iload_n 2 dX10_trip_71 rfl rfl ?_
                refine tw_iload_n 3 dX10_trip_72 rfl rfl ?_
                refine tw_iload 4 dX10_trip_73 rfl ?_
                refine tw_i2l dX10_trip_75 ?_
                refine tw_nml (fun v278 ev278 => ?_)
                obtain ⟨e279, f280, th_281, td_282, ds_283, fr_284, ca_285, us_286, wo_287, cm_288, lc_289, lh_290, ld_291, rfl, k292, k293, k294, k295, k296, k297, k298, k299, k300, k301, k302, k303, k304, k305, k306, k307, k308, k309, k310, k311, k312, k313⟩ := sp274.1 x 36 kx (by decide)
                refine tw_bl (tw_callV (M := mX10_trip) (pc := 76) okX10_tripNow dX10_trip_76 w_1553 rfl f280 [.int (nI j39), .int (nI j56), .int m, .long v278] [] rfl rfl ⟨by decide, by decide⟩ (Nat.le_of_ble_eq_true rfl) (c_X10_tripNow d g τ h267 sp274.1 x kx m v278 j39 j56 (by omega) (by omega)) 0 0 (Nat.le_of_ble_eq_true rfl) (Nat.le_of_ble_eq_true rfl)) (fun r316 h315 q314 => ?_) (fun E h1 q => q.elim)
                rw [q314]
                refine tw_l2i dX10_trip_79 ?_
                refine tw_nmi (fun v317 ev317 => ?_)
                exact tw_iret dX10_trip_80 rfl (Or.inl ⟨_, rfl, sp274⟩)

set_option maxHeartbeats 4000000 in
set_option maxRecDepth 100000 in
theorem c_X10_bestTripNow (d : tw_D) (g : tw_G) (τ : tw_K) (h : tw_H) (hw : tw_wt d g τ h) (x : Nat) (kx : τ x = 36) (m : Int32) (gr : Int32) (a : Nat) (ha : a < g.2 3) : tw_Ct d mX10_bestTripNow 0 0 [.ref x, .int (nI a), .int m, .int gr] h (tw_qi (fun r h1 => h1 = h) tw_nx) := by
  refine tw_of (by decide +kernel) (Nat.le_of_ble_eq_true rfl) ?_
  show tw_W d mX10_bestTripNow _ 0 [(0, .ref x), (1, .int (nI a)), (2, .int m), (3, .int gr)] [] h 0 0
  have sp0 := tw_sp.rf hw
  refine tw_iconst (v := -1) dX10_bestTripNow_0 (by decide) ?_
  refine tw_istore [(4, .int (-1)), (0, .ref x), (1, .int (nI a)), (2, .int m), (3, .int gr)] dX10_bestTripNow_1 (by decide) rfl ?_
  refine tw_iconst (v := 0) dX10_bestTripNow_3 (by decide) ?_
  refine tw_istore [(5, .int 0), (4, .int (-1)), (0, .ref x), (1, .int (nI a)), (2, .int m), (3, .int gr)] dX10_bestTripNow_4 (by decide) rfl ?_
  have L5 : ∀ (r3 k2 : Nat) (x1 : Int32) (li8 : (x1 = -1 ∨ ∃ i, i < g.2 3 ∧ x1 = nI i)), (g.2 3) + 1 ≤ k2 + r3 → k2 ≤ (g.2 3) → tw_W d mX10_bestTripNow (tw_qi (fun r h1 => h1 = h) tw_nx) 6 [(0, .ref x), (1, .int (nI a)), (2, .int m), (3, .int gr), (4, .int x1), (5, .int (nI k2))] [] h 0 0 := by
    intro r3
    induction r3 with
    | zero => intro k2 x1 li8 hk9 hk10; exact absurd hk9 (by omega)
    | succ r3 ih4 =>
      intro k2 x1 li8 hk9 hk10
      refine tw_iload 5 dX10_bestTripNow_6 rfl ?_
      refine tw_aload_n 0 dX10_bestTripNow_8 rfl rfl ?_
      obtain ⟨e11, f12, th_13, td_14, ds_15, fr_16, ca_17, us_18, wo_19, cm_20, lc_21, lh_22, ld_23, rfl, k24, k25, k26, k27, k28, k29, k30, k31, k32, k33, k34, k35, k36, k37, k38, k39, k40, k41, k42, k43, k44, k45⟩ := sp0.1 x 36 kx (by decide)
      refine tw_get (v := .ref lc_21) rfl in_14 9 dX10_bestTripNow_9 w_1160 rfl (by decide) f12 rfl ?_
      obtain ⟨e46, f47, ⟨el48, rfl, k49⟩, k50⟩ := sp0.1 lc_21 24 k30 (by decide)
      refine tw_bi (tw_callV (M := mX10_bestTripNow) (pc := 12) okJx4a65c_size_8abf5 dX10_bestTripNow_12 w_1204 rfl f47 [] [.int (nI k2)] rfl rfl ⟨by decide, by decide⟩ (Nat.le_of_ble_eq_true rfl) (c24_size d g τ h sp0.1 lc_21 k30) 0 0 (Nat.le_of_ble_eq_true rfl) (Nat.le_of_ble_eq_true rfl)) (fun r53 h52 q51 => ?_) (fun E h1 q => q.elim)
      obtain ⟨q51e, q51r⟩ := q51
      rw [q51e, q51r]
      refine tw_icmp_ge 83 dX10_bestTripNow_15 (by decide) (fun c54 => ?_) (fun c54 => ?_)
      · refine tw_iload 4 dX10_bestTripNow_83 rfl ?_
        exact tw_iret dX10_bestTripNow_85 rfl (Or.inl ⟨_, rfl, rfl⟩)
      · have kl55 : k2 < (g.2 3) := tw_klt (N := (g.2 3)) c54 hk10 (by omega)
        refine tw_iload 5 dX10_bestTripNow_18 rfl ?_
        refine tw_iload_n 1 dX10_bestTripNow_20 rfl rfl ?_
        refine tw_icmp_eq 77 dX10_bestTripNow_21 (by decide) (fun c56 => ?_) (fun c56 => ?_)
        · obtain ⟨v57, ev57⟩ : ∃ y : Int32, y = (nI k2) + 1 := ⟨_, rfl⟩
          refine tw_iinc [(5, .int v57), (0, .ref x), (1, .int (nI a)), (2, .int m), (3, .int gr), (4, .int x1)] 5 dX10_bestTripNow_77 rfl (by rw [ev57]; rfl) (by decide) rfl ?_
          refine tw_goto 6 dX10_bestTripNow_80 (by decide) ?_
          have qv57 := tw_nI3 ev57
          rw [qv57]
          refine tw_lv [1, 2, 3, 4, 5, 0] rfl ?_
          exact ih4 (k2 + 1) x1 (li8) (by omega) (by omega)
        · refine tw_aload_n 0 dX10_bestTripNow_24 rfl rfl ?_
          refine tw_iload_n 1 dX10_bestTripNow_25 rfl rfl ?_
          refine tw_iload 5 dX10_bestTripNow_26 rfl ?_
          refine tw_iload_n 2 dX10_bestTripNow_28 rfl rfl ?_
          refine tw_iload_n 3 dX10_bestTripNow_29 rfl rfl ?_
          refine tw_i2l dX10_bestTripNow_30 ?_
          refine tw_nml (fun v58 ev58 => ?_)
          refine tw_bl (tw_callV (M := mX10_bestTripNow) (pc := 31) okX10_tripNow dX10_bestTripNow_31 w_1553 rfl f12 [.int (nI a), .int (nI k2), .int m, .long v58] [] rfl rfl ⟨by decide, by decide⟩ (Nat.le_of_ble_eq_true rfl) (c_X10_tripNow d g τ h sp0.1 x kx m v58 a k2 (by omega) (by omega)) 0 0 (Nat.le_of_ble_eq_true rfl) (Nat.le_of_ble_eq_true rfl)) (fun r61 h60 q59 => ?_) (fun E h1 q => q.elim)
          rw [q59]
          refine tw_iload_n 3 dX10_bestTripNow_34 rfl rfl ?_
          refine tw_i2l dX10_bestTripNow_35 ?_
          refine tw_nml (fun v62 ev62 => ?_)
          refine tw_lcmp dX10_bestTripNow_36 ?_
          refine tw_nmi (fun v63 ev63 => ?_)
          refine tw_if_gt 43 dX10_bestTripNow_37 (by decide) (fun c64 => ?_) (fun c64 => ?_)
          · refine tw_iload 4 dX10_bestTripNow_43 rfl ?_
            refine tw_iconst (v := -1) dX10_bestTripNow_45 (by decide) ?_
            refine tw_icmp_eq 73 dX10_bestTripNow_46 (by decide) (fun c65 => ?_) (fun c65 => ?_)
            · refine tw_iload 5 dX10_bestTripNow_73 rfl ?_
              refine tw_istore [(4, .int (nI k2)), (0, .ref x), (1, .int (nI a)), (2, .int m), (3, .int gr), (5, .int (nI k2))] dX10_bestTripNow_75 (by decide) rfl ?_
              obtain ⟨v66, ev66⟩ : ∃ y : Int32, y = (nI k2) + 1 := ⟨_, rfl⟩
              refine tw_iinc [(5, .int v66), (4, .int (nI k2)), (0, .ref x), (1, .int (nI a)), (2, .int m), (3, .int gr)] 5 dX10_bestTripNow_77 rfl (by rw [ev66]; rfl) (by decide) rfl ?_
              refine tw_goto 6 dX10_bestTripNow_80 (by decide) ?_
              have qv66 := tw_nI3 ev66
              rw [qv66]
              refine tw_lv [2, 3, 4, 5, 1, 0] rfl ?_
              exact ih4 (k2 + 1) (nI k2) (Or.inr ⟨_, by omega, rfl⟩) (by omega) (by omega)
            · refine tw_aload_n 0 dX10_bestTripNow_49 rfl rfl ?_
              refine tw_iload_n 1 dX10_bestTripNow_50 rfl rfl ?_
              refine tw_iload 5 dX10_bestTripNow_51 rfl ?_
              refine tw_iload_n 2 dX10_bestTripNow_53 rfl rfl ?_
              refine tw_iload_n 3 dX10_bestTripNow_54 rfl rfl ?_
              refine tw_i2l dX10_bestTripNow_55 ?_
              refine tw_nml (fun v67 ev67 => ?_)
              refine tw_bl (tw_callV (M := mX10_bestTripNow) (pc := 56) okX10_tripNow dX10_bestTripNow_56 w_1553 rfl f12 [.int (nI a), .int (nI k2), .int m, .long v67] [] rfl rfl ⟨by decide, by decide⟩ (Nat.le_of_ble_eq_true rfl) (c_X10_tripNow d g τ h sp0.1 x kx m v67 a k2 (by omega) (by omega)) 0 0 (Nat.le_of_ble_eq_true rfl) (Nat.le_of_ble_eq_true rfl)) (fun r70 h69 q68 => ?_) (fun E h1 q => q.elim)
              rw [q68]
              refine tw_aload_n 0 dX10_bestTripNow_59 rfl rfl ?_
              refine tw_iload_n 1 dX10_bestTripNow_60 rfl rfl ?_
              refine tw_iload 4 dX10_bestTripNow_61 rfl ?_
              refine tw_iload_n 2 dX10_bestTripNow_63 rfl rfl ?_
              refine tw_iload_n 3 dX10_bestTripNow_64 rfl rfl ?_
              refine tw_i2l dX10_bestTripNow_65 ?_
              refine tw_nml (fun v71 ev71 => ?_)
              obtain ⟨j72, hj73, ej74⟩ := li8.resolve_left c65
              subst ej74
              refine tw_bl (tw_callV (M := mX10_bestTripNow) (pc := 66) okX10_tripNow dX10_bestTripNow_66 w_1553 rfl f12 [.int (nI a), .int (nI j72), .int m, .long v71] [.long r70] rfl rfl ⟨by decide, by decide⟩ (Nat.le_of_ble_eq_true rfl) (c_X10_tripNow d g τ h sp0.1 x kx m v71 a j72 (by omega) (by omega)) 0 0 (Nat.le_of_ble_eq_true rfl) (Nat.le_of_ble_eq_true rfl)) (fun r77 h76 q75 => ?_) (fun E h1 q => q.elim)
              rw [q75]
              refine tw_lcmp dX10_bestTripNow_69 ?_
              refine tw_nmi (fun v78 ev78 => ?_)
              refine tw_if_le 77 dX10_bestTripNow_70 (by decide) (fun c79 => ?_) (fun c79 => ?_)
              · obtain ⟨v80, ev80⟩ : ∃ y : Int32, y = (nI k2) + 1 := ⟨_, rfl⟩
                refine tw_iinc [(5, .int v80), (0, .ref x), (1, .int (nI a)), (2, .int m), (3, .int gr), (4, .int (nI j72))] 5 dX10_bestTripNow_77 rfl (by rw [ev80]; rfl) (by decide) rfl ?_
                refine tw_goto 6 dX10_bestTripNow_80 (by decide) ?_
                have qv80 := tw_nI3 ev80
                rw [qv80]
                refine tw_lv [1, 2, 3, 4, 5, 0] rfl ?_
                exact ih4 (k2 + 1) (nI j72) (Or.inr ⟨_, by omega, rfl⟩) (by omega) (by omega)
              · refine tw_iload 5 dX10_bestTripNow_73 rfl ?_
                refine tw_istore [(4, .int (nI k2)), (0, .ref x), (1, .int (nI a)), (2, .int m), (3, .int gr), (5, .int (nI k2))] dX10_bestTripNow_75 (by decide) rfl ?_
                obtain ⟨v81, ev81⟩ : ∃ y : Int32, y = (nI k2) + 1 := ⟨_, rfl⟩
                refine tw_iinc [(5, .int v81), (4, .int (nI k2)), (0, .ref x), (1, .int (nI a)), (2, .int m), (3, .int gr)] 5 dX10_bestTripNow_77 rfl (by rw [ev81]; rfl) (by decide) rfl ?_
                refine tw_goto 6 dX10_bestTripNow_80 (by decide) ?_
                have qv81 := tw_nI3 ev81
                rw [qv81]
                refine tw_lv [2, 3, 4, 5, 1, 0] rfl ?_
                exact ih4 (k2 + 1) (nI k2) (Or.inr ⟨_, by omega, rfl⟩) (by omega) (by omega)
          · refine tw_goto 77 dX10_bestTripNow_40 (by decide) ?_
            obtain ⟨v82, ev82⟩ : ∃ y : Int32, y = (nI k2) + 1 := ⟨_, rfl⟩
            refine tw_iinc [(5, .int v82), (0, .ref x), (1, .int (nI a)), (2, .int m), (3, .int gr), (4, .int x1)] 5 dX10_bestTripNow_77 rfl (by rw [ev82]; rfl) (by decide) rfl ?_
            refine tw_goto 6 dX10_bestTripNow_80 (by decide) ?_
            have qv82 := tw_nI3 ev82
            rw [qv82]
            refine tw_lv [1, 2, 3, 4, 5, 0] rfl ?_
            exact ih4 (k2 + 1) x1 (li8) (by omega) (by omega)
  refine tw_lv [2, 3, 4, 5, 1, 0] rfl ?_
  exact L5 ((g.2 3) + 1) 0 (-1) (Or.inl rfl) (by omega) (by omega)

set_option maxHeartbeats 4000000 in
set_option maxRecDepth 100000 in
theorem c_X10_bestTrip (d : tw_D) (g : tw_G) (τ : tw_K) (h : tw_H) (hw : tw_wt d g τ h) (x : Nat) (kx : τ x = 36) (a : Int32) (m : Int32) (gr : Int32) : tw_Ct d mX10_bestTrip 0 0 [.ref x, .int a, .int m, .int gr] h (tw_qi (fun r h1 => tw_sp d τ h g τ h1) tw_nx) := by
  refine tw_of (by decide +kernel) (Nat.le_of_ble_eq_true rfl) ?_
  show tw_W d mX10_bestTrip _ 0 [(0, .ref x), (1, .int a), (2, .int m), (3, .int gr)] [] h 0 0
  have sp0 := tw_sp.rf hw
  refine tw_aload_n 0 dX10_bestTrip_0 rfl rfl ?_
  refine tw_aload_n 0 dX10_bestTrip_1 rfl rfl ?_
  refine tw_iload_n 1 dX10_bestTrip_2 rfl rfl ?_
  obtain ⟨e1, f2, th_3, td_4, ds_5, fr_6, ca_7, us_8, wo_9, cm_10, lc_11, lh_12, ld_13, rfl, k14, k15, k16, k17, k18, k19, k20, k21, k22, k23, k24, k25, k26, k27, k28, k29, k30, k31, k32, k33, k34, k35⟩ := sp0.1 x 36 kx (by decide)
  refine tw_bi (tw_callV (M := mX10_bestTrip) (pc := 3) okX10_isNoCountry dX10_bestTrip_3 w_1288 rfl f2 [.int a] [.ref x] rfl rfl ⟨by decide, by decide⟩ (Nat.le_of_ble_eq_true rfl) (c_X10_isNoCountry d g τ h sp0.1 x kx a) 0 0 (Nat.le_of_ble_eq_true rfl) (Nat.le_of_ble_eq_true rfl)) (fun r38 h37 q36 => ?_) (fun E h1 q => q.elim)
  obtain ⟨q36e, q36d⟩ := q36
  rw [q36e]
  rcases q36d with q36r | ⟨q36r, j39, q36j, q36k⟩
  · rw [q36r]
    refine tw_iconst (v := 1) dX10_bestTrip_6 (by decide) ?_
    refine tw_bi (tw_callV (M := mX10_bestTrip) (pc := 7) okX10_start dX10_bestTrip_7 w_1196 rfl f2 [.int 1, .int 1] [] rfl rfl ⟨by decide, by decide⟩ (Nat.le_of_ble_eq_true rfl) (c_X10_start d g τ h sp0.1 x kx 1 1 (by decide)) 0 0 (Nat.le_of_ble_eq_true rfl) (Nat.le_of_ble_eq_true rfl)) (fun r42 h41 q40 => ?_) (fun E h1 q => q.elim)
    obtain ⟨e43, he44, hs45, hr46, h347⟩ := q40
    have sp48 : tw_sp d τ h g τ h41 := by rw [he44]; exact sp0.set kx (by decide) hs45
    rcases hr46 with ei49 | ⟨ei49, ei49b⟩
    · rw [ei49]
      refine tw_if_ne 43 dX10_bestTrip_10 (by decide) (fun _ => ?_) (fun c50 => absurd c50 (by decide))
      refine tw_iconst (v := 0) dX10_bestTrip_43 (by decide) ?_
      refine tw_goto 54 dX10_bestTrip_44 (by decide) ?_
      exact tw_iret dX10_bestTrip_54 rfl (Or.inl ⟨_, rfl, sp48⟩)
    · exact absurd ei49b (by decide)
  · rw [q36r]
    subst q36k
    refine tw_iconst (v := 1) dX10_bestTrip_6 (by decide) ?_
    refine tw_bi (tw_callV (M := mX10_bestTrip) (pc := 7) okX10_start dX10_bestTrip_7 w_1196 rfl f2 [.int 0, .int 1] [] rfl rfl ⟨by decide, by decide⟩ (Nat.le_of_ble_eq_true rfl) (c_X10_start d g τ h sp0.1 x kx 0 1 (by decide)) 0 0 (Nat.le_of_ble_eq_true rfl) (Nat.le_of_ble_eq_true rfl)) (fun r53 h52 q51 => ?_) (fun E h1 q => q.elim)
    obtain ⟨e54, he55, hs56, hr57, h358⟩ := q51
    have sp59 : tw_sp d τ h g τ h52 := by rw [he55]; exact sp0.set kx (by decide) hs56
    rcases hr57 with ei60 | ⟨ei60, ei60b⟩
    · rw [ei60]
      refine tw_if_ne 43 dX10_bestTrip_10 (by decide) (fun _ => ?_) (fun c61 => absurd c61 (by decide))
      refine tw_iconst (v := 0) dX10_bestTrip_43 (by decide) ?_
      refine tw_goto 54 dX10_bestTrip_44 (by decide) ?_
      exact tw_iret dX10_bestTrip_54 rfl (Or.inl ⟨_, rfl, sp59⟩)
    · rw [ei60]
      refine tw_if_ne 43 dX10_bestTrip_10 (by decide) (fun c62 => absurd (by decide) c62) (fun _ => ?_)
      refine tw_aload_n 0 dX10_bestTrip_13 rfl rfl ?_
      refine tw_iload_n 2 dX10_bestTrip_14 rfl rfl ?_
      refine tw_bi (tw_callS (M := mX10_bestTrip) (pc := 15) okX10_isNoMetal dX10_bestTrip_15 w_1308 [.int m] [.ref x] rfl rfl ⟨by decide, by decide⟩ (Nat.le_of_ble_eq_true rfl) (c_X10_isNoMetal d g τ h52 sp59.1 m) 0 0 (Nat.le_of_ble_eq_true rfl) (Nat.le_of_ble_eq_true rfl)) (fun r65 h64 q63 => ?_) (fun E h1 q => q.elim)
      obtain ⟨q63e, q63d⟩ := q63
      rw [q63e]
      rcases q63d with q63r | ⟨q63r, q63m⟩
      · rw [q63r]
        refine tw_if_ne 31 dX10_bestTrip_18 (by decide) (fun _ => ?_) (fun c66 => absurd c66 (by decide))
        refine tw_iconst (v := 1) dX10_bestTrip_31 (by decide) ?_
        refine tw_goto 36 dX10_bestTrip_32 (by decide) ?_
        refine tw_iconst (v := 2) dX10_bestTrip_36 (by decide) ?_
        obtain ⟨e67, f68, th_69, td_70, ds_71, fr_72, ca_73, us_74, wo_75, cm_76, lc_77, lh_78, ld_79, rfl, k80, k81, k82, k83, k84, k85, k86, k87, k88, k89, k90, k91, k92, k93, k94, k95, k96, k97, k98, k99, k100, k101⟩ := sp59.1 x 36 kx (by decide)
        refine tw_bi (tw_callV (M := mX10_bestTrip) (pc := 37) okX10_refuse dX10_bestTrip_37 w_1200 rfl f68 [.int 1, .int 2] [] rfl rfl ⟨by decide, by decide⟩ (Nat.le_of_ble_eq_true rfl) (c_X10_refuse d g τ h52 sp59.1 x kx 1 2 (by decide)) 0 0 (Nat.le_of_ble_eq_true rfl) (Nat.le_of_ble_eq_true rfl)) (fun r104 h103 q102 => ?_) (fun E h1 q => q.elim)
        obtain ⟨e105, he106, hs107, hr108, h3109⟩ := q102
        have sp110 : tw_sp d τ h g τ h103 := by rw [he106]; exact sp59.set kx (by decide) hs107
        rcases hr108 with ei111 | ⟨ei111, ei111b⟩
        · rw [ei111]
          refine tw_if_eq 47 dX10_bestTrip_40 (by decide) (fun c112 => absurd c112 (by decide)) (fun _ => ?_)
          refine tw_iconst (v := 0) dX10_bestTrip_43 (by decide) ?_
          refine tw_goto 54 dX10_bestTrip_44 (by decide) ?_
          exact tw_iret dX10_bestTrip_54 rfl (Or.inl ⟨_, rfl, sp110⟩)
        · exact absurd ei111b (by decide)
      · rw [q63r]
        refine tw_if_ne 31 dX10_bestTrip_18 (by decide) (fun c113 => absurd (by decide) c113) (fun _ => ?_)
        refine tw_iload_n 3 dX10_bestTrip_21 rfl rfl ?_
        refine tw_iconst (v := 0) dX10_bestTrip_22 (by decide) ?_
        refine tw_ldc (v := 99999) dX10_bestTrip_23 w_1195 ?_
        refine tw_bi (tw_callS (M := mX10_bestTrip) (pc := 25) okX10_isIn dX10_bestTrip_25 w_1192 [.int gr, .int 0, .int 99999] [.ref x] rfl rfl ⟨by decide, by decide⟩ (Nat.le_of_ble_eq_true rfl) (c_X10_isIn d g τ h52 sp59.1 gr 0 99999) 0 0 (Nat.le_of_ble_eq_true rfl) (Nat.le_of_ble_eq_true rfl)) (fun r116 h115 q114 => ?_) (fun E h1 q => q.elim)
        obtain ⟨q114e, q114d⟩ := q114
        rw [q114e]
        rcases q114d with ⟨q114r, q114n⟩ | ⟨q114r, q114a, q114b⟩
        · rw [q114r]
          refine tw_if_ne 35 dX10_bestTrip_28 (by decide) (fun c117 => absurd (by decide) c117) (fun _ => ?_)
          refine tw_iconst (v := 1) dX10_bestTrip_31 (by decide) ?_
          refine tw_goto 36 dX10_bestTrip_32 (by decide) ?_
          refine tw_iconst (v := 2) dX10_bestTrip_36 (by decide) ?_
          obtain ⟨e118, f119, th_120, td_121, ds_122, fr_123, ca_124, us_125, wo_126, cm_127, lc_128, lh_129, ld_130, rfl, k131, k132, k133, k134, k135, k136, k137, k138, k139, k140, k141, k142, k143, k144, k145, k146, k147, k148, k149, k150, k151, k152⟩ := sp59.1 x 36 kx (by decide)
          refine tw_bi (tw_callV (M := mX10_bestTrip) (pc := 37) okX10_refuse dX10_bestTrip_37 w_1200 rfl f119 [.int 1, .int 2] [] rfl rfl ⟨by decide, by decide⟩ (Nat.le_of_ble_eq_true rfl) (c_X10_refuse d g τ h52 sp59.1 x kx 1 2 (by decide)) 0 0 (Nat.le_of_ble_eq_true rfl) (Nat.le_of_ble_eq_true rfl)) (fun r155 h154 q153 => ?_) (fun E h1 q => q.elim)
          obtain ⟨e156, he157, hs158, hr159, h3160⟩ := q153
          have sp161 : tw_sp d τ h g τ h154 := by rw [he157]; exact sp59.set kx (by decide) hs158
          rcases hr159 with ei162 | ⟨ei162, ei162b⟩
          · rw [ei162]
            refine tw_if_eq 47 dX10_bestTrip_40 (by decide) (fun c163 => absurd c163 (by decide)) (fun _ => ?_)
            refine tw_iconst (v := 0) dX10_bestTrip_43 (by decide) ?_
            refine tw_goto 54 dX10_bestTrip_44 (by decide) ?_
            exact tw_iret dX10_bestTrip_54 rfl (Or.inl ⟨_, rfl, sp161⟩)
          · exact absurd ei162b (by decide)
        · rw [q114r]
          refine tw_if_ne 35 dX10_bestTrip_28 (by decide) (fun _ => ?_) (fun c164 => absurd c164 (by decide))
          refine tw_iconst (v := 0) dX10_bestTrip_35 (by decide) ?_
          refine tw_iconst (v := 2) dX10_bestTrip_36 (by decide) ?_
          obtain ⟨e165, f166, th_167, td_168, ds_169, fr_170, ca_171, us_172, wo_173, cm_174, lc_175, lh_176, ld_177, rfl, k178, k179, k180, k181, k182, k183, k184, k185, k186, k187, k188, k189, k190, k191, k192, k193, k194, k195, k196, k197, k198, k199⟩ := sp59.1 x 36 kx (by decide)
          refine tw_bi (tw_callV (M := mX10_bestTrip) (pc := 37) okX10_refuse dX10_bestTrip_37 w_1200 rfl f166 [.int 0, .int 2] [] rfl rfl ⟨by decide, by decide⟩ (Nat.le_of_ble_eq_true rfl) (c_X10_refuse d g τ h52 sp59.1 x kx 0 2 (by decide)) 0 0 (Nat.le_of_ble_eq_true rfl) (Nat.le_of_ble_eq_true rfl)) (fun r202 h201 q200 => ?_) (fun E h1 q => q.elim)
          obtain ⟨e203, he204, hs205, hr206, h3207⟩ := q200
          have sp208 : tw_sp d τ h g τ h201 := by rw [he204]; exact sp59.set kx (by decide) hs205
          rcases hr206 with ei209 | ⟨ei209, ei209b⟩
          · rw [ei209]
            refine tw_if_eq 47 dX10_bestTrip_40 (by decide) (fun c210 => absurd c210 (by decide)) (fun _ => ?_)
            refine tw_iconst (v := 0) dX10_bestTrip_43 (by decide) ?_
            refine tw_goto 54 dX10_bestTrip_44 (by decide) ?_
            exact tw_iret dX10_bestTrip_54 rfl (Or.inl ⟨_, rfl, sp208⟩)
          · rw [ei209]
            refine tw_if_eq 47 dX10_bestTrip_40 (by decide) (fun _ => ?_) (fun c211 => absurd (by decide) c211)
            refine tw_aload_n 0 dX10_bestTrip_47 rfl rfl ?_
            refine tw_iload_n 1 dX10_bestTrip_48 rfl rfl ?_
            refine tw_iload_n 2 dX10_bestTrip_49 rfl rfl ?_
            refine tw_iload_n 3 dX10_bestTrip_50 rfl rfl ?_
            obtain ⟨e212, f213, th_214, td_215, ds_216, fr_217, ca_218, us_219, wo_220, cm_221, lc_222, lh_223, ld_224, rfl, k225, k226, k227, k228, k229, k230, k231, k232, k233, k234, k235, k236, k237, k238, k239, k240, k241, k242, k243, k244, k245, k246⟩ := sp208.1 x 36 kx (by decide)
            refine tw_bi (tw_callV (M := mX10_bestTrip) (pc := 51) okX10_bestTripNow dX10_bestTrip_51 w_1561 rfl f213 [.int (nI j39), .int m, .int gr] [] rfl rfl ⟨by decide, by decide⟩ (Nat.le_of_ble_eq_true rfl) (c_X10_bestTripNow d g τ h201 sp208.1 x kx m gr j39 (by omega) ) 0 0 (Nat.le_of_ble_eq_true rfl) (Nat.le_of_ble_eq_true rfl)) (fun r249 h248 q247 => ?_) (fun E h1 q => q.elim)
            rw [q247]
            exact tw_iret dX10_bestTrip_54 rfl (Or.inl ⟨_, rfl, sp208⟩)

set_option maxHeartbeats 4000000 in
set_option maxRecDepth 100000 in
theorem c_X10_restNow (d : tw_D) (g : tw_G) (τ : tw_K) (h : tw_H) (hw : tw_wt d g τ h) (x : Nat) (kx : τ x = 36) (gr : Int32) : tw_Ct d mX10_restNow 0 0 [.ref x, .int gr] h (tw_qi (fun r h1 => h1 = h ∧ tw_01 r) tw_nx) := by
  refine tw_of (by decide +kernel) (Nat.le_of_ble_eq_true rfl) ?_
  show tw_W d mX10_restNow _ 0 [(0, .ref x), (1, .int gr)] [] h 0 0
  have sp0 := tw_sp.rf hw
  refine tw_iconst (v := 0) dX10_restNow_0 (by decide) ?_
  refine tw_istore_n [(2, .int 0), (0, .ref x), (1, .int gr)] dX10_restNow_1 rfl (by decide) rfl ?_
  have L4 : ∀ (r2 k1 : Nat), (g.2 3) + 1 ≤ k1 + r2 → k1 ≤ (g.2 3) → tw_W d mX10_restNow (tw_qi (fun r h1 => h1 = h ∧ tw_01 r) tw_nx) 2 [(0, .ref x), (1, .int gr), (2, .int (nI k1))] [] h 0 0 := by
    intro r2
    induction r2 with
    | zero => intro k1  hk8 hk9; exact absurd hk8 (by omega)
    | succ r2 ih3 =>
      intro k1  hk8 hk9
      refine tw_iload_n 2 dX10_restNow_2 rfl rfl ?_
      refine tw_aload_n 0 dX10_restNow_3 rfl rfl ?_
      obtain ⟨e10, f11, th_12, td_13, ds_14, fr_15, ca_16, us_17, wo_18, cm_19, lc_20, lh_21, ld_22, rfl, k23, k24, k25, k26, k27, k28, k29, k30, k31, k32, k33, k34, k35, k36, k37, k38, k39, k40, k41, k42, k43, k44⟩ := sp0.1 x 36 kx (by decide)
      refine tw_get (v := .ref lc_20) rfl in_14 9 dX10_restNow_4 w_1160 rfl (by decide) f11 rfl ?_
      obtain ⟨e45, f46, ⟨el47, rfl, k48⟩, k49⟩ := sp0.1 lc_20 24 k29 (by decide)
      refine tw_bi (tw_callV (M := mX10_restNow) (pc := 7) okJx4a65c_size_8abf5 dX10_restNow_7 w_1204 rfl f46 [] [.int (nI k1)] rfl rfl ⟨by decide, by decide⟩ (Nat.le_of_ble_eq_true rfl) (c24_size d g τ h sp0.1 lc_20 k29) 0 0 (Nat.le_of_ble_eq_true rfl) (Nat.le_of_ble_eq_true rfl)) (fun r52 h51 q50 => ?_) (fun E h1 q => q.elim)
      obtain ⟨q50e, q50r⟩ := q50
      rw [q50e, q50r]
      refine tw_icmp_ge 45 dX10_restNow_10 (by decide) (fun c53 => ?_) (fun c53 => ?_)
      · refine tw_iconst (v := 1) dX10_restNow_45 (by decide) ?_
        exact tw_zret dX10_restNow_46 rfl rfl (Or.inl ⟨_, rfl, ⟨rfl, (by unfold tw_01; decide)⟩⟩)
      · have kl54 : k1 < (g.2 3) := tw_klt (N := (g.2 3)) c53 hk9 (by omega)
        refine tw_iconst (v := 0) dX10_restNow_13 (by decide) ?_
        refine tw_istore_n [(3, .int 0), (0, .ref x), (1, .int gr), (2, .int (nI k1))] dX10_restNow_14 rfl (by decide) rfl ?_
        have L58 : ∀ (r56 k55 : Nat), 2 + 1 ≤ k55 + r56 → k55 ≤ 2 → tw_W d mX10_restNow (tw_qi (fun r h1 => h1 = h ∧ tw_01 r) tw_nx) 15 [(0, .ref x), (1, .int gr), (2, .int (nI k1)), (3, .int (nI k55))] [] h 0 0 := by
          intro r56
          induction r56 with
          | zero => intro k55  hk62 hk63; exact absurd hk62 (by omega)
          | succ r56 ih57 =>
            intro k55  hk62 hk63
            refine tw_iload_n 3 dX10_restNow_15 rfl rfl ?_
            refine tw_iconst (v := 2) dX10_restNow_16 (by decide) ?_
            refine tw_icmp_ge 39 dX10_restNow_17 (by decide) (fun c64 => ?_) (fun c64 => ?_)
            · obtain ⟨v65, ev65⟩ : ∃ y : Int32, y = (nI k1) + 1 := ⟨_, rfl⟩
              refine tw_iinc [(2, .int v65), (0, .ref x), (1, .int gr), (3, .int (nI k55))] 2 dX10_restNow_39 rfl (by rw [ev65]; rfl) (by decide) rfl ?_
              refine tw_goto 2 dX10_restNow_42 (by decide) ?_
              have qv65 := tw_nI3 ev65
              rw [qv65]
              refine tw_lv [1, 2, 0] rfl ?_
              exact ih3 (k1 + 1)  (by omega) (by omega)
            · have kl66 := tw_klt (N := 2) c64 hk63 (by decide)
              refine tw_aload_n 0 dX10_restNow_20 rfl rfl ?_
              refine tw_iload_n 2 dX10_restNow_21 rfl rfl ?_
              refine tw_iload_n 3 dX10_restNow_22 rfl rfl ?_
              refine tw_iload_n 1 dX10_restNow_23 rfl rfl ?_
              refine tw_bi (tw_callV (M := mX10_restNow) (pc := 24) okX10_bestTripNow dX10_restNow_24 w_1561 rfl f11 [.int (nI k1), .int (nI k55), .int gr] [] rfl rfl ⟨by decide, by decide⟩ (Nat.le_of_ble_eq_true rfl) (c_X10_bestTripNow d g τ h sp0.1 x kx (nI k55) gr k1 (by omega) ) 0 0 (Nat.le_of_ble_eq_true rfl) (Nat.le_of_ble_eq_true rfl)) (fun r69 h68 q67 => ?_) (fun E h1 q => q.elim)
              rw [q67]
              refine tw_iconst (v := -1) dX10_restNow_27 (by decide) ?_
              refine tw_icmp_eq 33 dX10_restNow_28 (by decide) (fun c70 => ?_) (fun c70 => ?_)
              · obtain ⟨v71, ev71⟩ : ∃ y : Int32, y = (nI k55) + 1 := ⟨_, rfl⟩
                refine tw_iinc [(3, .int v71), (0, .ref x), (1, .int gr), (2, .int (nI k1))] 3 dX10_restNow_33 rfl (by rw [ev71]; rfl) (by decide) rfl ?_
                refine tw_goto 15 dX10_restNow_36 (by decide) ?_
                have qv71 := tw_nI3 ev71
                rw [qv71]
                refine tw_lv [1, 2, 3, 0] rfl ?_
                exact ih57 (k55 + 1)  (by omega) (by omega)
              · refine tw_iconst (v := 0) dX10_restNow_31 (by decide) ?_
                exact tw_zret dX10_restNow_32 rfl rfl (Or.inl ⟨_, rfl, ⟨rfl, (by unfold tw_01; decide)⟩⟩)
        refine tw_lv [1, 2, 3, 0] rfl ?_
        exact L58 (2 + 1) 0  (by omega) (by omega)
  refine tw_lv [1, 2, 0] rfl ?_
  exact L4 ((g.2 3) + 1) 0  (by omega) (by omega)

set_option maxHeartbeats 4000000 in
set_option maxRecDepth 100000 in
theorem c_X10_rest (d : tw_D) (g : tw_G) (τ : tw_K) (h : tw_H) (hw : tw_wt d g τ h) (x : Nat) (kx : τ x = 36) (gr : Int32) : tw_Ct d mX10_rest 0 0 [.ref x, .int gr] h (tw_qi (fun r h1 => tw_sp d τ h g τ h1 ∧ tw_01 r) tw_nx) := by
  refine tw_of (by decide +kernel) (Nat.le_of_ble_eq_true rfl) ?_
  show tw_W d mX10_rest _ 0 [(0, .ref x), (1, .int gr)] [] h 0 0
  have sp0 := tw_sp.rf hw
  refine tw_aload_n 0 dX10_rest_0 rfl rfl ?_
  refine tw_iload_n 1 dX10_rest_1 rfl rfl ?_
  refine tw_iconst (v := 0) dX10_rest_2 (by decide) ?_
  refine tw_ldc (v := 99999) dX10_rest_3 w_1195 ?_
  refine tw_bi (tw_callS (M := mX10_rest) (pc := 5) okX10_isIn dX10_rest_5 w_1192 [.int gr, .int 0, .int 99999] [.ref x] rfl rfl ⟨by decide, by decide⟩ (Nat.le_of_ble_eq_true rfl) (c_X10_isIn d g τ h sp0.1 gr 0 99999) 0 0 (Nat.le_of_ble_eq_true rfl) (Nat.le_of_ble_eq_true rfl)) (fun r3 h2 q1 => ?_) (fun E h1 q => q.elim)
  obtain ⟨q1e, q1d⟩ := q1
  rw [q1e]
  rcases q1d with ⟨q1r, q1n⟩ | ⟨q1r, q1a, q1b⟩
  · rw [q1r]
    refine tw_if_ne 15 dX10_rest_8 (by decide) (fun c4 => absurd (by decide) c4) (fun _ => ?_)
    refine tw_iconst (v := 1) dX10_rest_11 (by decide) ?_
    refine tw_goto 16 dX10_rest_12 (by decide) ?_
    refine tw_iconst (v := 1) dX10_rest_16 (by decide) ?_
    obtain ⟨e5, f6, th_7, td_8, ds_9, fr_10, ca_11, us_12, wo_13, cm_14, lc_15, lh_16, ld_17, rfl, k18, k19, k20, k21, k22, k23, k24, k25, k26, k27, k28, k29, k30, k31, k32, k33, k34, k35, k36, k37, k38, k39⟩ := sp0.1 x 36 kx (by decide)
    refine tw_bi (tw_callV (M := mX10_rest) (pc := 17) okX10_start dX10_rest_17 w_1196 rfl f6 [.int 1, .int 1] [] rfl rfl ⟨by decide, by decide⟩ (Nat.le_of_ble_eq_true rfl) (c_X10_start d g τ h sp0.1 x kx 1 1 (by decide)) 0 0 (Nat.le_of_ble_eq_true rfl) (Nat.le_of_ble_eq_true rfl)) (fun r42 h41 q40 => ?_) (fun E h1 q => q.elim)
    obtain ⟨e43, he44, hs45, hr46, h347⟩ := q40
    have sp48 : tw_sp d τ h g τ h41 := by rw [he44]; exact sp0.set kx (by decide) hs45
    rcases hr46 with ei49 | ⟨ei49, ei49b⟩
    · rw [ei49]
      refine tw_if_ne 35 dX10_rest_20 (by decide) (fun _ => ?_) (fun c50 => absurd c50 (by decide))
      refine tw_iconst (v := 0) dX10_rest_35 (by decide) ?_
      exact tw_zret dX10_rest_36 rfl rfl (Or.inl ⟨_, rfl, ⟨sp48, (by unfold tw_01; decide)⟩⟩)
    · exact absurd ei49b (by decide)
  · rw [q1r]
    refine tw_if_ne 15 dX10_rest_8 (by decide) (fun _ => ?_) (fun c51 => absurd c51 (by decide))
    refine tw_iconst (v := 0) dX10_rest_15 (by decide) ?_
    refine tw_iconst (v := 1) dX10_rest_16 (by decide) ?_
    obtain ⟨e52, f53, th_54, td_55, ds_56, fr_57, ca_58, us_59, wo_60, cm_61, lc_62, lh_63, ld_64, rfl, k65, k66, k67, k68, k69, k70, k71, k72, k73, k74, k75, k76, k77, k78, k79, k80, k81, k82, k83, k84, k85, k86⟩ := sp0.1 x 36 kx (by decide)
    refine tw_bi (tw_callV (M := mX10_rest) (pc := 17) okX10_start dX10_rest_17 w_1196 rfl f53 [.int 0, .int 1] [] rfl rfl ⟨by decide, by decide⟩ (Nat.le_of_ble_eq_true rfl) (c_X10_start d g τ h sp0.1 x kx 0 1 (by decide)) 0 0 (Nat.le_of_ble_eq_true rfl) (Nat.le_of_ble_eq_true rfl)) (fun r89 h88 q87 => ?_) (fun E h1 q => q.elim)
    obtain ⟨e90, he91, hs92, hr93, h394⟩ := q87
    have sp95 : tw_sp d τ h g τ h88 := by rw [he91]; exact sp0.set kx (by decide) hs92
    rcases hr93 with ei96 | ⟨ei96, ei96b⟩
    · rw [ei96]
      refine tw_if_ne 35 dX10_rest_20 (by decide) (fun _ => ?_) (fun c97 => absurd c97 (by decide))
      refine tw_iconst (v := 0) dX10_rest_35 (by decide) ?_
      exact tw_zret dX10_rest_36 rfl rfl (Or.inl ⟨_, rfl, ⟨sp95, (by unfold tw_01; decide)⟩⟩)
    · rw [ei96]
      refine tw_if_ne 35 dX10_rest_20 (by decide) (fun c98 => absurd (by decide) c98) (fun _ => ?_)
      refine tw_aload_n 0 dX10_rest_23 rfl rfl ?_
      refine tw_iload_n 1 dX10_rest_24 rfl rfl ?_
      obtain ⟨e99, f100, th_101, td_102, ds_103, fr_104, ca_105, us_106, wo_107, cm_108, lc_109, lh_110, ld_111, rfl, k112, k113, k114, k115, k116, k117, k118, k119, k120, k121, k122, k123, k124, k125, k126, k127, k128, k129, k130, k131, k132, k133⟩ := sp95.1 x 36 kx (by decide)
      refine tw_bi (tw_callV (M := mX10_rest) (pc := 25) okX10_restNow dX10_rest_25 w_1569 rfl f100 [.int gr] [] rfl rfl ⟨by decide, by decide⟩ (Nat.le_of_ble_eq_true rfl) (c_X10_restNow d g τ h88 sp95.1 x kx gr) 0 0 (Nat.le_of_ble_eq_true rfl) (Nat.le_of_ble_eq_true rfl)) (fun r136 h135 q134 => ?_) (fun E h1 q => q.elim)
      obtain ⟨q134e, p137⟩ := q134
      rw [q134e]
      refine tw_if_eq 35 dX10_rest_28 (by decide) (fun c138 => ?_) (fun c138 => ?_)
      · refine tw_iconst (v := 0) dX10_rest_35 (by decide) ?_
        exact tw_zret dX10_rest_36 rfl rfl (Or.inl ⟨_, rfl, ⟨sp95, (by unfold tw_01; decide)⟩⟩)
      · refine tw_iconst (v := 1) dX10_rest_31 (by decide) ?_
        refine tw_goto 36 dX10_rest_32 (by decide) ?_
        exact tw_zret dX10_rest_36 rfl rfl (Or.inl ⟨_, rfl, ⟨sp95, (by unfold tw_01; decide)⟩⟩)

set_option maxHeartbeats 4000000 in
set_option maxRecDepth 100000 in
theorem c_X10_lastNow (d : tw_D) (g : tw_G) (τ : tw_K) (h : tw_H) (hw : tw_wt d g τ h) (x : Nat) (kx : τ x = 36) (m : Int32) (gr : Int32) (a : Nat) (ha : a < g.2 3) (hm : m = 0 ∨ m = 1) : tw_Ct d mX10_lastNow 0 0 [.ref x, .int (nI a), .int m, .int gr] h (tw_qi (fun r h1 => h1 = h) tw_nx) := by
  refine tw_of (by decide +kernel) (Nat.le_of_ble_eq_true rfl) ?_
  show tw_W d mX10_lastNow _ 0 [(0, .ref x), (1, .int (nI a)), (2, .int m), (3, .int gr)] [] h 0 0
  have sp0 := tw_sp.rf hw
  refine tw_aload_n 0 dX10_lastNow_0 rfl rfl ?_
  obtain ⟨e1, f2, th_3, td_4, ds_5, fr_6, ca_7, us_8, wo_9, cm_10, lc_11, lh_12, ld_13, rfl, k14, k15, k16, k17, k18, k19, k20, k21, k22, k23, k24, k25, k26, k27, k28, k29, k30, k31, k32, k33, k34, k35⟩ := sp0.1 x 36 kx (by decide)
  refine tw_get (v := .ref lc_11) rfl in_14 9 dX10_lastNow_1 w_1160 rfl (by decide) f2 rfl ?_
  refine tw_iload_n 1 dX10_lastNow_4 rfl rfl ?_
  obtain ⟨e36, f37, ⟨el38, rfl, k39⟩, k40⟩ := sp0.1 lc_11 24 k20 (by decide)
  refine tw_br (tw_callV (M := mX10_lastNow) (pc := 5) okJx4a65c_get_915e3 dX10_lastNow_5 w_1292 rfl f37 [.int (nI a)] [] rfl rfl ⟨by decide, by decide⟩ (Nat.le_of_ble_eq_true rfl) (c24_get d g τ h sp0.1 lc_11 k20 a (by omega) (by omega)) 0 0 (Nat.le_of_ble_eq_true rfl) (Nat.le_of_ble_eq_true rfl)) (fun r43 h42 q41 => ?_) (fun E h1 q => q.elim)
  obtain ⟨q41e, q41k⟩ := q41
  rw [q41e]
  have el44 : tw_el h (g.2 12) a = r43 := by rw [← k40]; exact q41k.2.symm
  have kl45 : τ (g.2 12) = 24 := by rw [← k40]; exact k20
  obtain ⟨e46, f47, r_48, c_49, v_50, o_51, t_52, rfl, k53, k54, k55, k56, k57, k58⟩ := sp0.1 r43 21 q41k.1 (by decide)
  refine tw_castS (ci := 11) rfl dX10_lastNow_8 w_1208 f47 ?_
  refine tw_get (v := .ref v_50) rfl in_11 2 dX10_lastNow_11 w_1217 rfl (by decide) f47 rfl ?_
  refine tw_iload_n 2 dX10_lastNow_14 rfl rfl ?_
  obtain ⟨e59, f60, F61, rfl, pf62⟩ := sp0.1 v_50 31 k53 (by decide)
  obtain ⟨v63, ev63⟩ : ∃ y : Int64, F61 (m).toNatClampNeg = y := ⟨_, rfl⟩
  refine tw_lald (v := v63) dX10_lastNow_15 f60 (tw_in01 hm (by decide)) ev63 ?_
  refine tw_lstore [(4, .long v63), (0, .ref x), (1, .int (nI a)), (2, .int m), (3, .int gr)] dX10_lastNow_16 (by decide) rfl ?_
  refine tw_aload_n 1 dX10_lastNow_18 rfl rfl ?_
  refine tw_get (v := .int td_4) rfl in_14 1 dX10_lastNow_19 w_1152 rfl (by decide) f2 rfl ?_
  refine tw_istore [(6, .int td_4), (4, .long v63), (0, .ref x), (1, .int (nI a)), (2, .int m), (3, .int gr)] dX10_lastNow_22 (by decide) rfl ?_
  have L68 : ∀ (r66 : Nat) (x64 : Int64) (x65 : Int32), ((3001 : Int) - x65.toInt).toNat < r66 → tw_W d mX10_lastNow (tw_qi (fun r h1 => h1 = h) tw_nx) 24 [(0, .ref x), (1, .int (nI a)), (2, .int m), (3, .int gr), (4, .long x64), (6, .int x65)] [] h 0 0 := by
    intro r66
    induction r66 with
    | zero => intro x64 x65 hk72; exact absurd hk72 (Nat.not_lt_zero _)
    | succ r66 ih67 =>
      intro x64 x65 hk72
      refine tw_iload 5 dX10_lastNow_24 rfl ?_
      refine tw_sipush (v := 3000) dX10_lastNow_26 (by decide) ?_
      refine tw_icmp_gt 89 dX10_lastNow_29 (by decide) (fun c74 => ?_) (fun c74 => ?_)
      · refine tw_iconst (v := -1) dX10_lastNow_89 (by decide) ?_
        exact tw_iret dX10_lastNow_90 rfl (Or.inl ⟨_, rfl, rfl⟩)
      · refine tw_iload 5 dX10_lastNow_32 rfl ?_
        refine tw_aload_n 0 dX10_lastNow_34 rfl rfl ?_
        refine tw_get (v := .int td_4) rfl in_14 1 dX10_lastNow_35 w_1152 rfl (by decide) f2 rfl ?_
        refine tw_icmp_le 65 dX10_lastNow_38 (by decide) (fun c75 => ?_) (fun c75 => ?_)
        · refine tw_lload 4 dX10_lastNow_65 rfl ?_
          refine tw_iload_n 3 dX10_lastNow_67 rfl rfl ?_
          refine tw_i2l dX10_lastNow_68 ?_
          refine tw_nml (fun v76 ev76 => ?_)
          refine tw_lcmp dX10_lastNow_69 ?_
          refine tw_nmi (fun v77 ev77 => ?_)
          refine tw_if_ge 76 dX10_lastNow_70 (by decide) (fun c78 => ?_) (fun c78 => ?_)
          · refine tw_lload 4 dX10_lastNow_76 rfl ?_
            refine tw_iload_n 3 dX10_lastNow_78 rfl rfl ?_
            refine tw_i2l dX10_lastNow_79 ?_
            refine tw_nml (fun v79 ev79 => ?_)
            refine tw_lsub dX10_lastNow_80 ?_
            refine tw_nml (fun v80 ev80 => ?_)
            refine tw_lstore [(4, .long v80), (0, .ref x), (1, .int (nI a)), (2, .int m), (3, .int gr), (6, .int x65)] dX10_lastNow_81 (by decide) rfl ?_
            obtain ⟨v81, ev81⟩ : ∃ y : Int32, y = x65 + 1 := ⟨_, rfl⟩
            refine tw_iinc [(6, .int v81), (4, .long v80), (0, .ref x), (1, .int (nI a)), (2, .int m), (3, .int gr)] 5 dX10_lastNow_83 rfl (by rw [ev81]; rfl) (by decide) rfl ?_
            refine tw_goto 24 dX10_lastNow_86 (by decide) ?_
            refine tw_lv [2, 3, 4, 5, 1, 0] rfl ?_
            exact ih67 v80 v81 (tw_mle ev81 c74 hk72)
          · refine tw_iload 5 dX10_lastNow_73 rfl ?_
            exact tw_iret dX10_lastNow_75 rfl (Or.inl ⟨_, rfl, rfl⟩)
        · refine tw_iload 5 dX10_lastNow_41 rfl ?_
          refine tw_bipush (v := 30) dX10_lastNow_43 (by decide) ?_
          refine tw_irem dX10_lastNow_45 (by decide) ?_
          refine tw_nmi (fun v82 ev82 => ?_)
          refine tw_if_ne 65 dX10_lastNow_46 (by decide) (fun c83 => ?_) (fun c83 => ?_)
          · refine tw_lload 4 dX10_lastNow_65 rfl ?_
            refine tw_iload_n 3 dX10_lastNow_67 rfl rfl ?_
            refine tw_i2l dX10_lastNow_68 ?_
            refine tw_nml (fun v84 ev84 => ?_)
            refine tw_lcmp dX10_lastNow_69 ?_
            refine tw_nmi (fun v85 ev85 => ?_)
            refine tw_if_ge 76 dX10_lastNow_70 (by decide) (fun c86 => ?_) (fun c86 => ?_)
            · refine tw_lload 4 dX10_lastNow_76 rfl ?_
              refine tw_iload_n 3 dX10_lastNow_78 rfl rfl ?_
              refine tw_i2l dX10_lastNow_79 ?_
              refine tw_nml (fun v87 ev87 => ?_)
              refine tw_lsub dX10_lastNow_80 ?_
              refine tw_nml (fun v88 ev88 => ?_)
              refine tw_lstore [(4, .long v88), (0, .ref x), (1, .int (nI a)), (2, .int m), (3, .int gr), (6, .int x65)] dX10_lastNow_81 (by decide) rfl ?_
              obtain ⟨v89, ev89⟩ : ∃ y : Int32, y = x65 + 1 := ⟨_, rfl⟩
              refine tw_iinc [(6, .int v89), (4, .long v88), (0, .ref x), (1, .int (nI a)), (2, .int m), (3, .int gr)] 5 dX10_lastNow_83 rfl (by rw [ev89]; rfl) (by decide) rfl ?_
              refine tw_goto 24 dX10_lastNow_86 (by decide) ?_
              refine tw_lv [2, 3, 4, 5, 1, 0] rfl ?_
              exact ih67 v88 v89 (tw_mle ev89 c74 hk72)
            · refine tw_iload 5 dX10_lastNow_73 rfl ?_
              exact tw_iret dX10_lastNow_75 rfl (Or.inl ⟨_, rfl, rfl⟩)
          · refine tw_iload_n 2 dX10_lastNow_49 rfl rfl ?_
            refine tw_iconst (v := 1) dX10_lastNow_50 (by decide) ?_
            refine tw_icmp_ne 65 dX10_lastNow_51 (by decide) (fun c90 => ?_) (fun c90 => ?_)
            · refine tw_lload 4 dX10_lastNow_65 rfl ?_
              refine tw_iload_n 3 dX10_lastNow_67 rfl rfl ?_
              refine tw_i2l dX10_lastNow_68 ?_
              refine tw_nml (fun v91 ev91 => ?_)
              refine tw_lcmp dX10_lastNow_69 ?_
              refine tw_nmi (fun v92 ev92 => ?_)
              refine tw_if_ge 76 dX10_lastNow_70 (by decide) (fun c93 => ?_) (fun c93 => ?_)
              · refine tw_lload 4 dX10_lastNow_76 rfl ?_
                refine tw_iload_n 3 dX10_lastNow_78 rfl rfl ?_
                refine tw_i2l dX10_lastNow_79 ?_
                refine tw_nml (fun v94 ev94 => ?_)
                refine tw_lsub dX10_lastNow_80 ?_
                refine tw_nml (fun v95 ev95 => ?_)
                refine tw_lstore [(4, .long v95), (0, .ref x), (1, .int (nI a)), (2, .int m), (3, .int gr), (6, .int x65)] dX10_lastNow_81 (by decide) rfl ?_
                obtain ⟨v96, ev96⟩ : ∃ y : Int32, y = x65 + 1 := ⟨_, rfl⟩
                refine tw_iinc [(6, .int v96), (4, .long v95), (0, .ref x), (1, .int (nI a)), (2, .int m), (3, .int gr)] 5 dX10_lastNow_83 rfl (by rw [ev96]; rfl) (by decide) rfl ?_
                refine tw_goto 24 dX10_lastNow_86 (by decide) ?_
                refine tw_lv [2, 3, 4, 5, 1, 0] rfl ?_
                exact ih67 v95 v96 (tw_mle ev96 c74 hk72)
              · refine tw_iload 5 dX10_lastNow_73 rfl ?_
                exact tw_iret dX10_lastNow_75 rfl (Or.inl ⟨_, rfl, rfl⟩)
            · refine tw_lload 4 dX10_lastNow_54 rfl ?_
              refine tw_lload 4 dX10_lastNow_56 rfl ?_
              refine tw_ldc2 (v := 10000) dX10_lastNow_58 w_1428 ?_
              refine tw_ldiv dX10_lastNow_61 (by decide) ?_
              refine tw_nml (fun v97 ev97 => ?_)
              refine tw_lsub dX10_lastNow_62 ?_
              refine tw_nml (fun v98 ev98 => ?_)
              refine tw_lstore [(4, .long v98), (0, .ref x), (1, .int (nI a)), (2, .int m), (3, .int gr), (6, .int x65)] dX10_lastNow_63 (by decide) rfl ?_
              refine tw_lload 0 dX10_lastNow_65 rfl ?_
              refine tw_iload_n 4 dX10_lastNow_67 rfl rfl ?_
              refine tw_i2l dX10_lastNow_68 ?_
              refine tw_nml (fun v99 ev99 => ?_)
              refine tw_lcmp dX10_lastNow_69 ?_
              refine tw_nmi (fun v100 ev100 => ?_)
              refine tw_if_ge 76 dX10_lastNow_70 (by decide) (fun c101 => ?_) (fun c101 => ?_)
              · refine tw_lload 0 dX10_lastNow_76 rfl ?_
                refine tw_iload_n 4 dX10_lastNow_78 rfl rfl ?_
                refine tw_i2l dX10_lastNow_79 ?_
                refine tw_nml (fun v102 ev102 => ?_)
                refine tw_lsub dX10_lastNow_80 ?_
                refine tw_nml (fun v103 ev103 => ?_)
                refine tw_lstore [(4, .long v103), (0, .ref x), (1, .int (nI a)), (2, .int m), (3, .int gr), (6, .int x65)] dX10_lastNow_81 (by decide) rfl ?_
                obtain ⟨v104, ev104⟩ : ∃ y : Int32, y = x65 + 1 := ⟨_, rfl⟩
                refine tw_iinc [(6, .int v104), (4, .long v103), (0, .ref x), (1, .int (nI a)), (2, .int m), (3, .int gr)] 5 dX10_lastNow_83 rfl (by rw [ev104]; rfl) (by decide) rfl ?_
                refine tw_goto 24 dX10_lastNow_86 (by decide) ?_
                refine tw_lv [2, 3, 4, 5, 1, 0] rfl ?_
                exact ih67 v103 v104 (tw_mle ev104 c74 hk72)
              · refine tw_iload 5 dX10_lastNow_73 rfl ?_
                exact tw_iret dX10_lastNow_75 rfl (Or.inl ⟨_, rfl, rfl⟩)
  refine tw_lv [2, 3, 4, 5, 1, 0] rfl ?_
  exact L68 _ v63 td_4 (Nat.lt_succ_self _)

set_option maxHeartbeats 4000000 in
set_option maxRecDepth 100000 in
theorem c_X10_last (d : tw_D) (g : tw_G) (τ : tw_K) (h : tw_H) (hw : tw_wt d g τ h) (x : Nat) (kx : τ x = 36) (a : Int32) (m : Int32) (gr : Int32) : tw_Ct d mX10_last 0 0 [.ref x, .int a, .int m, .int gr] h (tw_qi (fun r h1 => tw_sp d τ h g τ h1) tw_nx) := by
  refine tw_of (by decide +kernel) (Nat.le_of_ble_eq_true rfl) ?_
  show tw_W d mX10_last _ 0 [(0, .ref x), (1, .int a), (2, .int m), (3, .int gr)] [] h 0 0
  have sp0 := tw_sp.rf hw
  refine tw_aload_n 0 dX10_last_0 rfl rfl ?_
  refine tw_aload_n 0 dX10_last_1 rfl rfl ?_
  refine tw_iload_n 1 dX10_last_2 rfl rfl ?_
  obtain ⟨e1, f2, th_3, td_4, ds_5, fr_6, ca_7, us_8, wo_9, cm_10, lc_11, lh_12, ld_13, rfl, k14, k15, k16, k17, k18, k19, k20, k21, k22, k23, k24, k25, k26, k27, k28, k29, k30, k31, k32, k33, k34, k35⟩ := sp0.1 x 36 kx (by decide)
  refine tw_bi (tw_callV (M := mX10_last) (pc := 3) okX10_isNoCountry dX10_last_3 w_1288 rfl f2 [.int a] [.ref x] rfl rfl ⟨by decide, by decide⟩ (Nat.le_of_ble_eq_true rfl) (c_X10_isNoCountry d g τ h sp0.1 x kx a) 0 0 (Nat.le_of_ble_eq_true rfl) (Nat.le_of_ble_eq_true rfl)) (fun r38 h37 q36 => ?_) (fun E h1 q => q.elim)
  obtain ⟨q36e, q36d⟩ := q36
  rw [q36e]
  rcases q36d with q36r | ⟨q36r, j39, q36j, q36k⟩
  · rw [q36r]
    refine tw_iconst (v := 1) dX10_last_6 (by decide) ?_
    refine tw_bi (tw_callV (M := mX10_last) (pc := 7) okX10_start dX10_last_7 w_1196 rfl f2 [.int 1, .int 1] [] rfl rfl ⟨by decide, by decide⟩ (Nat.le_of_ble_eq_true rfl) (c_X10_start d g τ h sp0.1 x kx 1 1 (by decide)) 0 0 (Nat.le_of_ble_eq_true rfl) (Nat.le_of_ble_eq_true rfl)) (fun r42 h41 q40 => ?_) (fun E h1 q => q.elim)
    obtain ⟨e43, he44, hs45, hr46, h347⟩ := q40
    have sp48 : tw_sp d τ h g τ h41 := by rw [he44]; exact sp0.set kx (by decide) hs45
    rcases hr46 with ei49 | ⟨ei49, ei49b⟩
    · rw [ei49]
      refine tw_if_ne 43 dX10_last_10 (by decide) (fun _ => ?_) (fun c50 => absurd c50 (by decide))
      refine tw_iconst (v := 0) dX10_last_43 (by decide) ?_
      refine tw_goto 54 dX10_last_44 (by decide) ?_
      exact tw_iret dX10_last_54 rfl (Or.inl ⟨_, rfl, sp48⟩)
    · exact absurd ei49b (by decide)
  · rw [q36r]
    subst q36k
    refine tw_iconst (v := 1) dX10_last_6 (by decide) ?_
    refine tw_bi (tw_callV (M := mX10_last) (pc := 7) okX10_start dX10_last_7 w_1196 rfl f2 [.int 0, .int 1] [] rfl rfl ⟨by decide, by decide⟩ (Nat.le_of_ble_eq_true rfl) (c_X10_start d g τ h sp0.1 x kx 0 1 (by decide)) 0 0 (Nat.le_of_ble_eq_true rfl) (Nat.le_of_ble_eq_true rfl)) (fun r53 h52 q51 => ?_) (fun E h1 q => q.elim)
    obtain ⟨e54, he55, hs56, hr57, h358⟩ := q51
    have sp59 : tw_sp d τ h g τ h52 := by rw [he55]; exact sp0.set kx (by decide) hs56
    rcases hr57 with ei60 | ⟨ei60, ei60b⟩
    · rw [ei60]
      refine tw_if_ne 43 dX10_last_10 (by decide) (fun _ => ?_) (fun c61 => absurd c61 (by decide))
      refine tw_iconst (v := 0) dX10_last_43 (by decide) ?_
      refine tw_goto 54 dX10_last_44 (by decide) ?_
      exact tw_iret dX10_last_54 rfl (Or.inl ⟨_, rfl, sp59⟩)
    · rw [ei60]
      refine tw_if_ne 43 dX10_last_10 (by decide) (fun c62 => absurd (by decide) c62) (fun _ => ?_)
      refine tw_aload_n 0 dX10_last_13 rfl rfl ?_
      refine tw_iload_n 2 dX10_last_14 rfl rfl ?_
      refine tw_bi (tw_callS (M := mX10_last) (pc := 15) okX10_isNoMetal dX10_last_15 w_1308 [.int m] [.ref x] rfl rfl ⟨by decide, by decide⟩ (Nat.le_of_ble_eq_true rfl) (c_X10_isNoMetal d g τ h52 sp59.1 m) 0 0 (Nat.le_of_ble_eq_true rfl) (Nat.le_of_ble_eq_true rfl)) (fun r65 h64 q63 => ?_) (fun E h1 q => q.elim)
      obtain ⟨q63e, q63d⟩ := q63
      rw [q63e]
      rcases q63d with q63r | ⟨q63r, q63m⟩
      · rw [q63r]
        refine tw_if_ne 31 dX10_last_18 (by decide) (fun _ => ?_) (fun c66 => absurd c66 (by decide))
        refine tw_iconst (v := 1) dX10_last_31 (by decide) ?_
        refine tw_goto 36 dX10_last_32 (by decide) ?_
        refine tw_iconst (v := 2) dX10_last_36 (by decide) ?_
        obtain ⟨e67, f68, th_69, td_70, ds_71, fr_72, ca_73, us_74, wo_75, cm_76, lc_77, lh_78, ld_79, rfl, k80, k81, k82, k83, k84, k85, k86, k87, k88, k89, k90, k91, k92, k93, k94, k95, k96, k97, k98, k99, k100, k101⟩ := sp59.1 x 36 kx (by decide)
        refine tw_bi (tw_callV (M := mX10_last) (pc := 37) okX10_refuse dX10_last_37 w_1200 rfl f68 [.int 1, .int 2] [] rfl rfl ⟨by decide, by decide⟩ (Nat.le_of_ble_eq_true rfl) (c_X10_refuse d g τ h52 sp59.1 x kx 1 2 (by decide)) 0 0 (Nat.le_of_ble_eq_true rfl) (Nat.le_of_ble_eq_true rfl)) (fun r104 h103 q102 => ?_) (fun E h1 q => q.elim)
        obtain ⟨e105, he106, hs107, hr108, h3109⟩ := q102
        have sp110 : tw_sp d τ h g τ h103 := by rw [he106]; exact sp59.set kx (by decide) hs107
        rcases hr108 with ei111 | ⟨ei111, ei111b⟩
        · rw [ei111]
          refine tw_if_eq 47 dX10_last_40 (by decide) (fun c112 => absurd c112 (by decide)) (fun _ => ?_)
          refine tw_iconst (v := 0) dX10_last_43 (by decide) ?_
          refine tw_goto 54 dX10_last_44 (by decide) ?_
          exact tw_iret dX10_last_54 rfl (Or.inl ⟨_, rfl, sp110⟩)
        · exact absurd ei111b (by decide)
      · rw [q63r]
        refine tw_if_ne 31 dX10_last_18 (by decide) (fun c113 => absurd (by decide) c113) (fun _ => ?_)
        refine tw_iload_n 3 dX10_last_21 rfl rfl ?_
        refine tw_iconst (v := 1) dX10_last_22 (by decide) ?_
        refine tw_ldc (v := 99999) dX10_last_23 w_1195 ?_
        refine tw_bi (tw_callS (M := mX10_last) (pc := 25) okX10_isIn dX10_last_25 w_1192 [.int gr, .int 1, .int 99999] [.ref x] rfl rfl ⟨by decide, by decide⟩ (Nat.le_of_ble_eq_true rfl) (c_X10_isIn d g τ h52 sp59.1 gr 1 99999) 0 0 (Nat.le_of_ble_eq_true rfl) (Nat.le_of_ble_eq_true rfl)) (fun r116 h115 q114 => ?_) (fun E h1 q => q.elim)
        obtain ⟨q114e, q114d⟩ := q114
        rw [q114e]
        rcases q114d with ⟨q114r, q114n⟩ | ⟨q114r, q114a, q114b⟩
        · rw [q114r]
          refine tw_if_ne 35 dX10_last_28 (by decide) (fun c117 => absurd (by decide) c117) (fun _ => ?_)
          refine tw_iconst (v := 1) dX10_last_31 (by decide) ?_
          refine tw_goto 36 dX10_last_32 (by decide) ?_
          refine tw_iconst (v := 2) dX10_last_36 (by decide) ?_
          obtain ⟨e118, f119, th_120, td_121, ds_122, fr_123, ca_124, us_125, wo_126, cm_127, lc_128, lh_129, ld_130, rfl, k131, k132, k133, k134, k135, k136, k137, k138, k139, k140, k141, k142, k143, k144, k145, k146, k147, k148, k149, k150, k151, k152⟩ := sp59.1 x 36 kx (by decide)
          refine tw_bi (tw_callV (M := mX10_last) (pc := 37) okX10_refuse dX10_last_37 w_1200 rfl f119 [.int 1, .int 2] [] rfl rfl ⟨by decide, by decide⟩ (Nat.le_of_ble_eq_true rfl) (c_X10_refuse d g τ h52 sp59.1 x kx 1 2 (by decide)) 0 0 (Nat.le_of_ble_eq_true rfl) (Nat.le_of_ble_eq_true rfl)) (fun r155 h154 q153 => ?_) (fun E h1 q => q.elim)
          obtain ⟨e156, he157, hs158, hr159, h3160⟩ := q153
          have sp161 : tw_sp d τ h g τ h154 := by rw [he157]; exact sp59.set kx (by decide) hs158
          rcases hr159 with ei162 | ⟨ei162, ei162b⟩
          · rw [ei162]
            refine tw_if_eq 47 dX10_last_40 (by decide) (fun c163 => absurd c163 (by decide)) (fun _ => ?_)
            refine tw_iconst (v := 0) dX10_last_43 (by decide) ?_
            refine tw_goto 54 dX10_last_44 (by decide) ?_
            exact tw_iret dX10_last_54 rfl (Or.inl ⟨_, rfl, sp161⟩)
          · exact absurd ei162b (by decide)
        · rw [q114r]
          refine tw_if_ne 35 dX10_last_28 (by decide) (fun _ => ?_) (fun c164 => absurd c164 (by decide))
          refine tw_iconst (v := 0) dX10_last_35 (by decide) ?_
          refine tw_iconst (v := 2) dX10_last_36 (by decide) ?_
          obtain ⟨e165, f166, th_167, td_168, ds_169, fr_170, ca_171, us_172, wo_173, cm_174, lc_175, lh_176, ld_177, rfl, k178, k179, k180, k181, k182, k183, k184, k185, k186, k187, k188, k189, k190, k191, k192, k193, k194, k195, k196, k197, k198, k199⟩ := sp59.1 x 36 kx (by decide)
          refine tw_bi (tw_callV (M := mX10_last) (pc := 37) okX10_refuse dX10_last_37 w_1200 rfl f166 [.int 0, .int 2] [] rfl rfl ⟨by decide, by decide⟩ (Nat.le_of_ble_eq_true rfl) (c_X10_refuse d g τ h52 sp59.1 x kx 0 2 (by decide)) 0 0 (Nat.le_of_ble_eq_true rfl) (Nat.le_of_ble_eq_true rfl)) (fun r202 h201 q200 => ?_) (fun E h1 q => q.elim)
          obtain ⟨e203, he204, hs205, hr206, h3207⟩ := q200
          have sp208 : tw_sp d τ h g τ h201 := by rw [he204]; exact sp59.set kx (by decide) hs205
          rcases hr206 with ei209 | ⟨ei209, ei209b⟩
          · rw [ei209]
            refine tw_if_eq 47 dX10_last_40 (by decide) (fun c210 => absurd c210 (by decide)) (fun _ => ?_)
            refine tw_iconst (v := 0) dX10_last_43 (by decide) ?_
            refine tw_goto 54 dX10_last_44 (by decide) ?_
            exact tw_iret dX10_last_54 rfl (Or.inl ⟨_, rfl, sp208⟩)
          · rw [ei209]
            refine tw_if_eq 47 dX10_last_40 (by decide) (fun _ => ?_) (fun c211 => absurd (by decide) c211)
            refine tw_aload_n 0 dX10_last_47 rfl rfl ?_
            refine tw_iload_n 1 dX10_last_48 rfl rfl ?_
            refine tw_iload_n 2 dX10_last_49 rfl rfl ?_
            refine tw_iload_n 3 dX10_last_50 rfl rfl ?_
            obtain ⟨e212, f213, th_214, td_215, ds_216, fr_217, ca_218, us_219, wo_220, cm_221, lc_222, lh_223, ld_224, rfl, k225, k226, k227, k228, k229, k230, k231, k232, k233, k234, k235, k236, k237, k238, k239, k240, k241, k242, k243, k244, k245, k246⟩ := sp208.1 x 36 kx (by decide)
            refine tw_bi (tw_callV (M := mX10_last) (pc := 51) okX10_lastNow dX10_last_51 w_1577 rfl f213 [.int (nI j39), .int m, .int gr] [] rfl rfl ⟨by decide, by decide⟩ (Nat.le_of_ble_eq_true rfl) (c_X10_lastNow d g τ h201 sp208.1 x kx m gr j39 (by omega) q63m) 0 0 (Nat.le_of_ble_eq_true rfl) (Nat.le_of_ble_eq_true rfl)) (fun r249 h248 q247 => ?_) (fun E h1 q => q.elim)
            rw [q247]
            exact tw_iret dX10_last_54 rfl (Or.inl ⟨_, rfl, sp208⟩)

set_option maxHeartbeats 4000000 in
set_option maxRecDepth 100000 in
theorem c_X10_worldNow (d : tw_D) (g : tw_G) (τ : tw_K) (h : tw_H) (hw : tw_wt d g τ h) (x : Nat) (kx : τ x = 36) (m : Int32) (w9 : Int32) (hm : vp_in m 2) (hw9 : vp_in w9 6) : tw_Ct d mX10_worldNow 3 14 [.ref x, .int m, .int w9] h (tw_qi (fun r h1 => tw_sp d τ h g τ h1) tw_nx) := by
  refine tw_of (by decide +kernel) (Nat.le_of_ble_eq_true rfl) ?_
  show tw_W d mX10_worldNow _ 0 [(0, .ref x), (1, .int m), (2, .int w9)] [] h 3 14
  have sp0 := tw_sp.rf hw
  refine tw_lconst (v := 0) dX10_worldNow_0 (by decide) ?_
  refine tw_lstore_n [(3, .long 0), (0, .ref x), (1, .int m), (2, .int w9)] dX10_worldNow_1 rfl (by decide) rfl ?_
  refine tw_lconst (v := 0) dX10_worldNow_2 (by decide) ?_
  refine tw_lstore [(5, .long 0), (3, .long 0), (0, .ref x), (1, .int m), (2, .int w9)] dX10_worldNow_3 (by decide) rfl ?_
  refine tw_aload_n 2 dX10_worldNow_5 rfl rfl ?_
  obtain ⟨e1, f2, th_3, td_4, ds_5, fr_6, ca_7, us_8, wo_9, cm_10, lc_11, lh_12, ld_13, rfl, k14, k15, k16, k17, k18, k19, k20, k21, k22, k23, k24, k25, k26, k27, k28, k29, k30, k31, k32, k33, k34, k35⟩ := sp0.1 x 36 kx (by decide)
  refine tw_get (v := .ref lc_11) rfl in_14 9 dX10_worldNow_6 w_1160 rfl (by decide) f2 rfl ?_
  obtain ⟨e36, f37, ⟨el38, rfl, k39⟩, k40⟩ := sp0.1 lc_11 24 k20 (by decide)
  refine tw_br (tw_callV (M := mX10_worldNow) (pc := 9) okJx4a65c_iterator_32c93 dX10_worldNow_9 w_1382 rfl f37 [] [] rfl rfl ⟨by decide, by decide⟩ (Nat.le_of_ble_eq_true rfl) (c_iterator d h lc_11 el38 (g.1 3) (nI (g.2 3)) f37) 2 10 (Nat.le_of_ble_eq_true rfl) (Nat.le_of_ble_eq_true rfl)) (fun it41 h42 q43 => ?_) (fun E h1 q => q.elim)
  obtain ⟨q43n, q43e⟩ := q43
  rw [q43e]
  have n44 := sp0.nn q43n
  have z45 := sp0.1.none q43n
  obtain ⟨h46, eh46⟩ : ∃ z : tw_H, z = tw_up h it41 (.inr (2, [.int 0, .int (-1), .int (g.1 3), .ref lc_11])) := ⟨_, rfl⟩
  rw [← eh46]
  have sp47 : tw_sp d τ h g τ h46 := by rw [eh46]; exact sp0.mk q43n
  have f48 : h46 it41 = some (.inr (2, [.int 0, .int (-1), .int (g.1 3), .ref lc_11])) := by rw [eh46]; exact tw_up_s
  refine tw_astore [(7, .ref it41), (5, .long 0), (3, .long 0), (0, .ref x), (1, .int m), (2, .int w9)] dX10_worldNow_12 (by decide) rfl ?_
  have L54 : ∀ (r50 j51 : Nat) (l52 : Int32) (x49 : Int64) (h55 : tw_H) (sp56 : tw_sp d τ (tw_rm h46 it41) g τ h55) (ft57 : h55 it41 = some (.inr (2, [.int (nI j51), .int l52, .int (g.1 3), .ref lc_11]))) (zt58 : τ it41 = 0), g.2 3 + 1 ≤ j51 + r50 → j51 ≤ g.2 3 → tw_W d mX10_worldNow (tw_qi (fun r h1 => tw_sp d τ h g τ h1) tw_nx) 14 [(0, .ref x), (1, .int m), (2, .int w9), (3, .long x49), (5, .long 0), (7, .ref it41)] [] h55 2 10 := by
    intro r50
    induction r50 with
    | zero => intro j51 l52 x49 h55 sp56 ft57 zt58 hk59 hk60; exact absurd hk59 (by omega)
    | succ r50 ih53 =>
      intro j51 l52 x49 h55 sp56 ft57 zt58 hk59 hk60
      refine tw_aload 5 dX10_worldNow_14 rfl ?_
      obtain ⟨e61, f62, ⟨el63, rfl, k64⟩, k65⟩ := sp56.1 lc_11 24 k20 (by decide)
      refine tw_bi (tw_callF (M := mX10_worldNow) (pc := 16) (n9 := 0) (ci := 2) tw_hasNext ok_itHas w_1412 w_1410 (fun s H z => z.2.2.2.2.2.2.2.2.1) (by decide +kernel) dX10_worldNow_16 w_1406 rfl ft57 [] [] rfl rfl ⟨by decide, by decide⟩ (Nat.le_of_ble_eq_true rfl) (c_hasNext d h55 it41 lc_11 el63 j51 (g.2 3) l52 (g.1 3) (g.1 3) ft57 f62 (by omega) (tw_lim24 sp56.1 k20)) 2 10 (Nat.le_of_ble_eq_true rfl) (Nat.le_of_ble_eq_true rfl)) (fun r68 h67 q66 => ?_) (fun E h1 q => q.elim)
      obtain ⟨q66e, q66q⟩ := q66
      rw [q66e]
      rcases q66q with ⟨q66r, q66j⟩ | ⟨q66r, q66j⟩
      · rw [q66r]
        refine tw_if_eq 49 dX10_worldNow_21 (by decide) (fun _ => ?_) (fun c69 => absurd (by decide) c69)
        refine tw_aload_n 0 dX10_worldNow_49 rfl rfl ?_
        obtain ⟨e70, f71, th_72, td_73, ds_74, fr_75, ca_76, us_77, wo_78, cm_79, lc_80, lh_81, ld_82, rfl, k83, k84, k85, k86, k87, k88, k89, k90, k91, k92, k93, k94, k95, k96, k97, k98, k99, k100, k101, k102, k103, k104⟩ := sp56.1 x 36 kx (by decide)
        refine tw_get (v := .ref lh_81) rfl in_14 10 dX10_worldNow_50 w_1161 rfl (by decide) f71 rfl ?_
        obtain ⟨e105, f106, ⟨el107, rfl, k108⟩, k109⟩ := sp56.1 lh_81 25 k90 (by decide)
        refine tw_br (tw_callV (M := mX10_worldNow) (pc := 53) okJx4a65c_iterator_32c93 dX10_worldNow_53 w_1382 rfl f106 [] [] rfl rfl ⟨by decide, by decide⟩ (Nat.le_of_ble_eq_true rfl) (c_iterator d h55 lh_81 el107 (g.1 4) (nI (g.2 4)) f106) 1 6 (Nat.le_of_ble_eq_true rfl) (Nat.le_of_ble_eq_true rfl)) (fun it110 h111 q112 => ?_) (fun E h1 q => q.elim)
        obtain ⟨q112n, q112e⟩ := q112
        rw [q112e]
        have n113 := sp56.nn q112n
        have z114 := sp56.1.none q112n
        have ne115 := tw_neF ft57 q112n
        obtain ⟨h116, eh116⟩ : ∃ z : tw_H, z = tw_up h55 it110 (.inr (2, [.int 0, .int (-1), .int (g.1 4), .ref lh_81])) := ⟨_, rfl⟩
        rw [← eh116]
        have sp117 : tw_sp d τ (tw_rm h46 it41) g τ h116 := by rw [eh116]; exact sp56.mk q112n
        have f118 : h116 it41 = some (.inr (2, [.int (nI j51), .int l52, .int (g.1 3), .ref lc_11])) := by rw [eh116, tw_up_n ne115]; exact ft57
        have f119 : h116 it110 = some (.inr (2, [.int 0, .int (-1), .int (g.1 4), .ref lh_81])) := by rw [eh116]; exact tw_up_s
        refine tw_astore [(7, .ref it110), (0, .ref x), (1, .int m), (2, .int w9), (3, .long x49), (5, .long 0)] dX10_worldNow_56 (by decide) rfl ?_
        have L125 : ∀ (r121 j122 : Nat) (l123 : Int32) (x120 : Int64) (h126 : tw_H) (sp127 : tw_sp d τ (tw_rm h116 it110) g τ h126) (ft128 : h126 it110 = some (.inr (2, [.int (nI j122), .int l123, .int (g.1 4), .ref lh_81]))) (zt129 : τ it110 = 0), g.2 4 + 1 ≤ j122 + r121 → j122 ≤ g.2 4 → tw_W d mX10_worldNow (tw_qi (fun r h1 => tw_sp d τ h g τ h1) tw_nx) 58 [(0, .ref x), (1, .int m), (2, .int w9), (3, .long x49), (5, .long x120), (7, .ref it110)] [] h126 1 6 := by
          intro r121
          induction r121 with
          | zero => intro j122 l123 x120 h126 sp127 ft128 zt129 hk130 hk131; exact absurd hk130 (by omega)
          | succ r121 ih124 =>
            intro j122 l123 x120 h126 sp127 ft128 zt129 hk130 hk131
            have f132 := (sp127.2.2 _ _ (by unfold tw_rm; rw [if_neg ne115]; exact f118) zt58).1
            have z133 := (sp127.2.2 _ _ (by unfold tw_rm; rw [if_neg ne115]; exact f118) zt58).2
            refine tw_aload 5 dX10_worldNow_58 rfl ?_
            obtain ⟨e134, f135, ⟨el136, rfl, k137⟩, k138⟩ := sp127.1 lh_81 25 k90 (by decide)
            refine tw_bi (tw_callF (M := mX10_worldNow) (pc := 60) (n9 := 0) (ci := 2) tw_hasNext ok_itHas w_1412 w_1410 (fun s H z => z.2.2.2.2.2.2.2.2.1) (by decide +kernel) dX10_worldNow_60 w_1406 rfl ft128 [] [] rfl rfl ⟨by decide, by decide⟩ (Nat.le_of_ble_eq_true rfl) (c_hasNext d h126 it110 lh_81 el136 j122 (g.2 4) l123 (g.1 4) (g.1 4) ft128 f135 (by omega) (tw_lim25 sp127.1 k90)) 1 6 (Nat.le_of_ble_eq_true rfl) (Nat.le_of_ble_eq_true rfl)) (fun r141 h140 q139 => ?_) (fun E h1 q => q.elim)
            obtain ⟨q139e, q139q⟩ := q139
            rw [q139e]
            rcases q139q with ⟨q139r, q139j⟩ | ⟨q139r, q139j⟩
            · rw [q139r]
              refine tw_if_eq 95 dX10_worldNow_65 (by decide) (fun _ => ?_) (fun c142 => absurd (by decide) c142)
              refine tw_bipush (v := 6) dX10_worldNow_95 (by decide) ?_
              refine tw_newa (a0 := (6, .inr (.inl (fun _ => 0)))) 1 rfl dX10_worldNow_97 rfl w_1150 (fun _ => rfl) (by decide) (by decide) (by decide) 0 0 (Nat.le_of_ble_eq_true rfl) (Nat.le_of_ble_eq_true rfl) (fun q143 hq144 hA145 => ?_)
              have n146 := sp127.nn hq144
              have z147 := sp127.1.none hq144
              have ne148 := tw_neF f132 hq144
              have ne149 := tw_neF ft128 hq144
              obtain ⟨h150, eh150⟩ : ∃ z : tw_H, z = tw_up h126 q143 (.inl (d.2 1, 6, .inr (.inl (fun _ => 0)))) := ⟨_, rfl⟩
              rw [← eh150]
              have sp151 : tw_sp d τ (tw_rm h116 it110) g τ h150 := by rw [eh150]; exact sp127.mk hq144
              have f152 : h150 it41 = some (.inr (2, [.int (nI j51), .int l52, .int (g.1 3), .ref lc_11])) := by rw [eh150, tw_up_n ne148]; exact f132
              have f153 : h150 it110 = some (.inr (2, [.int (nI j122), .int l123, .int (g.1 4), .ref lh_81])) := by rw [eh150, tw_up_n ne149]; exact ft128
              have f154 : h150 q143 = some (.inl (d.2 1, 6, .inr (.inl (fun _ => 0)))) := by rw [eh150]; exact tw_up_s
              refine tw_dup dX10_worldNow_99 rfl ?_
              refine tw_iconst (v := 0) dX10_worldNow_100 (by decide) ?_
              refine tw_lload_n 3 dX10_worldNow_101 rfl rfl ?_
              refine tw_last dX10_worldNow_102 f154 (vp_in_nI (n := 0) (by decide) (by decide)) ?_
              obtain ⟨F155, eF155⟩ : ∃ z : Nat → Int64, z = vp_updL (fun _ => 0) (0 : Int32).toNatClampNeg x49 := ⟨_, rfl⟩
              rw [← eF155]
              obtain ⟨h156, eh156⟩ : ∃ z : tw_H, z = tw_up h150 q143 (.inl (d.2 1, 6, .inr (.inl F155))) := ⟨_, rfl⟩
              rw [← eh156]
              have sp157 : tw_sp d τ (tw_rm h116 it110) g τ h156 := by rw [eh156]; exact sp151.wl n146 z147
              have f158 : h156 it41 = some (.inr (2, [.int (nI j51), .int l52, .int (g.1 3), .ref lc_11])) := by rw [eh156, tw_up_n ne148]; exact f152
              have f159 : h156 it110 = some (.inr (2, [.int (nI j122), .int l123, .int (g.1 4), .ref lh_81])) := by rw [eh156, tw_up_n ne149]; exact f153
              have f160 : h156 q143 = some (.inl (d.2 1, 6, .inr (.inl F155))) := by rw [eh156]; exact tw_up_s
              refine tw_dup dX10_worldNow_103 rfl ?_
              refine tw_iconst (v := 1) dX10_worldNow_104 (by decide) ?_
              refine tw_lload 4 dX10_worldNow_105 rfl ?_
              refine tw_last dX10_worldNow_107 f160 (vp_in_nI (n := 1) (by decide) (by decide)) ?_
              obtain ⟨F161, eF161⟩ : ∃ z : Nat → Int64, z = vp_updL F155 (1 : Int32).toNatClampNeg x120 := ⟨_, rfl⟩
              rw [← eF161]
              obtain ⟨h162, eh162⟩ : ∃ z : tw_H, z = tw_up h156 q143 (.inl (d.2 1, 6, .inr (.inl F161))) := ⟨_, rfl⟩
              rw [← eh162]
              have sp163 : tw_sp d τ (tw_rm h116 it110) g τ h162 := by rw [eh162]; exact sp157.wl n146 z147
              have f164 : h162 it41 = some (.inr (2, [.int (nI j51), .int l52, .int (g.1 3), .ref lc_11])) := by rw [eh162, tw_up_n ne148]; exact f158
              have f165 : h162 it110 = some (.inr (2, [.int (nI j122), .int l123, .int (g.1 4), .ref lh_81])) := by rw [eh162, tw_up_n ne149]; exact f159
              have f166 : h162 q143 = some (.inl (d.2 1, 6, .inr (.inl F161))) := by rw [eh162]; exact tw_up_s
              refine tw_dup dX10_worldNow_108 rfl ?_
              refine tw_iconst (v := 2) dX10_worldNow_109 (by decide) ?_
              refine tw_aload_n 0 dX10_worldNow_110 rfl rfl ?_
              obtain ⟨e167, f168, th_169, td_170, ds_171, fr_172, ca_173, us_174, wo_175, cm_176, lc_177, lh_178, ld_179, rfl, k180, k181, k182, k183, k184, k185, k186, k187, k188, k189, k190, k191, k192, k193, k194, k195, k196, k197, k198, k199, k200, k201⟩ := sp163.1 x 36 kx (by decide)
              refine tw_get (v := .ref ca_173) rfl in_14 5 dX10_worldNow_111 w_1156 rfl (by decide) f168 rfl ?_
              refine tw_iload_n 1 dX10_worldNow_114 rfl rfl ?_
              obtain ⟨e202, f203, F204, rfl, pf205⟩ := sp163.1 ca_173 31 k182 (by decide)
              obtain ⟨v206, ev206⟩ : ∃ y : Int64, F204 (m).toNatClampNeg = y := ⟨_, rfl⟩
              refine tw_lald (v := v206) dX10_worldNow_115 f203 hm ev206 ?_
              refine tw_last dX10_worldNow_116 f166 (vp_in_nI (n := 2) (by decide) (by decide)) ?_
              obtain ⟨F207, eF207⟩ : ∃ z : Nat → Int64, z = vp_updL F161 (2 : Int32).toNatClampNeg v206 := ⟨_, rfl⟩
              rw [← eF207]
              obtain ⟨h208, eh208⟩ : ∃ z : tw_H, z = tw_up h162 q143 (.inl (d.2 1, 6, .inr (.inl F207))) := ⟨_, rfl⟩
              rw [← eh208]
              have sp209 : tw_sp d τ (tw_rm h116 it110) g τ h208 := by rw [eh208]; exact sp163.wl n146 z147
              have f210 : h208 it41 = some (.inr (2, [.int (nI j51), .int l52, .int (g.1 3), .ref lc_11])) := by rw [eh208, tw_up_n ne148]; exact f164
              have f211 : h208 it110 = some (.inr (2, [.int (nI j122), .int l123, .int (g.1 4), .ref lh_81])) := by rw [eh208, tw_up_n ne149]; exact f165
              have f212 : h208 q143 = some (.inl (d.2 1, 6, .inr (.inl F207))) := by rw [eh208]; exact tw_up_s
              refine tw_dup dX10_worldNow_117 rfl ?_
              refine tw_iconst (v := 3) dX10_worldNow_118 (by decide) ?_
              refine tw_aload_n 0 dX10_worldNow_119 rfl rfl ?_
              obtain ⟨e213, f214, th_215, td_216, ds_217, fr_218, ca_219, us_220, wo_221, cm_222, lc_223, lh_224, ld_225, rfl, k226, k227, k228, k229, k230, k231, k232, k233, k234, k235, k236, k237, k238, k239, k240, k241, k242, k243, k244, k245, k246, k247⟩ := sp209.1 x 36 kx (by decide)
              refine tw_get (v := .ref us_220) rfl in_14 6 dX10_worldNow_120 w_1157 rfl (by decide) f214 rfl ?_
              refine tw_iload_n 1 dX10_worldNow_123 rfl rfl ?_
              obtain ⟨e248, f249, F250, rfl, pf251⟩ := sp209.1 us_220 31 k229 (by decide)
              obtain ⟨v252, ev252⟩ : ∃ y : Int64, F250 (m).toNatClampNeg = y := ⟨_, rfl⟩
              refine tw_lald (v := v252) dX10_worldNow_124 f249 hm ev252 ?_
              refine tw_last dX10_worldNow_125 f212 (vp_in_nI (n := 3) (by decide) (by decide)) ?_
              obtain ⟨F253, eF253⟩ : ∃ z : Nat → Int64, z = vp_updL F207 (3 : Int32).toNatClampNeg v252 := ⟨_, rfl⟩
              rw [← eF253]
              obtain ⟨h254, eh254⟩ : ∃ z : tw_H, z = tw_up h208 q143 (.inl (d.2 1, 6, .inr (.inl F253))) := ⟨_, rfl⟩
              rw [← eh254]
              have sp255 : tw_sp d τ (tw_rm h116 it110) g τ h254 := by rw [eh254]; exact sp209.wl n146 z147
              have f256 : h254 it41 = some (.inr (2, [.int (nI j51), .int l52, .int (g.1 3), .ref lc_11])) := by rw [eh254, tw_up_n ne148]; exact f210
              have f257 : h254 it110 = some (.inr (2, [.int (nI j122), .int l123, .int (g.1 4), .ref lh_81])) := by rw [eh254, tw_up_n ne149]; exact f211
              have f258 : h254 q143 = some (.inl (d.2 1, 6, .inr (.inl F253))) := by rw [eh254]; exact tw_up_s
              refine tw_dup dX10_worldNow_126 rfl ?_
              refine tw_iconst (v := 4) dX10_worldNow_127 (by decide) ?_
              refine tw_aload_n 0 dX10_worldNow_128 rfl rfl ?_
              obtain ⟨e259, f260, th_261, td_262, ds_263, fr_264, ca_265, us_266, wo_267, cm_268, lc_269, lh_270, ld_271, rfl, k272, k273, k274, k275, k276, k277, k278, k279, k280, k281, k282, k283, k284, k285, k286, k287, k288, k289, k290, k291, k292, k293⟩ := sp255.1 x 36 kx (by decide)
              refine tw_get (v := .ref wo_267) rfl in_14 7 dX10_worldNow_129 w_1158 rfl (by decide) f260 rfl ?_
              refine tw_iload_n 1 dX10_worldNow_132 rfl rfl ?_
              obtain ⟨e294, f295, F296, rfl, pf297⟩ := sp255.1 wo_267 31 k276 (by decide)
              obtain ⟨v298, ev298⟩ : ∃ y : Int64, F296 (m).toNatClampNeg = y := ⟨_, rfl⟩
              refine tw_lald (v := v298) dX10_worldNow_133 f295 hm ev298 ?_
              refine tw_last dX10_worldNow_134 f258 (vp_in_nI (n := 4) (by decide) (by decide)) ?_
              obtain ⟨F299, eF299⟩ : ∃ z : Nat → Int64, z = vp_updL F253 (4 : Int32).toNatClampNeg v298 := ⟨_, rfl⟩
              rw [← eF299]
              obtain ⟨h300, eh300⟩ : ∃ z : tw_H, z = tw_up h254 q143 (.inl (d.2 1, 6, .inr (.inl F299))) := ⟨_, rfl⟩
              rw [← eh300]
              have sp301 : tw_sp d τ (tw_rm h116 it110) g τ h300 := by rw [eh300]; exact sp255.wl n146 z147
              have f302 : h300 it41 = some (.inr (2, [.int (nI j51), .int l52, .int (g.1 3), .ref lc_11])) := by rw [eh300, tw_up_n ne148]; exact f256
              have f303 : h300 it110 = some (.inr (2, [.int (nI j122), .int l123, .int (g.1 4), .ref lh_81])) := by rw [eh300, tw_up_n ne149]; exact f257
              have f304 : h300 q143 = some (.inl (d.2 1, 6, .inr (.inl F299))) := by rw [eh300]; exact tw_up_s
              refine tw_dup dX10_worldNow_135 rfl ?_
              refine tw_iconst (v := 5) dX10_worldNow_136 (by decide) ?_
              refine tw_aload_n 0 dX10_worldNow_137 rfl rfl ?_
              obtain ⟨e305, f306, th_307, td_308, ds_309, fr_310, ca_311, us_312, wo_313, cm_314, lc_315, lh_316, ld_317, rfl, k318, k319, k320, k321, k322, k323, k324, k325, k326, k327, k328, k329, k330, k331, k332, k333, k334, k335, k336, k337, k338, k339⟩ := sp301.1 x 36 kx (by decide)
              refine tw_get (v := .ref cm_314) rfl in_14 8 dX10_worldNow_138 w_1159 rfl (by decide) f306 rfl ?_
              refine tw_iload_n 1 dX10_worldNow_141 rfl rfl ?_
              obtain ⟨e340, f341, F342, rfl, pf343⟩ := sp301.1 cm_314 31 k323 (by decide)
              obtain ⟨v344, ev344⟩ : ∃ y : Int64, F342 (m).toNatClampNeg = y := ⟨_, rfl⟩
              refine tw_lald (v := v344) dX10_worldNow_142 f341 hm ev344 ?_
              refine tw_last dX10_worldNow_143 f304 (vp_in_nI (n := 5) (by decide) (by decide)) ?_
              obtain ⟨F345, eF345⟩ : ∃ z : Nat → Int64, z = vp_updL F299 (5 : Int32).toNatClampNeg v344 := ⟨_, rfl⟩
              rw [← eF345]
              obtain ⟨h346, eh346⟩ : ∃ z : tw_H, z = tw_up h300 q143 (.inl (d.2 1, 6, .inr (.inl F345))) := ⟨_, rfl⟩
              rw [← eh346]
              have sp347 : tw_sp d τ (tw_rm h116 it110) g τ h346 := by rw [eh346]; exact sp301.wl n146 z147
              have f348 : h346 it41 = some (.inr (2, [.int (nI j51), .int l52, .int (g.1 3), .ref lc_11])) := by rw [eh346, tw_up_n ne148]; exact f302
              have f349 : h346 it110 = some (.inr (2, [.int (nI j122), .int l123, .int (g.1 4), .ref lh_81])) := by rw [eh346, tw_up_n ne149]; exact f303
              have f350 : h346 q143 = some (.inl (d.2 1, 6, .inr (.inl F345))) := by rw [eh346]; exact tw_up_s
              refine tw_astore [(7, .ref q143), (0, .ref x), (1, .int m), (2, .int w9), (3, .long x49), (5, .long x120)] dX10_worldNow_144 (by decide) rfl ?_
              refine tw_aload 0 dX10_worldNow_146 rfl ?_
              refine tw_iload_n 3 dX10_worldNow_148 rfl rfl ?_
              obtain ⟨v351, ev351⟩ : ∃ y : Int64, F345 (w9).toNatClampNeg = y := ⟨_, rfl⟩
              refine tw_lald (v := v351) dX10_worldNow_149 f350 hw9 ev351 ?_
              refine tw_l2i dX10_worldNow_150 ?_
              refine tw_nmi (fun v352 ev352 => ?_)
              exact tw_iret dX10_worldNow_151 rfl (Or.inl ⟨_, rfl, (sp47.trm n44 (sp117.trm n113 sp347))⟩)
            · rw [q139r]
              refine tw_if_eq 95 dX10_worldNow_65 (by decide) (fun c353 => absurd c353 (by decide)) (fun _ => ?_)
              refine tw_aload 5 dX10_worldNow_68 rfl ?_
              have k354 : τ el136 = 28 := k137.resolve_left (fun q => absurd q139j (by rw [q.2.1]; exact Nat.not_lt_zero _))
              obtain ⟨e355, f356, ⟨F357, rfl, hc358, hc359⟩, un360⟩ := sp127.1 el136 28 k354 (by decide)
              obtain ⟨y361, hy362, ky363⟩ := hc359 j122 q139j
              refine tw_br (tw_callF (M := mX10_worldNow) (pc := 70) (n9 := 0) (ci := 2) tw_next ok_itNext w_1421 w_1419 (fun s H z => z.2.2.2.2.2.2.2.2.2) (by decide +kernel) dX10_worldNow_70 w_1416 rfl ft128 [] [] rfl rfl ⟨by decide, by decide⟩ (Nat.le_of_ble_eq_true rfl) (c_next d h126 it110 lh_81 el136 j122 (g.2 4) y361 l123 (g.1 4) F357 ft128 f135 f356 q139j hc358 hy362) 1 6 (Nat.le_of_ble_eq_true rfl) (Nat.le_of_ble_eq_true rfl)) (fun r366 h365 q364 => ?_) (fun E h1 q => q.elim)
              obtain ⟨q364r, q364e⟩ := q364
              rw [q364r]
              have sp367 : tw_sp d τ (tw_rm h116 it110) g τ h365 := by rw [q364e]; exact sp127.wl tw_rm_s zt129
              have f368 : h365 it41 = some (.inr (2, [.int (nI j51), .int l52, .int (g.1 3), .ref lc_11])) := by rw [q364e, tw_up_n ne115]; exact f132
              have f369 : h365 it110 = some (.inr (2, [.int (nI (j122 + 1)), .int (nI j122), .int (g.1 4), .ref lh_81])) := by rw [q364e]; exact tw_up_s
              obtain ⟨e370, f371, x_372, y_373, dy_374, p_375, rfl, k376, k377, k378, k379⟩ := sp367.1 y361 23 ky363 (by decide)
              refine tw_castS (ci := 13) rfl dX10_worldNow_75 w_1332 f371 ?_
              refine tw_astore [(8, .ref y361), (0, .ref x), (1, .int m), (2, .int w9), (3, .long x49), (5, .long x120), (7, .ref it110)] dX10_worldNow_78 (by decide) rfl ?_
              refine tw_lload 5 dX10_worldNow_80 rfl ?_
              refine tw_aload 0 dX10_worldNow_82 rfl ?_
              refine tw_get (v := .ref p_375) rfl in_13 3 dX10_worldNow_84 w_1344 rfl (by decide) f371 rfl ?_
              refine tw_iload_n 2 dX10_worldNow_87 rfl rfl ?_
              obtain ⟨e380, f381, F382, rfl, pf383⟩ := sp367.1 p_375 31 k376 (by decide)
              obtain ⟨v384, ev384⟩ : ∃ y : Int64, F382 (m).toNatClampNeg = y := ⟨_, rfl⟩
              refine tw_lald (v := v384) dX10_worldNow_88 f381 hm ev384 ?_
              refine tw_ladd dX10_worldNow_89 ?_
              refine tw_nml (fun v385 ev385 => ?_)
              refine tw_lstore [(5, .long v385), (8, .ref y361), (0, .ref x), (1, .int m), (2, .int w9), (3, .long x49), (7, .ref it110)] dX10_worldNow_90 (by decide) rfl ?_
              refine tw_goto 58 dX10_worldNow_92 (by decide) ?_
              refine tw_lv [2, 3, 4, 5, 0, 6] rfl ?_
              exact ih124 ((j122 + 1)) (nI j122) v385 _ sp367 f369 zt129  (by omega) (by omega)
        refine tw_lv [1, 2, 3, 4, 5, 0] rfl ?_
        exact L125 (g.2 4 + 1) 0 (-1) 0 _ (tw_sp.rm sp117.1 it110) f119 z114  (by omega) (Nat.zero_le _)
      · rw [q66r]
        refine tw_if_eq 49 dX10_worldNow_21 (by decide) (fun c386 => absurd c386 (by decide)) (fun _ => ?_)
        refine tw_aload 5 dX10_worldNow_24 rfl ?_
        have k387 : τ el63 = 27 := k64.resolve_left (fun q => absurd q66j (by rw [q.2.1]; exact Nat.not_lt_zero _))
        obtain ⟨e388, f389, ⟨F390, rfl, hc391, hc392⟩, un393⟩ := sp56.1 el63 27 k387 (by decide)
        obtain ⟨y394, hy395, ky396⟩ := hc392 j51 q66j
        refine tw_br (tw_callF (M := mX10_worldNow) (pc := 26) (n9 := 0) (ci := 2) tw_next ok_itNext w_1421 w_1419 (fun s H z => z.2.2.2.2.2.2.2.2.2) (by decide +kernel) dX10_worldNow_26 w_1416 rfl ft57 [] [] rfl rfl ⟨by decide, by decide⟩ (Nat.le_of_ble_eq_true rfl) (c_next d h55 it41 lc_11 el63 j51 (g.2 3) y394 l52 (g.1 3) F390 ft57 f62 f389 q66j hc391 hy395) 2 10 (Nat.le_of_ble_eq_true rfl) (Nat.le_of_ble_eq_true rfl)) (fun r399 h398 q397 => ?_) (fun E h1 q => q.elim)
        obtain ⟨q397r, q397e⟩ := q397
        rw [q397r]
        have sp400 : tw_sp d τ (tw_rm h46 it41) g τ h398 := by rw [q397e]; exact sp56.wl tw_rm_s zt58
        have f401 : h398 it41 = some (.inr (2, [.int (nI (j51 + 1)), .int (nI j51), .int (g.1 3), .ref lc_11])) := by rw [q397e]; exact tw_up_s
        obtain ⟨e402, f403, r_404, c_405, v_406, o_407, t_408, rfl, k409, k410, k411, k412, k413, k414⟩ := sp400.1 y394 21 ky396 (by decide)
        refine tw_castS (ci := 11) rfl dX10_worldNow_31 w_1208 f403 ?_
        refine tw_astore [(8, .ref y394), (0, .ref x), (1, .int m), (2, .int w9), (3, .long x49), (5, .long 0), (7, .ref it41)] dX10_worldNow_34 (by decide) rfl ?_
        refine tw_lload_n 4 dX10_worldNow_36 rfl rfl ?_
        refine tw_aload 0 dX10_worldNow_37 rfl ?_
        refine tw_get (v := .ref v_406) rfl in_11 2 dX10_worldNow_39 w_1217 rfl (by decide) f403 rfl ?_
        refine tw_iload_n 2 dX10_worldNow_42 rfl rfl ?_
        obtain ⟨e415, f416, F417, rfl, pf418⟩ := sp400.1 v_406 31 k409 (by decide)
        obtain ⟨v419, ev419⟩ : ∃ y : Int64, F417 (m).toNatClampNeg = y := ⟨_, rfl⟩
        refine tw_lald (v := v419) dX10_worldNow_43 f416 hm ev419 ?_
        refine tw_ladd dX10_worldNow_44 ?_
        refine tw_nml (fun v420 ev420 => ?_)
        refine tw_lstore_n [(3, .long v420), (8, .ref y394), (0, .ref x), (1, .int m), (2, .int w9), (5, .long 0), (7, .ref it41)] dX10_worldNow_45 rfl (by decide) rfl ?_
        refine tw_goto 14 dX10_worldNow_46 (by decide) ?_
        refine tw_lv [2, 3, 4, 0, 5, 6] rfl ?_
        exact ih53 ((j51 + 1)) (nI j51) v420 _ sp400 f401 zt58  (by omega) (by omega)
  refine tw_lv [3, 4, 5, 2, 1, 0] rfl ?_
  exact L54 (g.2 3 + 1) 0 (-1) 0 _ (tw_sp.rm sp47.1 it41) f48 z45  (by omega) (Nat.zero_le _)

set_option maxHeartbeats 4000000 in
set_option maxRecDepth 100000 in
theorem c_X10_world (d : tw_D) (g : tw_G) (τ : tw_K) (h : tw_H) (hw : tw_wt d g τ h) (x : Nat) (kx : τ x = 36) (m : Int32) (w9 : Int32) : tw_Ct d mX10_world 3 14 [.ref x, .int m, .int w9] h (tw_qi (fun r h1 => tw_sp d τ h g τ h1) tw_nx) := by
  refine tw_of (by decide +kernel) (Nat.le_of_ble_eq_true rfl) ?_
  show tw_W d mX10_world _ 0 [(0, .ref x), (1, .int m), (2, .int w9)] [] h 3 14
  have sp0 := tw_sp.rf hw
  refine tw_aload_n 0 dX10_world_0 rfl rfl ?_
  refine tw_iload_n 1 dX10_world_1 rfl rfl ?_
  refine tw_bi (tw_callS (M := mX10_world) (pc := 2) okX10_isNoMetal dX10_world_2 w_1308 [.int m] [.ref x] rfl rfl ⟨by decide, by decide⟩ (Nat.le_of_ble_eq_true rfl) (c_X10_isNoMetal d g τ h sp0.1 m) 3 14 (Nat.le_of_ble_eq_true rfl) (Nat.le_of_ble_eq_true rfl)) (fun r3 h2 q1 => ?_) (fun E h1 q => q.elim)
  obtain ⟨q1e, q1d⟩ := q1
  rw [q1e]
  rcases q1d with q1r | ⟨q1r, q1m⟩
  · rw [q1r]
    refine tw_if_ne 17 dX10_world_5 (by decide) (fun _ => ?_) (fun c4 => absurd c4 (by decide))
    refine tw_iconst (v := 1) dX10_world_17 (by decide) ?_
    refine tw_goto 22 dX10_world_18 (by decide) ?_
    refine tw_iconst (v := 1) dX10_world_22 (by decide) ?_
    obtain ⟨e5, f6, th_7, td_8, ds_9, fr_10, ca_11, us_12, wo_13, cm_14, lc_15, lh_16, ld_17, rfl, k18, k19, k20, k21, k22, k23, k24, k25, k26, k27, k28, k29, k30, k31, k32, k33, k34, k35, k36, k37, k38, k39⟩ := sp0.1 x 36 kx (by decide)
    refine tw_bi (tw_callV (M := mX10_world) (pc := 23) okX10_start dX10_world_23 w_1196 rfl f6 [.int 1, .int 1] [] rfl rfl ⟨by decide, by decide⟩ (Nat.le_of_ble_eq_true rfl) (c_X10_start d g τ h sp0.1 x kx 1 1 (by decide)) 3 14 (Nat.le_of_ble_eq_true rfl) (Nat.le_of_ble_eq_true rfl)) (fun r42 h41 q40 => ?_) (fun E h1 q => q.elim)
    obtain ⟨e43, he44, hs45, hr46, h347⟩ := q40
    have sp48 : tw_sp d τ h g τ h41 := by rw [he44]; exact sp0.set kx (by decide) hs45
    rcases hr46 with ei49 | ⟨ei49, ei49b⟩
    · rw [ei49]
      refine tw_if_eq 33 dX10_world_26 (by decide) (fun c50 => absurd c50 (by decide)) (fun _ => ?_)
      refine tw_iconst (v := 0) dX10_world_29 (by decide) ?_
      refine tw_goto 39 dX10_world_30 (by decide) ?_
      exact tw_iret dX10_world_39 rfl (Or.inl ⟨_, rfl, sp48⟩)
    · exact absurd ei49b (by decide)
  · rw [q1r]
    refine tw_if_ne 17 dX10_world_5 (by decide) (fun c51 => absurd (by decide) c51) (fun _ => ?_)
    refine tw_iload_n 2 dX10_world_8 rfl rfl ?_
    refine tw_iconst (v := 0) dX10_world_9 (by decide) ?_
    refine tw_iconst (v := 5) dX10_world_10 (by decide) ?_
    refine tw_bi (tw_callS (M := mX10_world) (pc := 11) okX10_isIn dX10_world_11 w_1192 [.int w9, .int 0, .int 5] [.ref x] rfl rfl ⟨by decide, by decide⟩ (Nat.le_of_ble_eq_true rfl) (c_X10_isIn d g τ h sp0.1 w9 0 5) 3 14 (Nat.le_of_ble_eq_true rfl) (Nat.le_of_ble_eq_true rfl)) (fun r54 h53 q52 => ?_) (fun E h1 q => q.elim)
    obtain ⟨q52e, q52d⟩ := q52
    rw [q52e]
    rcases q52d with ⟨q52r, q52n⟩ | ⟨q52r, q52a, q52b⟩
    · rw [q52r]
      refine tw_if_ne 21 dX10_world_14 (by decide) (fun c55 => absurd (by decide) c55) (fun _ => ?_)
      refine tw_iconst (v := 1) dX10_world_17 (by decide) ?_
      refine tw_goto 22 dX10_world_18 (by decide) ?_
      refine tw_iconst (v := 1) dX10_world_22 (by decide) ?_
      obtain ⟨e56, f57, th_58, td_59, ds_60, fr_61, ca_62, us_63, wo_64, cm_65, lc_66, lh_67, ld_68, rfl, k69, k70, k71, k72, k73, k74, k75, k76, k77, k78, k79, k80, k81, k82, k83, k84, k85, k86, k87, k88, k89, k90⟩ := sp0.1 x 36 kx (by decide)
      refine tw_bi (tw_callV (M := mX10_world) (pc := 23) okX10_start dX10_world_23 w_1196 rfl f57 [.int 1, .int 1] [] rfl rfl ⟨by decide, by decide⟩ (Nat.le_of_ble_eq_true rfl) (c_X10_start d g τ h sp0.1 x kx 1 1 (by decide)) 3 14 (Nat.le_of_ble_eq_true rfl) (Nat.le_of_ble_eq_true rfl)) (fun r93 h92 q91 => ?_) (fun E h1 q => q.elim)
      obtain ⟨e94, he95, hs96, hr97, h398⟩ := q91
      have sp99 : tw_sp d τ h g τ h92 := by rw [he95]; exact sp0.set kx (by decide) hs96
      rcases hr97 with ei100 | ⟨ei100, ei100b⟩
      · rw [ei100]
        refine tw_if_eq 33 dX10_world_26 (by decide) (fun c101 => absurd c101 (by decide)) (fun _ => ?_)
        refine tw_iconst (v := 0) dX10_world_29 (by decide) ?_
        refine tw_goto 39 dX10_world_30 (by decide) ?_
        exact tw_iret dX10_world_39 rfl (Or.inl ⟨_, rfl, sp99⟩)
      · exact absurd ei100b (by decide)
    · rw [q52r]
      refine tw_if_ne 21 dX10_world_14 (by decide) (fun _ => ?_) (fun c102 => absurd c102 (by decide))
      refine tw_iconst (v := 0) dX10_world_21 (by decide) ?_
      refine tw_iconst (v := 1) dX10_world_22 (by decide) ?_
      obtain ⟨e103, f104, th_105, td_106, ds_107, fr_108, ca_109, us_110, wo_111, cm_112, lc_113, lh_114, ld_115, rfl, k116, k117, k118, k119, k120, k121, k122, k123, k124, k125, k126, k127, k128, k129, k130, k131, k132, k133, k134, k135, k136, k137⟩ := sp0.1 x 36 kx (by decide)
      refine tw_bi (tw_callV (M := mX10_world) (pc := 23) okX10_start dX10_world_23 w_1196 rfl f104 [.int 0, .int 1] [] rfl rfl ⟨by decide, by decide⟩ (Nat.le_of_ble_eq_true rfl) (c_X10_start d g τ h sp0.1 x kx 0 1 (by decide)) 3 14 (Nat.le_of_ble_eq_true rfl) (Nat.le_of_ble_eq_true rfl)) (fun r140 h139 q138 => ?_) (fun E h1 q => q.elim)
      obtain ⟨e141, he142, hs143, hr144, h3145⟩ := q138
      have sp146 : tw_sp d τ h g τ h139 := by rw [he142]; exact sp0.set kx (by decide) hs143
      rcases hr144 with ei147 | ⟨ei147, ei147b⟩
      · rw [ei147]
        refine tw_if_eq 33 dX10_world_26 (by decide) (fun c148 => absurd c148 (by decide)) (fun _ => ?_)
        refine tw_iconst (v := 0) dX10_world_29 (by decide) ?_
        refine tw_goto 39 dX10_world_30 (by decide) ?_
        exact tw_iret dX10_world_39 rfl (Or.inl ⟨_, rfl, sp146⟩)
      · rw [ei147]
        refine tw_if_eq 33 dX10_world_26 (by decide) (fun _ => ?_) (fun c149 => absurd (by decide) c149)
        refine tw_aload_n 0 dX10_world_33 rfl rfl ?_
        refine tw_iload_n 1 dX10_world_34 rfl rfl ?_
        refine tw_iload_n 2 dX10_world_35 rfl rfl ?_
        obtain ⟨e150, f151, th_152, td_153, ds_154, fr_155, ca_156, us_157, wo_158, cm_159, lc_160, lh_161, ld_162, rfl, k163, k164, k165, k166, k167, k168, k169, k170, k171, k172, k173, k174, k175, k176, k177, k178, k179, k180, k181, k182, k183, k184⟩ := sp146.1 x 36 kx (by decide)
        refine tw_bi (tw_callV (M := mX10_world) (pc := 36) okX10_worldNow dX10_world_36 w_1533 rfl f151 [.int m, .int w9] [] rfl rfl ⟨by decide, by decide⟩ (Nat.le_of_ble_eq_true rfl) (c_X10_worldNow d g τ h139 sp146.1 x kx m w9 (tw_in01 q1m (by decide)) (tw_irng (N := 6) q52a q52b (by decide) (by decide))) 0 0 (Nat.le_of_ble_eq_true rfl) (Nat.le_of_ble_eq_true rfl)) (fun r187 h186 q185 => ?_) (fun E h1 q => q.elim)
        have sp188 := sp146.tr q185
        exact tw_iret dX10_world_39 rfl (Or.inl ⟨_, rfl, sp188⟩)

set_option maxHeartbeats 4000000 in
set_option maxRecDepth 100000 in
theorem c_X10_ofCountryNow (d : tw_D) (g : tw_G) (τ : tw_K) (h : tw_H) (hw : tw_wt d g τ h) (x : Nat) (kx : τ x = 36) (w9 : Int32) (a : Nat) (ha : a < g.2 3) (hw9 : vp_in w9 9) : tw_Ct d mX10_ofCountryNow 3 17 [.ref x, .int (nI a), .int w9] h (tw_qi (fun r h1 => tw_sp d τ h g τ h1) tw_nx) := by
  refine tw_of (by decide +kernel) (Nat.le_of_ble_eq_true rfl) ?_
  show tw_W d mX10_ofCountryNow _ 0 [(0, .ref x), (1, .int (nI a)), (2, .int w9)] [] h 3 17
  have sp0 := tw_sp.rf hw
  refine tw_aload_n 0 dX10_ofCountryNow_0 rfl rfl ?_
  obtain ⟨e1, f2, th_3, td_4, ds_5, fr_6, ca_7, us_8, wo_9, cm_10, lc_11, lh_12, ld_13, rfl, k14, k15, k16, k17, k18, k19, k20, k21, k22, k23, k24, k25, k26, k27, k28, k29, k30, k31, k32, k33, k34, k35⟩ := sp0.1 x 36 kx (by decide)
  refine tw_get (v := .ref lc_11) rfl in_14 9 dX10_ofCountryNow_1 w_1160 rfl (by decide) f2 rfl ?_
  refine tw_iload_n 1 dX10_ofCountryNow_4 rfl rfl ?_
  obtain ⟨e36, f37, ⟨el38, rfl, k39⟩, k40⟩ := sp0.1 lc_11 24 k20 (by decide)
  refine tw_br (tw_callV (M := mX10_ofCountryNow) (pc := 5) okJx4a65c_get_915e3 dX10_ofCountryNow_5 w_1292 rfl f37 [.int (nI a)] [] rfl rfl ⟨by decide, by decide⟩ (Nat.le_of_ble_eq_true rfl) (c24_get d g τ h sp0.1 lc_11 k20 a (by omega) (by omega)) 3 17 (Nat.le_of_ble_eq_true rfl) (Nat.le_of_ble_eq_true rfl)) (fun r43 h42 q41 => ?_) (fun E h1 q => q.elim)
  obtain ⟨q41e, q41k⟩ := q41
  rw [q41e]
  have el44 : tw_el h (g.2 12) a = r43 := by rw [← k40]; exact q41k.2.symm
  have kl45 : τ (g.2 12) = 24 := by rw [← k40]; exact k20
  obtain ⟨e46, f47, r_48, c_49, v_50, o_51, t_52, rfl, k53, k54, k55, k56, k57, k58⟩ := sp0.1 r43 21 q41k.1 (by decide)
  refine tw_castS (ci := 11) rfl dX10_ofCountryNow_8 w_1208 f47 ?_
  refine tw_astore_n [(3, .ref r43), (0, .ref x), (1, .int (nI a)), (2, .int w9)] dX10_ofCountryNow_11 rfl (by decide) rfl ?_
  refine tw_iconst (v := 0) dX10_ofCountryNow_12 (by decide) ?_
  refine tw_istore [(4, .int 0), (3, .ref r43), (0, .ref x), (1, .int (nI a)), (2, .int w9)] dX10_ofCountryNow_13 (by decide) rfl ?_
  refine tw_iconst (v := 0) dX10_ofCountryNow_15 (by decide) ?_
  refine tw_istore [(5, .int 0), (4, .int 0), (3, .ref r43), (0, .ref x), (1, .int (nI a)), (2, .int w9)] dX10_ofCountryNow_16 (by decide) rfl ?_
  refine tw_iconst (v := 0) dX10_ofCountryNow_18 (by decide) ?_
  refine tw_istore [(6, .int 0), (5, .int 0), (4, .int 0), (3, .ref r43), (0, .ref x), (1, .int (nI a)), (2, .int w9)] dX10_ofCountryNow_19 (by decide) rfl ?_
  refine tw_aload_n 4 dX10_ofCountryNow_21 rfl rfl ?_
  refine tw_get (v := .ref lh_12) rfl in_14 10 dX10_ofCountryNow_22 w_1161 rfl (by decide) f2 rfl ?_
  obtain ⟨e59, f60, ⟨el61, rfl, k62⟩, k63⟩ := sp0.1 lh_12 25 k21 (by decide)
  refine tw_br (tw_callV (M := mX10_ofCountryNow) (pc := 25) okJx4a65c_iterator_32c93 dX10_ofCountryNow_25 w_1382 rfl f60 [] [] rfl rfl ⟨by decide, by decide⟩ (Nat.le_of_ble_eq_true rfl) (c_iterator d h lh_12 el61 (g.1 4) (nI (g.2 4)) f60) 2 13 (Nat.le_of_ble_eq_true rfl) (Nat.le_of_ble_eq_true rfl)) (fun it64 h65 q66 => ?_) (fun E h1 q => q.elim)
  obtain ⟨q66n, q66e⟩ := q66
  rw [q66e]
  have n67 := sp0.nn q66n
  have z68 := sp0.1.none q66n
  obtain ⟨h69, eh69⟩ : ∃ z : tw_H, z = tw_up h it64 (.inr (2, [.int 0, .int (-1), .int (g.1 4), .ref lh_12])) := ⟨_, rfl⟩
  rw [← eh69]
  have sp70 : tw_sp d τ h g τ h69 := by rw [eh69]; exact sp0.mk q66n
  have f71 : h69 it64 = some (.inr (2, [.int 0, .int (-1), .int (g.1 4), .ref lh_12])) := by rw [eh69]; exact tw_up_s
  refine tw_astore [(7, .ref it64), (6, .int 0), (5, .int 0), (4, .int 0), (3, .ref r43), (0, .ref x), (1, .int (nI a)), (2, .int w9)] dX10_ofCountryNow_28 (by decide) rfl ?_
  have L77 : ∀ (r73 j74 : Nat) (l75 : Int32) (x72 : Int32) (h78 : tw_H) (sp79 : tw_sp d τ (tw_rm h69 it64) g τ h78) (ft80 : h78 it64 = some (.inr (2, [.int (nI j74), .int l75, .int (g.1 4), .ref lh_12]))) (zt81 : τ it64 = 0), g.2 4 + 1 ≤ j74 + r73 → j74 ≤ g.2 4 → tw_W d mX10_ofCountryNow (tw_qi (fun r h1 => tw_sp d τ h g τ h1) tw_nx) 30 [(0, .ref x), (1, .int (nI a)), (2, .int w9), (3, .ref r43), (4, .int x72), (5, .int 0), (6, .int 0), (7, .ref it64)] [] h78 2 13 := by
    intro r73
    induction r73 with
    | zero => intro j74 l75 x72 h78 sp79 ft80 zt81 hk82 hk83; exact absurd hk82 (by omega)
    | succ r73 ih76 =>
      intro j74 l75 x72 h78 sp79 ft80 zt81 hk82 hk83
      refine tw_aload 7 dX10_ofCountryNow_30 rfl ?_
      obtain ⟨e84, f85, ⟨el86, rfl, k87⟩, k88⟩ := sp79.1 lh_12 25 k21 (by decide)
      refine tw_bi (tw_callF (M := mX10_ofCountryNow) (pc := 32) (n9 := 0) (ci := 2) tw_hasNext ok_itHas w_1412 w_1410 (fun s H z => z.2.2.2.2.2.2.2.2.1) (by decide +kernel) dX10_ofCountryNow_32 w_1406 rfl ft80 [] [] rfl rfl ⟨by decide, by decide⟩ (Nat.le_of_ble_eq_true rfl) (c_hasNext d h78 it64 lh_12 el86 j74 (g.2 4) l75 (g.1 4) (g.1 4) ft80 f85 (by omega) (tw_lim25 sp79.1 k21)) 2 13 (Nat.le_of_ble_eq_true rfl) (Nat.le_of_ble_eq_true rfl)) (fun r91 h90 q89 => ?_) (fun E h1 q => q.elim)
      obtain ⟨q89e, q89q⟩ := q89
      rw [q89e]
      rcases q89q with ⟨q89r, q89j⟩ | ⟨q89r, q89j⟩
      · rw [q89r]
        refine tw_if_eq 74 dX10_ofCountryNow_37 (by decide) (fun _ => ?_) (fun c92 => absurd (by decide) c92)
        refine tw_iconst (v := 0) dX10_ofCountryNow_74 (by decide) ?_
        refine tw_istore [(7, .int 0), (0, .ref x), (1, .int (nI a)), (2, .int w9), (3, .ref r43), (4, .int x72), (5, .int 0), (6, .int 0)] dX10_ofCountryNow_75 (by decide) rfl ?_
        have L97 : ∀ (r95 k94 : Nat) (x93 : Int32), 5 + 1 ≤ k94 + r95 → k94 ≤ 5 → tw_W d mX10_ofCountryNow (tw_qi (fun r h1 => tw_sp d τ h g τ h1) tw_nx) 77 [(0, .ref x), (1, .int (nI a)), (2, .int w9), (3, .ref r43), (4, .int x72), (5, .int x93), (6, .int 0), (7, .int (nI k94))] [] h78 2 13 := by
          intro r95
          induction r95 with
          | zero => intro k94 x93 hk101 hk102; exact absurd hk101 (by omega)
          | succ r95 ih96 =>
            intro k94 x93 hk101 hk102
            refine tw_iload 7 dX10_ofCountryNow_77 rfl ?_
            refine tw_iconst (v := 5) dX10_ofCountryNow_79 (by decide) ?_
            refine tw_icmp_ge 108 dX10_ofCountryNow_80 (by decide) (fun c103 => ?_) (fun c103 => ?_)
            · refine tw_aload_n 0 dX10_ofCountryNow_108 rfl rfl ?_
              obtain ⟨e104, f105, th_106, td_107, ds_108, fr_109, ca_110, us_111, wo_112, cm_113, lc_114, lh_115, ld_116, rfl, k117, k118, k119, k120, k121, k122, k123, k124, k125, k126, k127, k128, k129, k130, k131, k132, k133, k134, k135, k136, k137, k138⟩ := sp79.1 x 36 kx (by decide)
              refine tw_get (v := .ref lc_114) rfl in_14 9 dX10_ofCountryNow_109 w_1160 rfl (by decide) f105 rfl ?_
              obtain ⟨e139, f140, ⟨el141, rfl, k142⟩, k143⟩ := sp79.1 lc_114 24 k123 (by decide)
              refine tw_br (tw_callV (M := mX10_ofCountryNow) (pc := 112) okJx4a65c_iterator_32c93 dX10_ofCountryNow_112 w_1382 rfl f140 [] [] rfl rfl ⟨by decide, by decide⟩ (Nat.le_of_ble_eq_true rfl) (c_iterator d h78 lc_114 el141 (g.1 3) (nI (g.2 3)) f140) 1 9 (Nat.le_of_ble_eq_true rfl) (Nat.le_of_ble_eq_true rfl)) (fun it144 h145 q146 => ?_) (fun E h1 q => q.elim)
              obtain ⟨q146n, q146e⟩ := q146
              rw [q146e]
              have n147 := sp79.nn q146n
              have z148 := sp79.1.none q146n
              have ne149 := tw_neF ft80 q146n
              obtain ⟨h150, eh150⟩ : ∃ z : tw_H, z = tw_up h78 it144 (.inr (2, [.int 0, .int (-1), .int (g.1 3), .ref lc_114])) := ⟨_, rfl⟩
              rw [← eh150]
              have sp151 : tw_sp d τ (tw_rm h69 it64) g τ h150 := by rw [eh150]; exact sp79.mk q146n
              have f152 : h150 it64 = some (.inr (2, [.int (nI j74), .int l75, .int (g.1 4), .ref lh_12])) := by rw [eh150, tw_up_n ne149]; exact ft80
              have f153 : h150 it144 = some (.inr (2, [.int 0, .int (-1), .int (g.1 3), .ref lc_114])) := by rw [eh150]; exact tw_up_s
              refine tw_astore [(7, .ref it144), (0, .ref x), (1, .int (nI a)), (2, .int w9), (3, .ref r43), (4, .int x72), (5, .int x93), (6, .int 0)] dX10_ofCountryNow_115 (by decide) rfl ?_
              have L159 : ∀ (r155 j156 : Nat) (l157 : Int32) (x154 : Int32) (h160 : tw_H) (sp161 : tw_sp d τ (tw_rm h150 it144) g τ h160) (ft162 : h160 it144 = some (.inr (2, [.int (nI j156), .int l157, .int (g.1 3), .ref lc_114]))) (zt163 : τ it144 = 0), g.2 3 + 1 ≤ j156 + r155 → j156 ≤ g.2 3 → tw_W d mX10_ofCountryNow (tw_qi (fun r h1 => tw_sp d τ h g τ h1) tw_nx) 117 [(0, .ref x), (1, .int (nI a)), (2, .int w9), (3, .ref r43), (4, .int x72), (5, .int x93), (6, .int x154), (7, .ref it144)] [] h160 1 9 := by
                intro r155
                induction r155 with
                | zero => intro j156 l157 x154 h160 sp161 ft162 zt163 hk164 hk165; exact absurd hk164 (by omega)
                | succ r155 ih158 =>
                  intro j156 l157 x154 h160 sp161 ft162 zt163 hk164 hk165
                  have f166 := (sp161.2.2 _ _ (by unfold tw_rm; rw [if_neg ne149]; exact f152) zt81).1
                  have z167 := (sp161.2.2 _ _ (by unfold tw_rm; rw [if_neg ne149]; exact f152) zt81).2
                  refine tw_aload 7 dX10_ofCountryNow_117 rfl ?_
                  obtain ⟨e168, f169, ⟨el170, rfl, k171⟩, k172⟩ := sp161.1 lc_114 24 k123 (by decide)
                  refine tw_bi (tw_callF (M := mX10_ofCountryNow) (pc := 119) (n9 := 0) (ci := 2) tw_hasNext ok_itHas w_1412 w_1410 (fun s H z => z.2.2.2.2.2.2.2.2.1) (by decide +kernel) dX10_ofCountryNow_119 w_1406 rfl ft162 [] [] rfl rfl ⟨by decide, by decide⟩ (Nat.le_of_ble_eq_true rfl) (c_hasNext d h160 it144 lc_114 el170 j156 (g.2 3) l157 (g.1 3) (g.1 3) ft162 f169 (by omega) (tw_lim24 sp161.1 k123)) 1 9 (Nat.le_of_ble_eq_true rfl) (Nat.le_of_ble_eq_true rfl)) (fun r175 h174 q173 => ?_) (fun E h1 q => q.elim)
                  obtain ⟨q173e, q173q⟩ := q173
                  rw [q173e]
                  rcases q173q with ⟨q173r, q173j⟩ | ⟨q173r, q173j⟩
                  · rw [q173r]
                    refine tw_if_eq 164 dX10_ofCountryNow_124 (by decide) (fun _ => ?_) (fun c176 => absurd (by decide) c176)
                    refine tw_bipush (v := 9) dX10_ofCountryNow_164 (by decide) ?_
                    refine tw_newa (a0 := (9, .inr (.inl (fun _ => 0)))) 1 rfl dX10_ofCountryNow_166 rfl w_1150 (fun _ => rfl) (by decide) (by decide) (by decide) 0 0 (Nat.le_of_ble_eq_true rfl) (Nat.le_of_ble_eq_true rfl) (fun q177 hq178 hA179 => ?_)
                    have n180 := sp161.nn hq178
                    have z181 := sp161.1.none hq178
                    have ne182 := tw_neF f166 hq178
                    have ne183 := tw_neF ft162 hq178
                    obtain ⟨h184, eh184⟩ : ∃ z : tw_H, z = tw_up h160 q177 (.inl (d.2 1, 9, .inr (.inl (fun _ => 0)))) := ⟨_, rfl⟩
                    rw [← eh184]
                    have sp185 : tw_sp d τ (tw_rm h150 it144) g τ h184 := by rw [eh184]; exact sp161.mk hq178
                    have f186 : h184 it64 = some (.inr (2, [.int (nI j74), .int l75, .int (g.1 4), .ref lh_12])) := by rw [eh184, tw_up_n ne182]; exact f166
                    have f187 : h184 it144 = some (.inr (2, [.int (nI j156), .int l157, .int (g.1 3), .ref lc_114])) := by rw [eh184, tw_up_n ne183]; exact ft162
                    have f188 : h184 q177 = some (.inl (d.2 1, 9, .inr (.inl (fun _ => 0)))) := by rw [eh184]; exact tw_up_s
                    refine tw_dup dX10_ofCountryNow_168 rfl ?_
                    refine tw_iconst (v := 0) dX10_ofCountryNow_169 (by decide) ?_
                    refine tw_aload_n 3 dX10_ofCountryNow_170 rfl rfl ?_
                    obtain ⟨e189, f190, r_191, c_192, v_193, o_194, t_195, rfl, k196, k197, k198, k199, k200, k201⟩ := sp185.1 r43 21 q41k.1 (by decide)
                    refine tw_get (v := .int r_191) rfl in_11 0 dX10_ofCountryNow_171 w_1214 rfl (by decide) f190 rfl ?_
                    refine tw_i2l dX10_ofCountryNow_174 ?_
                    refine tw_nml (fun v202 ev202 => ?_)
                    refine tw_last dX10_ofCountryNow_175 f188 (vp_in_nI (n := 0) (by decide) (by decide)) ?_
                    obtain ⟨F203, eF203⟩ : ∃ z : Nat → Int64, z = vp_updL (fun _ => 0) (0 : Int32).toNatClampNeg v202 := ⟨_, rfl⟩
                    rw [← eF203]
                    obtain ⟨h204, eh204⟩ : ∃ z : tw_H, z = tw_up h184 q177 (.inl (d.2 1, 9, .inr (.inl F203))) := ⟨_, rfl⟩
                    rw [← eh204]
                    have sp205 : tw_sp d τ (tw_rm h150 it144) g τ h204 := by rw [eh204]; exact sp185.wl n180 z181
                    have f206 : h204 it64 = some (.inr (2, [.int (nI j74), .int l75, .int (g.1 4), .ref lh_12])) := by rw [eh204, tw_up_n ne182]; exact f186
                    have f207 : h204 it144 = some (.inr (2, [.int (nI j156), .int l157, .int (g.1 3), .ref lc_114])) := by rw [eh204, tw_up_n ne183]; exact f187
                    have f208 : h204 q177 = some (.inl (d.2 1, 9, .inr (.inl F203))) := by rw [eh204]; exact tw_up_s
                    refine tw_dup dX10_ofCountryNow_176 rfl ?_
                    refine tw_iconst (v := 1) dX10_ofCountryNow_177 (by decide) ?_
                    refine tw_aload_n 3 dX10_ofCountryNow_178 rfl rfl ?_
                    obtain ⟨e209, f210, r_211, c_212, v_213, o_214, t_215, rfl, k216, k217, k218, k219, k220, k221⟩ := sp205.1 r43 21 q41k.1 (by decide)
                    refine tw_get (v := .int c_212) rfl in_11 1 dX10_ofCountryNow_179 w_1215 rfl (by decide) f210 rfl ?_
                    refine tw_i2l dX10_ofCountryNow_182 ?_
                    refine tw_nml (fun v222 ev222 => ?_)
                    refine tw_last dX10_ofCountryNow_183 f208 (vp_in_nI (n := 1) (by decide) (by decide)) ?_
                    obtain ⟨F223, eF223⟩ : ∃ z : Nat → Int64, z = vp_updL F203 (1 : Int32).toNatClampNeg v222 := ⟨_, rfl⟩
                    rw [← eF223]
                    obtain ⟨h224, eh224⟩ : ∃ z : tw_H, z = tw_up h204 q177 (.inl (d.2 1, 9, .inr (.inl F223))) := ⟨_, rfl⟩
                    rw [← eh224]
                    have sp225 : tw_sp d τ (tw_rm h150 it144) g τ h224 := by rw [eh224]; exact sp205.wl n180 z181
                    have f226 : h224 it64 = some (.inr (2, [.int (nI j74), .int l75, .int (g.1 4), .ref lh_12])) := by rw [eh224, tw_up_n ne182]; exact f206
                    have f227 : h224 it144 = some (.inr (2, [.int (nI j156), .int l157, .int (g.1 3), .ref lc_114])) := by rw [eh224, tw_up_n ne183]; exact f207
                    have f228 : h224 q177 = some (.inl (d.2 1, 9, .inr (.inl F223))) := by rw [eh224]; exact tw_up_s
                    refine tw_dup dX10_ofCountryNow_184 rfl ?_
                    refine tw_iconst (v := 2) dX10_ofCountryNow_185 (by decide) ?_
                    refine tw_aload_n 3 dX10_ofCountryNow_186 rfl rfl ?_
                    obtain ⟨e229, f230, r_231, c_232, v_233, o_234, t_235, rfl, k236, k237, k238, k239, k240, k241⟩ := sp225.1 r43 21 q41k.1 (by decide)
                    refine tw_get (v := .ref v_233) rfl in_11 2 dX10_ofCountryNow_187 w_1217 rfl (by decide) f230 rfl ?_
                    refine tw_iconst (v := 0) dX10_ofCountryNow_190 (by decide) ?_
                    obtain ⟨e242, f243, F244, rfl, pf245⟩ := sp225.1 v_233 31 k236 (by decide)
                    obtain ⟨v246, ev246⟩ : ∃ y : Int64, F244 (0 : Int32).toNatClampNeg = y := ⟨_, rfl⟩
                    refine tw_lald (v := v246) dX10_ofCountryNow_191 f243 (vp_in_nI (n := 0) (by decide) (by decide)) ev246 ?_
                    refine tw_last dX10_ofCountryNow_192 f228 (vp_in_nI (n := 2) (by decide) (by decide)) ?_
                    obtain ⟨F247, eF247⟩ : ∃ z : Nat → Int64, z = vp_updL F223 (2 : Int32).toNatClampNeg v246 := ⟨_, rfl⟩
                    rw [← eF247]
                    obtain ⟨h248, eh248⟩ : ∃ z : tw_H, z = tw_up h224 q177 (.inl (d.2 1, 9, .inr (.inl F247))) := ⟨_, rfl⟩
                    rw [← eh248]
                    have sp249 : tw_sp d τ (tw_rm h150 it144) g τ h248 := by rw [eh248]; exact sp225.wl n180 z181
                    have f250 : h248 it64 = some (.inr (2, [.int (nI j74), .int l75, .int (g.1 4), .ref lh_12])) := by rw [eh248, tw_up_n ne182]; exact f226
                    have f251 : h248 it144 = some (.inr (2, [.int (nI j156), .int l157, .int (g.1 3), .ref lc_114])) := by rw [eh248, tw_up_n ne183]; exact f227
                    have f252 : h248 q177 = some (.inl (d.2 1, 9, .inr (.inl F247))) := by rw [eh248]; exact tw_up_s
                    refine tw_dup dX10_ofCountryNow_193 rfl ?_
                    refine tw_iconst (v := 3) dX10_ofCountryNow_194 (by decide) ?_
                    refine tw_aload_n 3 dX10_ofCountryNow_195 rfl rfl ?_
                    obtain ⟨e253, f254, r_255, c_256, v_257, o_258, t_259, rfl, k260, k261, k262, k263, k264, k265⟩ := sp249.1 r43 21 q41k.1 (by decide)
                    refine tw_get (v := .ref v_257) rfl in_11 2 dX10_ofCountryNow_196 w_1217 rfl (by decide) f254 rfl ?_
                    refine tw_iconst (v := 1) dX10_ofCountryNow_199 (by decide) ?_
                    obtain ⟨e266, f267, F268, rfl, pf269⟩ := sp249.1 v_257 31 k260 (by decide)
                    obtain ⟨v270, ev270⟩ : ∃ y : Int64, F268 (1 : Int32).toNatClampNeg = y := ⟨_, rfl⟩
                    refine tw_lald (v := v270) dX10_ofCountryNow_200 f267 (vp_in_nI (n := 1) (by decide) (by decide)) ev270 ?_
                    refine tw_last dX10_ofCountryNow_201 f252 (vp_in_nI (n := 3) (by decide) (by decide)) ?_
                    obtain ⟨F271, eF271⟩ : ∃ z : Nat → Int64, z = vp_updL F247 (3 : Int32).toNatClampNeg v270 := ⟨_, rfl⟩
                    rw [← eF271]
                    obtain ⟨h272, eh272⟩ : ∃ z : tw_H, z = tw_up h248 q177 (.inl (d.2 1, 9, .inr (.inl F271))) := ⟨_, rfl⟩
                    rw [← eh272]
                    have sp273 : tw_sp d τ (tw_rm h150 it144) g τ h272 := by rw [eh272]; exact sp249.wl n180 z181
                    have f274 : h272 it64 = some (.inr (2, [.int (nI j74), .int l75, .int (g.1 4), .ref lh_12])) := by rw [eh272, tw_up_n ne182]; exact f250
                    have f275 : h272 it144 = some (.inr (2, [.int (nI j156), .int l157, .int (g.1 3), .ref lc_114])) := by rw [eh272, tw_up_n ne183]; exact f251
                    have f276 : h272 q177 = some (.inl (d.2 1, 9, .inr (.inl F271))) := by rw [eh272]; exact tw_up_s
                    refine tw_dup dX10_ofCountryNow_202 rfl ?_
                    refine tw_iconst (v := 4) dX10_ofCountryNow_203 (by decide) ?_
                    refine tw_aload_n 3 dX10_ofCountryNow_204 rfl rfl ?_
                    obtain ⟨e277, f278, r_279, c_280, v_281, o_282, t_283, rfl, k284, k285, k286, k287, k288, k289⟩ := sp273.1 r43 21 q41k.1 (by decide)
                    refine tw_get (v := .ref o_282) rfl in_11 3 dX10_ofCountryNow_205 w_1219 rfl (by decide) f278 rfl ?_
                    refine tw_iconst (v := 0) dX10_ofCountryNow_208 (by decide) ?_
                    obtain ⟨e290, f291, F292, rfl, k294, pf293⟩ := sp273.1 o_282 32 k285 (by decide)
                    obtain ⟨v295, ev295⟩ : ∃ y : Int32, F292 (0 : Int32).toNatClampNeg = y := ⟨_, rfl⟩
                    refine tw_zald (v := v295) dX10_ofCountryNow_209 f291 (vp_in_nI (n := 0) (by decide) (by decide)) ev295 ?_
                    refine tw_if_eq 217 dX10_ofCountryNow_210 (by decide) (fun c296 => ?_) (fun c296 => ?_)
                    · refine tw_iconst (v := 0) dX10_ofCountryNow_217 (by decide) ?_
                      refine tw_aload_n 3 dX10_ofCountryNow_218 rfl rfl ?_
                      refine tw_get (v := .ref o_282) rfl in_11 3 dX10_ofCountryNow_219 w_1219 rfl (by decide) f278 rfl ?_
                      refine tw_iconst (v := 1) dX10_ofCountryNow_222 (by decide) ?_
                      obtain ⟨v297, ev297⟩ : ∃ y : Int32, F292 (1 : Int32).toNatClampNeg = y := ⟨_, rfl⟩
                      refine tw_zald (v := v297) dX10_ofCountryNow_223 f291 (vp_in_nI (n := 1) (by decide) (by decide)) ev297 ?_
                      refine tw_if_eq 231 dX10_ofCountryNow_224 (by decide) (fun c298 => ?_) (fun c298 => ?_)
                      · refine tw_iconst (v := 0) dX10_ofCountryNow_231 (by decide) ?_
                        refine tw_iadd dX10_ofCountryNow_232 ?_
                        refine tw_nmi (fun v299 ev299 => ?_)
                        refine tw_i2l dX10_ofCountryNow_233 ?_
                        refine tw_nml (fun v300 ev300 => ?_)
                        refine tw_last dX10_ofCountryNow_234 f276 (vp_in_nI (n := 4) (by decide) (by decide)) ?_
                        obtain ⟨F301, eF301⟩ : ∃ z : Nat → Int64, z = vp_updL F271 (4 : Int32).toNatClampNeg v300 := ⟨_, rfl⟩
                        rw [← eF301]
                        obtain ⟨h302, eh302⟩ : ∃ z : tw_H, z = tw_up h272 q177 (.inl (d.2 1, 9, .inr (.inl F301))) := ⟨_, rfl⟩
                        rw [← eh302]
                        have sp303 : tw_sp d τ (tw_rm h150 it144) g τ h302 := by rw [eh302]; exact sp273.wl n180 z181
                        have f304 : h302 it64 = some (.inr (2, [.int (nI j74), .int l75, .int (g.1 4), .ref lh_12])) := by rw [eh302, tw_up_n ne182]; exact f274
                        have f305 : h302 it144 = some (.inr (2, [.int (nI j156), .int l157, .int (g.1 3), .ref lc_114])) := by rw [eh302, tw_up_n ne183]; exact f275
                        have f306 : h302 q177 = some (.inl (d.2 1, 9, .inr (.inl F301))) := by rw [eh302]; exact tw_up_s
                        refine tw_dup dX10_ofCountryNow_235 rfl ?_
                        refine tw_iconst (v := 5) dX10_ofCountryNow_236 (by decide) ?_
                        refine tw_iload 4 dX10_ofCountryNow_237 rfl ?_
                        refine tw_i2l dX10_ofCountryNow_239 ?_
                        refine tw_nml (fun v307 ev307 => ?_)
                        refine tw_last dX10_ofCountryNow_240 f306 (vp_in_nI (n := 5) (by decide) (by decide)) ?_
                        obtain ⟨F308, eF308⟩ : ∃ z : Nat → Int64, z = vp_updL F301 (5 : Int32).toNatClampNeg v307 := ⟨_, rfl⟩
                        rw [← eF308]
                        obtain ⟨h309, eh309⟩ : ∃ z : tw_H, z = tw_up h302 q177 (.inl (d.2 1, 9, .inr (.inl F308))) := ⟨_, rfl⟩
                        rw [← eh309]
                        have sp310 : tw_sp d τ (tw_rm h150 it144) g τ h309 := by rw [eh309]; exact sp303.wl n180 z181
                        have f311 : h309 it64 = some (.inr (2, [.int (nI j74), .int l75, .int (g.1 4), .ref lh_12])) := by rw [eh309, tw_up_n ne182]; exact f304
                        have f312 : h309 it144 = some (.inr (2, [.int (nI j156), .int l157, .int (g.1 3), .ref lc_114])) := by rw [eh309, tw_up_n ne183]; exact f305
                        have f313 : h309 q177 = some (.inl (d.2 1, 9, .inr (.inl F308))) := by rw [eh309]; exact tw_up_s
                        refine tw_dup dX10_ofCountryNow_241 rfl ?_
                        refine tw_bipush (v := 6) dX10_ofCountryNow_242 (by decide) ?_
                        refine tw_aload_n 0 dX10_ofCountryNow_244 rfl rfl ?_
                        refine tw_aload_n 3 dX10_ofCountryNow_245 rfl rfl ?_
                        obtain ⟨e314, f315, r_316, c_317, v_318, o_319, t_320, rfl, k321, k322, k323, k324, k325, k326⟩ := sp310.1 r43 21 q41k.1 (by decide)
                        refine tw_get (v := .ref v_318) rfl in_11 2 dX10_ofCountryNow_246 w_1217 rfl (by decide) f315 rfl ?_
                        obtain ⟨e327, f328, th_329, td_330, ds_331, fr_332, ca_333, us_334, wo_335, cm_336, lc_337, lh_338, ld_339, rfl, k340, k341, k342, k343, k344, k345, k346, k347, k348, k349, k350, k351, k352, k353, k354, k355, k356, k357, k358, k359, k360, k361⟩ := sp310.1 x 36 kx (by decide)
                        refine tw_bl (tw_callV (M := mX10_ofCountryNow) (pc := 249) okX10_worth dX10_ofCountryNow_249 w_1505 rfl f328 [.ref v_318] [.int 6, .ref q177, .ref q177] rfl rfl ⟨by decide, by decide⟩ (Nat.le_of_ble_eq_true rfl) (c_X10_worth d g τ h309 sp310.1 x kx v_318 k321) 0 0 (Nat.le_of_ble_eq_true rfl) (Nat.le_of_ble_eq_true rfl)) (fun r364 h363 q362 => ?_) (fun E h1 q => q.elim)
                        rw [q362]
                        refine tw_last dX10_ofCountryNow_252 f313 (vp_in_nI (n := 6) (by decide) (by decide)) ?_
                        obtain ⟨F365, eF365⟩ : ∃ z : Nat → Int64, z = vp_updL F308 (6 : Int32).toNatClampNeg r364 := ⟨_, rfl⟩
                        rw [← eF365]
                        obtain ⟨h366, eh366⟩ : ∃ z : tw_H, z = tw_up h309 q177 (.inl (d.2 1, 9, .inr (.inl F365))) := ⟨_, rfl⟩
                        rw [← eh366]
                        have sp367 : tw_sp d τ (tw_rm h150 it144) g τ h366 := by rw [eh366]; exact sp310.wl n180 z181
                        have f368 : h366 it64 = some (.inr (2, [.int (nI j74), .int l75, .int (g.1 4), .ref lh_12])) := by rw [eh366, tw_up_n ne182]; exact f311
                        have f369 : h366 it144 = some (.inr (2, [.int (nI j156), .int l157, .int (g.1 3), .ref lc_114])) := by rw [eh366, tw_up_n ne183]; exact f312
                        have f370 : h366 q177 = some (.inl (d.2 1, 9, .inr (.inl F365))) := by rw [eh366]; exact tw_up_s
                        refine tw_dup dX10_ofCountryNow_253 rfl ?_
                        refine tw_bipush (v := 7) dX10_ofCountryNow_254 (by decide) ?_
                        refine tw_iload 5 dX10_ofCountryNow_256 rfl ?_
                        refine tw_i2l dX10_ofCountryNow_258 ?_
                        refine tw_nml (fun v371 ev371 => ?_)
                        refine tw_last dX10_ofCountryNow_259 f370 (vp_in_nI (n := 7) (by decide) (by decide)) ?_
                        obtain ⟨F372, eF372⟩ : ∃ z : Nat → Int64, z = vp_updL F365 (7 : Int32).toNatClampNeg v371 := ⟨_, rfl⟩
                        rw [← eF372]
                        obtain ⟨h373, eh373⟩ : ∃ z : tw_H, z = tw_up h366 q177 (.inl (d.2 1, 9, .inr (.inl F372))) := ⟨_, rfl⟩
                        rw [← eh373]
                        have sp374 : tw_sp d τ (tw_rm h150 it144) g τ h373 := by rw [eh373]; exact sp367.wl n180 z181
                        have f375 : h373 it64 = some (.inr (2, [.int (nI j74), .int l75, .int (g.1 4), .ref lh_12])) := by rw [eh373, tw_up_n ne182]; exact f368
                        have f376 : h373 it144 = some (.inr (2, [.int (nI j156), .int l157, .int (g.1 3), .ref lc_114])) := by rw [eh373, tw_up_n ne183]; exact f369
                        have f377 : h373 q177 = some (.inl (d.2 1, 9, .inr (.inl F372))) := by rw [eh373]; exact tw_up_s
                        refine tw_dup dX10_ofCountryNow_260 rfl ?_
                        refine tw_bipush (v := 8) dX10_ofCountryNow_261 (by decide) ?_
                        refine tw_iload 6 dX10_ofCountryNow_263 rfl ?_
                        refine tw_i2l dX10_ofCountryNow_265 ?_
                        refine tw_nml (fun v378 ev378 => ?_)
                        refine tw_last dX10_ofCountryNow_266 f377 (vp_in_nI (n := 8) (by decide) (by decide)) ?_
                        obtain ⟨F379, eF379⟩ : ∃ z : Nat → Int64, z = vp_updL F372 (8 : Int32).toNatClampNeg v378 := ⟨_, rfl⟩
                        rw [← eF379]
                        obtain ⟨h380, eh380⟩ : ∃ z : tw_H, z = tw_up h373 q177 (.inl (d.2 1, 9, .inr (.inl F379))) := ⟨_, rfl⟩
                        rw [← eh380]
                        have sp381 : tw_sp d τ (tw_rm h150 it144) g τ h380 := by rw [eh380]; exact sp374.wl n180 z181
                        have f382 : h380 it64 = some (.inr (2, [.int (nI j74), .int l75, .int (g.1 4), .ref lh_12])) := by rw [eh380, tw_up_n ne182]; exact f375
                        have f383 : h380 it144 = some (.inr (2, [.int (nI j156), .int l157, .int (g.1 3), .ref lc_114])) := by rw [eh380, tw_up_n ne183]; exact f376
                        have f384 : h380 q177 = some (.inl (d.2 1, 9, .inr (.inl F379))) := by rw [eh380]; exact tw_up_s
                        refine tw_astore [(7, .ref q177), (0, .ref x), (1, .int (nI a)), (2, .int w9), (3, .ref r43), (4, .int x72), (5, .int x93), (6, .int x154)] dX10_ofCountryNow_267 (by decide) rfl ?_
                        refine tw_aload 0 dX10_ofCountryNow_269 rfl ?_
                        refine tw_iload_n 3 dX10_ofCountryNow_271 rfl rfl ?_
                        obtain ⟨v385, ev385⟩ : ∃ y : Int64, F379 (w9).toNatClampNeg = y := ⟨_, rfl⟩
                        refine tw_lald (v := v385) dX10_ofCountryNow_272 f384 hw9 ev385 ?_
                        refine tw_l2i dX10_ofCountryNow_273 ?_
                        refine tw_nmi (fun v386 ev386 => ?_)
                        exact tw_iret dX10_ofCountryNow_274 rfl (Or.inl ⟨_, rfl, (sp70.trm n67 (sp151.trm n147 sp381))⟩)
                      · refine tw_iconst (v := 2) dX10_ofCountryNow_227 (by decide) ?_
                        refine tw_goto 232 dX10_ofCountryNow_228 (by decide) ?_
                        refine tw_iadd dX10_ofCountryNow_232 ?_
                        refine tw_nmi (fun v387 ev387 => ?_)
                        refine tw_i2l dX10_ofCountryNow_233 ?_
                        refine tw_nml (fun v388 ev388 => ?_)
                        refine tw_last dX10_ofCountryNow_234 f276 (vp_in_nI (n := 4) (by decide) (by decide)) ?_
                        obtain ⟨F389, eF389⟩ : ∃ z : Nat → Int64, z = vp_updL F271 (4 : Int32).toNatClampNeg v388 := ⟨_, rfl⟩
                        rw [← eF389]
                        obtain ⟨h390, eh390⟩ : ∃ z : tw_H, z = tw_up h272 q177 (.inl (d.2 1, 9, .inr (.inl F389))) := ⟨_, rfl⟩
                        rw [← eh390]
                        have sp391 : tw_sp d τ (tw_rm h150 it144) g τ h390 := by rw [eh390]; exact sp273.wl n180 z181
                        have f392 : h390 it64 = some (.inr (2, [.int (nI j74), .int l75, .int (g.1 4), .ref lh_12])) := by rw [eh390, tw_up_n ne182]; exact f274
                        have f393 : h390 it144 = some (.inr (2, [.int (nI j156), .int l157, .int (g.1 3), .ref lc_114])) := by rw [eh390, tw_up_n ne183]; exact f275
                        have f394 : h390 q177 = some (.inl (d.2 1, 9, .inr (.inl F389))) := by rw [eh390]; exact tw_up_s
                        refine tw_dup dX10_ofCountryNow_235 rfl ?_
                        refine tw_iconst (v := 5) dX10_ofCountryNow_236 (by decide) ?_
                        refine tw_iload 4 dX10_ofCountryNow_237 rfl ?_
                        refine tw_i2l dX10_ofCountryNow_239 ?_
                        refine tw_nml (fun v395 ev395 => ?_)
                        refine tw_last dX10_ofCountryNow_240 f394 (vp_in_nI (n := 5) (by decide) (by decide)) ?_
                        obtain ⟨F396, eF396⟩ : ∃ z : Nat → Int64, z = vp_updL F389 (5 : Int32).toNatClampNeg v395 := ⟨_, rfl⟩
                        rw [← eF396]
                        obtain ⟨h397, eh397⟩ : ∃ z : tw_H, z = tw_up h390 q177 (.inl (d.2 1, 9, .inr (.inl F396))) := ⟨_, rfl⟩
                        rw [← eh397]
                        have sp398 : tw_sp d τ (tw_rm h150 it144) g τ h397 := by rw [eh397]; exact sp391.wl n180 z181
                        have f399 : h397 it64 = some (.inr (2, [.int (nI j74), .int l75, .int (g.1 4), .ref lh_12])) := by rw [eh397, tw_up_n ne182]; exact f392
                        have f400 : h397 it144 = some (.inr (2, [.int (nI j156), .int l157, .int (g.1 3), .ref lc_114])) := by rw [eh397, tw_up_n ne183]; exact f393
                        have f401 : h397 q177 = some (.inl (d.2 1, 9, .inr (.inl F396))) := by rw [eh397]; exact tw_up_s
                        refine tw_dup dX10_ofCountryNow_241 rfl ?_
                        refine tw_bipush (v := 6) dX10_ofCountryNow_242 (by decide) ?_
                        refine tw_aload_n 0 dX10_ofCountryNow_244 rfl rfl ?_
                        refine tw_aload_n 3 dX10_ofCountryNow_245 rfl rfl ?_
                        obtain ⟨e402, f403, r_404, c_405, v_406, o_407, t_408, rfl, k409, k410, k411, k412, k413, k414⟩ := sp398.1 r43 21 q41k.1 (by decide)
                        refine tw_get (v := .ref v_406) rfl in_11 2 dX10_ofCountryNow_246 w_1217 rfl (by decide) f403 rfl ?_
                        obtain ⟨e415, f416, th_417, td_418, ds_419, fr_420, ca_421, us_422, wo_423, cm_424, lc_425, lh_426, ld_427, rfl, k428, k429, k430, k431, k432, k433, k434, k435, k436, k437, k438, k439, k440, k441, k442, k443, k444, k445, k446, k447, k448, k449⟩ := sp398.1 x 36 kx (by decide)
                        refine tw_bl (tw_callV (M := mX10_ofCountryNow) (pc := 249) okX10_worth dX10_ofCountryNow_249 w_1505 rfl f416 [.ref v_406] [.int 6, .ref q177, .ref q177] rfl rfl ⟨by decide, by decide⟩ (Nat.le_of_ble_eq_true rfl) (c_X10_worth d g τ h397 sp398.1 x kx v_406 k409) 0 0 (Nat.le_of_ble_eq_true rfl) (Nat.le_of_ble_eq_true rfl)) (fun r452 h451 q450 => ?_) (fun E h1 q => q.elim)
                        rw [q450]
                        refine tw_last dX10_ofCountryNow_252 f401 (vp_in_nI (n := 6) (by decide) (by decide)) ?_
                        obtain ⟨F453, eF453⟩ : ∃ z : Nat → Int64, z = vp_updL F396 (6 : Int32).toNatClampNeg r452 := ⟨_, rfl⟩
                        rw [← eF453]
                        obtain ⟨h454, eh454⟩ : ∃ z : tw_H, z = tw_up h397 q177 (.inl (d.2 1, 9, .inr (.inl F453))) := ⟨_, rfl⟩
                        rw [← eh454]
                        have sp455 : tw_sp d τ (tw_rm h150 it144) g τ h454 := by rw [eh454]; exact sp398.wl n180 z181
                        have f456 : h454 it64 = some (.inr (2, [.int (nI j74), .int l75, .int (g.1 4), .ref lh_12])) := by rw [eh454, tw_up_n ne182]; exact f399
                        have f457 : h454 it144 = some (.inr (2, [.int (nI j156), .int l157, .int (g.1 3), .ref lc_114])) := by rw [eh454, tw_up_n ne183]; exact f400
                        have f458 : h454 q177 = some (.inl (d.2 1, 9, .inr (.inl F453))) := by rw [eh454]; exact tw_up_s
                        refine tw_dup dX10_ofCountryNow_253 rfl ?_
                        refine tw_bipush (v := 7) dX10_ofCountryNow_254 (by decide) ?_
                        refine tw_iload 5 dX10_ofCountryNow_256 rfl ?_
                        refine tw_i2l dX10_ofCountryNow_258 ?_
                        refine tw_nml (fun v459 ev459 => ?_)
                        refine tw_last dX10_ofCountryNow_259 f458 (vp_in_nI (n := 7) (by decide) (by decide)) ?_
                        obtain ⟨F460, eF460⟩ : ∃ z : Nat → Int64, z = vp_updL F453 (7 : Int32).toNatClampNeg v459 := ⟨_, rfl⟩
                        rw [← eF460]
                        obtain ⟨h461, eh461⟩ : ∃ z : tw_H, z = tw_up h454 q177 (.inl (d.2 1, 9, .inr (.inl F460))) := ⟨_, rfl⟩
                        rw [← eh461]
                        have sp462 : tw_sp d τ (tw_rm h150 it144) g τ h461 := by rw [eh461]; exact sp455.wl n180 z181
                        have f463 : h461 it64 = some (.inr (2, [.int (nI j74), .int l75, .int (g.1 4), .ref lh_12])) := by rw [eh461, tw_up_n ne182]; exact f456
                        have f464 : h461 it144 = some (.inr (2, [.int (nI j156), .int l157, .int (g.1 3), .ref lc_114])) := by rw [eh461, tw_up_n ne183]; exact f457
                        have f465 : h461 q177 = some (.inl (d.2 1, 9, .inr (.inl F460))) := by rw [eh461]; exact tw_up_s
                        refine tw_dup dX10_ofCountryNow_260 rfl ?_
                        refine tw_bipush (v := 8) dX10_ofCountryNow_261 (by decide) ?_
                        refine tw_iload 6 dX10_ofCountryNow_263 rfl ?_
                        refine tw_i2l dX10_ofCountryNow_265 ?_
                        refine tw_nml (fun v466 ev466 => ?_)
                        refine tw_last dX10_ofCountryNow_266 f465 (vp_in_nI (n := 8) (by decide) (by decide)) ?_
                        obtain ⟨F467, eF467⟩ : ∃ z : Nat → Int64, z = vp_updL F460 (8 : Int32).toNatClampNeg v466 := ⟨_, rfl⟩
                        rw [← eF467]
                        obtain ⟨h468, eh468⟩ : ∃ z : tw_H, z = tw_up h461 q177 (.inl (d.2 1, 9, .inr (.inl F467))) := ⟨_, rfl⟩
                        rw [← eh468]
                        have sp469 : tw_sp d τ (tw_rm h150 it144) g τ h468 := by rw [eh468]; exact sp462.wl n180 z181
                        have f470 : h468 it64 = some (.inr (2, [.int (nI j74), .int l75, .int (g.1 4), .ref lh_12])) := by rw [eh468, tw_up_n ne182]; exact f463
                        have f471 : h468 it144 = some (.inr (2, [.int (nI j156), .int l157, .int (g.1 3), .ref lc_114])) := by rw [eh468, tw_up_n ne183]; exact f464
                        have f472 : h468 q177 = some (.inl (d.2 1, 9, .inr (.inl F467))) := by rw [eh468]; exact tw_up_s
                        refine tw_astore [(7, .ref q177), (0, .ref x), (1, .int (nI a)), (2, .int w9), (3, .ref r43), (4, .int x72), (5, .int x93), (6, .int x154)] dX10_ofCountryNow_267 (by decide) rfl ?_
                        refine tw_aload 0 dX10_ofCountryNow_269 rfl ?_
                        refine tw_iload_n 3 dX10_ofCountryNow_271 rfl rfl ?_
                        obtain ⟨v473, ev473⟩ : ∃ y : Int64, F467 (w9).toNatClampNeg = y := ⟨_, rfl⟩
                        refine tw_lald (v := v473) dX10_ofCountryNow_272 f472 hw9 ev473 ?_
                        refine tw_l2i dX10_ofCountryNow_273 ?_
                        refine tw_nmi (fun v474 ev474 => ?_)
                        exact tw_iret dX10_ofCountryNow_274 rfl (Or.inl ⟨_, rfl, (sp70.trm n67 (sp151.trm n147 sp469))⟩)
                    · refine tw_iconst (v := 1) dX10_ofCountryNow_213 (by decide) ?_
                      refine tw_goto 218 dX10_ofCountryNow_214 (by decide) ?_
                      refine tw_aload_n 3 dX10_ofCountryNow_218 rfl rfl ?_
                      refine tw_get (v := .ref o_282) rfl in_11 3 dX10_ofCountryNow_219 w_1219 rfl (by decide) f278 rfl ?_
                      refine tw_iconst (v := 1) dX10_ofCountryNow_222 (by decide) ?_
                      obtain ⟨v475, ev475⟩ : ∃ y : Int32, F292 (1 : Int32).toNatClampNeg = y := ⟨_, rfl⟩
                      refine tw_zald (v := v475) dX10_ofCountryNow_223 f291 (vp_in_nI (n := 1) (by decide) (by decide)) ev475 ?_
                      refine tw_if_eq 231 dX10_ofCountryNow_224 (by decide) (fun c476 => ?_) (fun c476 => ?_)
                      · refine tw_iconst (v := 0) dX10_ofCountryNow_231 (by decide) ?_
                        refine tw_iadd dX10_ofCountryNow_232 ?_
                        refine tw_nmi (fun v477 ev477 => ?_)
                        refine tw_i2l dX10_ofCountryNow_233 ?_
                        refine tw_nml (fun v478 ev478 => ?_)
                        refine tw_last dX10_ofCountryNow_234 f276 (vp_in_nI (n := 4) (by decide) (by decide)) ?_
                        obtain ⟨F479, eF479⟩ : ∃ z : Nat → Int64, z = vp_updL F271 (4 : Int32).toNatClampNeg v478 := ⟨_, rfl⟩
                        rw [← eF479]
                        obtain ⟨h480, eh480⟩ : ∃ z : tw_H, z = tw_up h272 q177 (.inl (d.2 1, 9, .inr (.inl F479))) := ⟨_, rfl⟩
                        rw [← eh480]
                        have sp481 : tw_sp d τ (tw_rm h150 it144) g τ h480 := by rw [eh480]; exact sp273.wl n180 z181
                        have f482 : h480 it64 = some (.inr (2, [.int (nI j74), .int l75, .int (g.1 4), .ref lh_12])) := by rw [eh480, tw_up_n ne182]; exact f274
                        have f483 : h480 it144 = some (.inr (2, [.int (nI j156), .int l157, .int (g.1 3), .ref lc_114])) := by rw [eh480, tw_up_n ne183]; exact f275
                        have f484 : h480 q177 = some (.inl (d.2 1, 9, .inr (.inl F479))) := by rw [eh480]; exact tw_up_s
                        refine tw_dup dX10_ofCountryNow_235 rfl ?_
                        refine tw_iconst (v := 5) dX10_ofCountryNow_236 (by decide) ?_
                        refine tw_iload 4 dX10_ofCountryNow_237 rfl ?_
                        refine tw_i2l dX10_ofCountryNow_239 ?_
                        refine tw_nml (fun v485 ev485 => ?_)
                        refine tw_last dX10_ofCountryNow_240 f484 (vp_in_nI (n := 5) (by decide) (by decide)) ?_
                        obtain ⟨F486, eF486⟩ : ∃ z : Nat → Int64, z = vp_updL F479 (5 : Int32).toNatClampNeg v485 := ⟨_, rfl⟩
                        rw [← eF486]
                        obtain ⟨h487, eh487⟩ : ∃ z : tw_H, z = tw_up h480 q177 (.inl (d.2 1, 9, .inr (.inl F486))) := ⟨_, rfl⟩
                        rw [← eh487]
                        have sp488 : tw_sp d τ (tw_rm h150 it144) g τ h487 := by rw [eh487]; exact sp481.wl n180 z181
                        have f489 : h487 it64 = some (.inr (2, [.int (nI j74), .int l75, .int (g.1 4), .ref lh_12])) := by rw [eh487, tw_up_n ne182]; exact f482
                        have f490 : h487 it144 = some (.inr (2, [.int (nI j156), .int l157, .int (g.1 3), .ref lc_114])) := by rw [eh487, tw_up_n ne183]; exact f483
                        have f491 : h487 q177 = some (.inl (d.2 1, 9, .inr (.inl F486))) := by rw [eh487]; exact tw_up_s
                        refine tw_dup dX10_ofCountryNow_241 rfl ?_
                        refine tw_bipush (v := 6) dX10_ofCountryNow_242 (by decide) ?_
                        refine tw_aload_n 0 dX10_ofCountryNow_244 rfl rfl ?_
                        refine tw_aload_n 3 dX10_ofCountryNow_245 rfl rfl ?_
                        obtain ⟨e492, f493, r_494, c_495, v_496, o_497, t_498, rfl, k499, k500, k501, k502, k503, k504⟩ := sp488.1 r43 21 q41k.1 (by decide)
                        refine tw_get (v := .ref v_496) rfl in_11 2 dX10_ofCountryNow_246 w_1217 rfl (by decide) f493 rfl ?_
                        obtain ⟨e505, f506, th_507, td_508, ds_509, fr_510, ca_511, us_512, wo_513, cm_514, lc_515, lh_516, ld_517, rfl, k518, k519, k520, k521, k522, k523, k524, k525, k526, k527, k528, k529, k530, k531, k532, k533, k534, k535, k536, k537, k538, k539⟩ := sp488.1 x 36 kx (by decide)
                        refine tw_bl (tw_callV (M := mX10_ofCountryNow) (pc := 249) okX10_worth dX10_ofCountryNow_249 w_1505 rfl f506 [.ref v_496] [.int 6, .ref q177, .ref q177] rfl rfl ⟨by decide, by decide⟩ (Nat.le_of_ble_eq_true rfl) (c_X10_worth d g τ h487 sp488.1 x kx v_496 k499) 0 0 (Nat.le_of_ble_eq_true rfl) (Nat.le_of_ble_eq_true rfl)) (fun r542 h541 q540 => ?_) (fun E h1 q => q.elim)
                        rw [q540]
                        refine tw_last dX10_ofCountryNow_252 f491 (vp_in_nI (n := 6) (by decide) (by decide)) ?_
                        obtain ⟨F543, eF543⟩ : ∃ z : Nat → Int64, z = vp_updL F486 (6 : Int32).toNatClampNeg r542 := ⟨_, rfl⟩
                        rw [← eF543]
                        obtain ⟨h544, eh544⟩ : ∃ z : tw_H, z = tw_up h487 q177 (.inl (d.2 1, 9, .inr (.inl F543))) := ⟨_, rfl⟩
                        rw [← eh544]
                        have sp545 : tw_sp d τ (tw_rm h150 it144) g τ h544 := by rw [eh544]; exact sp488.wl n180 z181
                        have f546 : h544 it64 = some (.inr (2, [.int (nI j74), .int l75, .int (g.1 4), .ref lh_12])) := by rw [eh544, tw_up_n ne182]; exact f489
                        have f547 : h544 it144 = some (.inr (2, [.int (nI j156), .int l157, .int (g.1 3), .ref lc_114])) := by rw [eh544, tw_up_n ne183]; exact f490
                        have f548 : h544 q177 = some (.inl (d.2 1, 9, .inr (.inl F543))) := by rw [eh544]; exact tw_up_s
                        refine tw_dup dX10_ofCountryNow_253 rfl ?_
                        refine tw_bipush (v := 7) dX10_ofCountryNow_254 (by decide) ?_
                        refine tw_iload 5 dX10_ofCountryNow_256 rfl ?_
                        refine tw_i2l dX10_ofCountryNow_258 ?_
                        refine tw_nml (fun v549 ev549 => ?_)
                        refine tw_last dX10_ofCountryNow_259 f548 (vp_in_nI (n := 7) (by decide) (by decide)) ?_
                        obtain ⟨F550, eF550⟩ : ∃ z : Nat → Int64, z = vp_updL F543 (7 : Int32).toNatClampNeg v549 := ⟨_, rfl⟩
                        rw [← eF550]
                        obtain ⟨h551, eh551⟩ : ∃ z : tw_H, z = tw_up h544 q177 (.inl (d.2 1, 9, .inr (.inl F550))) := ⟨_, rfl⟩
                        rw [← eh551]
                        have sp552 : tw_sp d τ (tw_rm h150 it144) g τ h551 := by rw [eh551]; exact sp545.wl n180 z181
                        have f553 : h551 it64 = some (.inr (2, [.int (nI j74), .int l75, .int (g.1 4), .ref lh_12])) := by rw [eh551, tw_up_n ne182]; exact f546
                        have f554 : h551 it144 = some (.inr (2, [.int (nI j156), .int l157, .int (g.1 3), .ref lc_114])) := by rw [eh551, tw_up_n ne183]; exact f547
                        have f555 : h551 q177 = some (.inl (d.2 1, 9, .inr (.inl F550))) := by rw [eh551]; exact tw_up_s
                        refine tw_dup dX10_ofCountryNow_260 rfl ?_
                        refine tw_bipush (v := 8) dX10_ofCountryNow_261 (by decide) ?_
                        refine tw_iload 6 dX10_ofCountryNow_263 rfl ?_
                        refine tw_i2l dX10_ofCountryNow_265 ?_
                        refine tw_nml (fun v556 ev556 => ?_)
                        refine tw_last dX10_ofCountryNow_266 f555 (vp_in_nI (n := 8) (by decide) (by decide)) ?_
                        obtain ⟨F557, eF557⟩ : ∃ z : Nat → Int64, z = vp_updL F550 (8 : Int32).toNatClampNeg v556 := ⟨_, rfl⟩
                        rw [← eF557]
                        obtain ⟨h558, eh558⟩ : ∃ z : tw_H, z = tw_up h551 q177 (.inl (d.2 1, 9, .inr (.inl F557))) := ⟨_, rfl⟩
                        rw [← eh558]
                        have sp559 : tw_sp d τ (tw_rm h150 it144) g τ h558 := by rw [eh558]; exact sp552.wl n180 z181
                        have f560 : h558 it64 = some (.inr (2, [.int (nI j74), .int l75, .int (g.1 4), .ref lh_12])) := by rw [eh558, tw_up_n ne182]; exact f553
                        have f561 : h558 it144 = some (.inr (2, [.int (nI j156), .int l157, .int (g.1 3), .ref lc_114])) := by rw [eh558, tw_up_n ne183]; exact f554
                        have f562 : h558 q177 = some (.inl (d.2 1, 9, .inr (.inl F557))) := by rw [eh558]; exact tw_up_s
                        refine tw_astore [(7, .ref q177), (0, .ref x), (1, .int (nI a)), (2, .int w9), (3, .ref r43), (4, .int x72), (5, .int x93), (6, .int x154)] dX10_ofCountryNow_267 (by decide) rfl ?_
                        refine tw_aload 0 dX10_ofCountryNow_269 rfl ?_
                        refine tw_iload_n 3 dX10_ofCountryNow_271 rfl rfl ?_
                        obtain ⟨v563, ev563⟩ : ∃ y : Int64, F557 (w9).toNatClampNeg = y := ⟨_, rfl⟩
                        refine tw_lald (v := v563) dX10_ofCountryNow_272 f562 hw9 ev563 ?_
                        refine tw_l2i dX10_ofCountryNow_273 ?_
                        refine tw_nmi (fun v564 ev564 => ?_)
                        exact tw_iret dX10_ofCountryNow_274 rfl (Or.inl ⟨_, rfl, (sp70.trm n67 (sp151.trm n147 sp559))⟩)
                      · refine tw_iconst (v := 2) dX10_ofCountryNow_227 (by decide) ?_
                        refine tw_goto 232 dX10_ofCountryNow_228 (by decide) ?_
                        refine tw_iadd dX10_ofCountryNow_232 ?_
                        refine tw_nmi (fun v565 ev565 => ?_)
                        refine tw_i2l dX10_ofCountryNow_233 ?_
                        refine tw_nml (fun v566 ev566 => ?_)
                        refine tw_last dX10_ofCountryNow_234 f276 (vp_in_nI (n := 4) (by decide) (by decide)) ?_
                        obtain ⟨F567, eF567⟩ : ∃ z : Nat → Int64, z = vp_updL F271 (4 : Int32).toNatClampNeg v566 := ⟨_, rfl⟩
                        rw [← eF567]
                        obtain ⟨h568, eh568⟩ : ∃ z : tw_H, z = tw_up h272 q177 (.inl (d.2 1, 9, .inr (.inl F567))) := ⟨_, rfl⟩
                        rw [← eh568]
                        have sp569 : tw_sp d τ (tw_rm h150 it144) g τ h568 := by rw [eh568]; exact sp273.wl n180 z181
                        have f570 : h568 it64 = some (.inr (2, [.int (nI j74), .int l75, .int (g.1 4), .ref lh_12])) := by rw [eh568, tw_up_n ne182]; exact f274
                        have f571 : h568 it144 = some (.inr (2, [.int (nI j156), .int l157, .int (g.1 3), .ref lc_114])) := by rw [eh568, tw_up_n ne183]; exact f275
                        have f572 : h568 q177 = some (.inl (d.2 1, 9, .inr (.inl F567))) := by rw [eh568]; exact tw_up_s
                        refine tw_dup dX10_ofCountryNow_235 rfl ?_
                        refine tw_iconst (v := 5) dX10_ofCountryNow_236 (by decide) ?_
                        refine tw_iload 4 dX10_ofCountryNow_237 rfl ?_
                        refine tw_i2l dX10_ofCountryNow_239 ?_
                        refine tw_nml (fun v573 ev573 => ?_)
                        refine tw_last dX10_ofCountryNow_240 f572 (vp_in_nI (n := 5) (by decide) (by decide)) ?_
                        obtain ⟨F574, eF574⟩ : ∃ z : Nat → Int64, z = vp_updL F567 (5 : Int32).toNatClampNeg v573 := ⟨_, rfl⟩
                        rw [← eF574]
                        obtain ⟨h575, eh575⟩ : ∃ z : tw_H, z = tw_up h568 q177 (.inl (d.2 1, 9, .inr (.inl F574))) := ⟨_, rfl⟩
                        rw [← eh575]
                        have sp576 : tw_sp d τ (tw_rm h150 it144) g τ h575 := by rw [eh575]; exact sp569.wl n180 z181
                        have f577 : h575 it64 = some (.inr (2, [.int (nI j74), .int l75, .int (g.1 4), .ref lh_12])) := by rw [eh575, tw_up_n ne182]; exact f570
                        have f578 : h575 it144 = some (.inr (2, [.int (nI j156), .int l157, .int (g.1 3), .ref lc_114])) := by rw [eh575, tw_up_n ne183]; exact f571
                        have f579 : h575 q177 = some (.inl (d.2 1, 9, .inr (.inl F574))) := by rw [eh575]; exact tw_up_s
                        refine tw_dup dX10_ofCountryNow_241 rfl ?_
                        refine tw_bipush (v := 6) dX10_ofCountryNow_242 (by decide) ?_
                        refine tw_aload_n 0 dX10_ofCountryNow_244 rfl rfl ?_
                        refine tw_aload_n 3 dX10_ofCountryNow_245 rfl rfl ?_
                        obtain ⟨e580, f581, r_582, c_583, v_584, o_585, t_586, rfl, k587, k588, k589, k590, k591, k592⟩ := sp576.1 r43 21 q41k.1 (by decide)
                        refine tw_get (v := .ref v_584) rfl in_11 2 dX10_ofCountryNow_246 w_1217 rfl (by decide) f581 rfl ?_
                        obtain ⟨e593, f594, th_595, td_596, ds_597, fr_598, ca_599, us_600, wo_601, cm_602, lc_603, lh_604, ld_605, rfl, k606, k607, k608, k609, k610, k611, k612, k613, k614, k615, k616, k617, k618, k619, k620, k621, k622, k623, k624, k625, k626, k627⟩ := sp576.1 x 36 kx (by decide)
                        refine tw_bl (tw_callV (M := mX10_ofCountryNow) (pc := 249) okX10_worth dX10_ofCountryNow_249 w_1505 rfl f594 [.ref v_584] [.int 6, .ref q177, .ref q177] rfl rfl ⟨by decide, by decide⟩ (Nat.le_of_ble_eq_true rfl) (c_X10_worth d g τ h575 sp576.1 x kx v_584 k587) 0 0 (Nat.le_of_ble_eq_true rfl) (Nat.le_of_ble_eq_true rfl)) (fun r630 h629 q628 => ?_) (fun E h1 q => q.elim)
                        rw [q628]
                        refine tw_last dX10_ofCountryNow_252 f579 (vp_in_nI (n := 6) (by decide) (by decide)) ?_
                        obtain ⟨F631, eF631⟩ : ∃ z : Nat → Int64, z = vp_updL F574 (6 : Int32).toNatClampNeg r630 := ⟨_, rfl⟩
                        rw [← eF631]
                        obtain ⟨h632, eh632⟩ : ∃ z : tw_H, z = tw_up h575 q177 (.inl (d.2 1, 9, .inr (.inl F631))) := ⟨_, rfl⟩
                        rw [← eh632]
                        have sp633 : tw_sp d τ (tw_rm h150 it144) g τ h632 := by rw [eh632]; exact sp576.wl n180 z181
                        have f634 : h632 it64 = some (.inr (2, [.int (nI j74), .int l75, .int (g.1 4), .ref lh_12])) := by rw [eh632, tw_up_n ne182]; exact f577
                        have f635 : h632 it144 = some (.inr (2, [.int (nI j156), .int l157, .int (g.1 3), .ref lc_114])) := by rw [eh632, tw_up_n ne183]; exact f578
                        have f636 : h632 q177 = some (.inl (d.2 1, 9, .inr (.inl F631))) := by rw [eh632]; exact tw_up_s
                        refine tw_dup dX10_ofCountryNow_253 rfl ?_
                        refine tw_bipush (v := 7) dX10_ofCountryNow_254 (by decide) ?_
                        refine tw_iload 5 dX10_ofCountryNow_256 rfl ?_
                        refine tw_i2l dX10_ofCountryNow_258 ?_
                        refine tw_nml (fun v637 ev637 => ?_)
                        refine tw_last dX10_ofCountryNow_259 f636 (vp_in_nI (n := 7) (by decide) (by decide)) ?_
                        obtain ⟨F638, eF638⟩ : ∃ z : Nat → Int64, z = vp_updL F631 (7 : Int32).toNatClampNeg v637 := ⟨_, rfl⟩
                        rw [← eF638]
                        obtain ⟨h639, eh639⟩ : ∃ z : tw_H, z = tw_up h632 q177 (.inl (d.2 1, 9, .inr (.inl F638))) := ⟨_, rfl⟩
                        rw [← eh639]
                        have sp640 : tw_sp d τ (tw_rm h150 it144) g τ h639 := by rw [eh639]; exact sp633.wl n180 z181
                        have f641 : h639 it64 = some (.inr (2, [.int (nI j74), .int l75, .int (g.1 4), .ref lh_12])) := by rw [eh639, tw_up_n ne182]; exact f634
                        have f642 : h639 it144 = some (.inr (2, [.int (nI j156), .int l157, .int (g.1 3), .ref lc_114])) := by rw [eh639, tw_up_n ne183]; exact f635
                        have f643 : h639 q177 = some (.inl (d.2 1, 9, .inr (.inl F638))) := by rw [eh639]; exact tw_up_s
                        refine tw_dup dX10_ofCountryNow_260 rfl ?_
                        refine tw_bipush (v := 8) dX10_ofCountryNow_261 (by decide) ?_
                        refine tw_iload 6 dX10_ofCountryNow_263 rfl ?_
                        refine tw_i2l dX10_ofCountryNow_265 ?_
                        refine tw_nml (fun v644 ev644 => ?_)
                        refine tw_last dX10_ofCountryNow_266 f643 (vp_in_nI (n := 8) (by decide) (by decide)) ?_
                        obtain ⟨F645, eF645⟩ : ∃ z : Nat → Int64, z = vp_updL F638 (8 : Int32).toNatClampNeg v644 := ⟨_, rfl⟩
                        rw [← eF645]
                        obtain ⟨h646, eh646⟩ : ∃ z : tw_H, z = tw_up h639 q177 (.inl (d.2 1, 9, .inr (.inl F645))) := ⟨_, rfl⟩
                        rw [← eh646]
                        have sp647 : tw_sp d τ (tw_rm h150 it144) g τ h646 := by rw [eh646]; exact sp640.wl n180 z181
                        have f648 : h646 it64 = some (.inr (2, [.int (nI j74), .int l75, .int (g.1 4), .ref lh_12])) := by rw [eh646, tw_up_n ne182]; exact f641
                        have f649 : h646 it144 = some (.inr (2, [.int (nI j156), .int l157, .int (g.1 3), .ref lc_114])) := by rw [eh646, tw_up_n ne183]; exact f642
                        have f650 : h646 q177 = some (.inl (d.2 1, 9, .inr (.inl F645))) := by rw [eh646]; exact tw_up_s
                        refine tw_astore [(7, .ref q177), (0, .ref x), (1, .int (nI a)), (2, .int w9), (3, .ref r43), (4, .int x72), (5, .int x93), (6, .int x154)] dX10_ofCountryNow_267 (by decide) rfl ?_
                        refine tw_aload 0 dX10_ofCountryNow_269 rfl ?_
                        refine tw_iload_n 3 dX10_ofCountryNow_271 rfl rfl ?_
                        obtain ⟨v651, ev651⟩ : ∃ y : Int64, F645 (w9).toNatClampNeg = y := ⟨_, rfl⟩
                        refine tw_lald (v := v651) dX10_ofCountryNow_272 f650 hw9 ev651 ?_
                        refine tw_l2i dX10_ofCountryNow_273 ?_
                        refine tw_nmi (fun v652 ev652 => ?_)
                        exact tw_iret dX10_ofCountryNow_274 rfl (Or.inl ⟨_, rfl, (sp70.trm n67 (sp151.trm n147 sp647))⟩)
                  · rw [q173r]
                    refine tw_if_eq 164 dX10_ofCountryNow_124 (by decide) (fun c653 => absurd c653 (by decide)) (fun _ => ?_)
                    refine tw_aload 7 dX10_ofCountryNow_127 rfl ?_
                    have k654 : τ el170 = 27 := k171.resolve_left (fun q => absurd q173j (by rw [q.2.1]; exact Nat.not_lt_zero _))
                    obtain ⟨e655, f656, ⟨F657, rfl, hc658, hc659⟩, un660⟩ := sp161.1 el170 27 k654 (by decide)
                    obtain ⟨y661, hy662, ky663⟩ := hc659 j156 q173j
                    refine tw_br (tw_callF (M := mX10_ofCountryNow) (pc := 129) (n9 := 0) (ci := 2) tw_next ok_itNext w_1421 w_1419 (fun s H z => z.2.2.2.2.2.2.2.2.2) (by decide +kernel) dX10_ofCountryNow_129 w_1416 rfl ft162 [] [] rfl rfl ⟨by decide, by decide⟩ (Nat.le_of_ble_eq_true rfl) (c_next d h160 it144 lc_114 el170 j156 (g.2 3) y661 l157 (g.1 3) F657 ft162 f169 f656 q173j hc658 hy662) 1 9 (Nat.le_of_ble_eq_true rfl) (Nat.le_of_ble_eq_true rfl)) (fun r666 h665 q664 => ?_) (fun E h1 q => q.elim)
                    obtain ⟨q664r, q664e⟩ := q664
                    rw [q664r]
                    have sp667 : tw_sp d τ (tw_rm h150 it144) g τ h665 := by rw [q664e]; exact sp161.wl tw_rm_s zt163
                    have f668 : h665 it64 = some (.inr (2, [.int (nI j74), .int l75, .int (g.1 4), .ref lh_12])) := by rw [q664e, tw_up_n ne149]; exact f166
                    have f669 : h665 it144 = some (.inr (2, [.int (nI (j156 + 1)), .int (nI j156), .int (g.1 3), .ref lc_114])) := by rw [q664e]; exact tw_up_s
                    obtain ⟨e670, f671, r_672, c_673, v_674, o_675, t_676, rfl, k677, k678, k679, k680, k681, k682⟩ := sp667.1 y661 21 ky663 (by decide)
                    refine tw_castS (ci := 11) rfl dX10_ofCountryNow_134 w_1208 f671 ?_
                    refine tw_astore [(8, .ref y661), (0, .ref x), (1, .int (nI a)), (2, .int w9), (3, .ref r43), (4, .int x72), (5, .int x93), (6, .int x154), (7, .ref it144)] dX10_ofCountryNow_137 (by decide) rfl ?_
                    refine tw_iload 7 dX10_ofCountryNow_139 rfl ?_
                    refine tw_aload 0 dX10_ofCountryNow_141 rfl ?_
                    refine tw_get (v := .int r_672) rfl in_11 0 dX10_ofCountryNow_143 w_1214 rfl (by decide) f671 rfl ?_
                    refine tw_aload_n 4 dX10_ofCountryNow_146 rfl rfl ?_
                    obtain ⟨e683, f684, r_685, c_686, v_687, o_688, t_689, rfl, k690, k691, k692, k693, k694, k695⟩ := sp667.1 r43 21 q41k.1 (by decide)
                    refine tw_get (v := .int r_685) rfl in_11 0 dX10_ofCountryNow_147 w_1214 rfl (by decide) f684 rfl ?_
                    refine tw_icmp_ne 157 dX10_ofCountryNow_150 (by decide) (fun c696 => ?_) (fun c696 => ?_)
                    · refine tw_iconst (v := 0) dX10_ofCountryNow_157 (by decide) ?_
                      refine tw_iadd dX10_ofCountryNow_158 ?_
                      refine tw_nmi (fun v697 ev697 => ?_)
                      refine tw_istore [(6, .int v697), (8, .ref y661), (0, .ref x), (1, .int (nI a)), (2, .int w9), (3, .ref r43), (4, .int x72), (5, .int x93), (7, .ref it144)] dX10_ofCountryNow_159 (by decide) rfl ?_
                      refine tw_goto 117 dX10_ofCountryNow_161 (by decide) ?_
                      refine tw_lv [2, 3, 4, 5, 6, 7, 0, 8] rfl ?_
                      exact ih158 ((j156 + 1)) (nI j156) v697 _ sp667 f669 zt163  (by omega) (by omega)
                    · refine tw_iconst (v := 1) dX10_ofCountryNow_153 (by decide) ?_
                      refine tw_goto 158 dX10_ofCountryNow_154 (by decide) ?_
                      refine tw_iadd dX10_ofCountryNow_158 ?_
                      refine tw_nmi (fun v698 ev698 => ?_)
                      refine tw_istore [(6, .int v698), (8, .ref y661), (0, .ref x), (1, .int (nI a)), (2, .int w9), (3, .ref r43), (4, .int x72), (5, .int x93), (7, .ref it144)] dX10_ofCountryNow_159 (by decide) rfl ?_
                      refine tw_goto 117 dX10_ofCountryNow_161 (by decide) ?_
                      refine tw_lv [2, 3, 4, 5, 6, 7, 0, 8] rfl ?_
                      exact ih158 ((j156 + 1)) (nI j156) v698 _ sp667 f669 zt163  (by omega) (by omega)
              refine tw_lv [1, 2, 3, 4, 5, 6, 7, 0] rfl ?_
              exact L159 (g.2 3 + 1) 0 (-1) 0 _ (tw_sp.rm sp151.1 it144) f153 z148  (by omega) (Nat.zero_le _)
            · have kl699 := tw_klt (N := 5) c103 hk102 (by decide)
              refine tw_iload 5 dX10_ofCountryNow_83 rfl ?_
              refine tw_gets (fun _ _ z => z.2.2.2.2.1.1) rfl dX10_ofCountryNow_85 w_1483 ?_
              refine tw_iload 7 dX10_ofCountryNow_88 rfl ?_
              refine tw_ti (v := .int (tw_pnd k94)) (fun _ _ z => z.2.2.2.2.1.2) dX10_ofCountryNow_90 (vp_in_nI (by omega) (by decide)) (by rw [nI_clamp (by omega)]; rfl) ?_
              refine tw_aload_n 3 dX10_ofCountryNow_91 rfl rfl ?_
              obtain ⟨e700, f701, r_702, c_703, v_704, o_705, t_706, rfl, k707, k708, k709, k710, k711, k712⟩ := sp79.1 r43 21 q41k.1 (by decide)
              refine tw_get (v := .ref t_706) rfl in_11 4 dX10_ofCountryNow_92 w_1221 rfl (by decide) f701 rfl ?_
              refine tw_iload 7 dX10_ofCountryNow_95 rfl ?_
              obtain ⟨e713, f714, F715, rfl, k717, pf716⟩ := sp79.1 t_706 33 k709 (by decide)
              obtain ⟨v718, ev718⟩ : ∃ y : Int32, F715 ((nI k94)).toNatClampNeg = y := ⟨_, rfl⟩
              refine tw_iald (v := v718) dX10_ofCountryNow_97 f714 (vp_in_nI (by omega) (by decide)) ev718 ?_
              refine tw_imul dX10_ofCountryNow_98 ?_
              refine tw_nmi (fun v719 ev719 => ?_)
              refine tw_iadd dX10_ofCountryNow_99 ?_
              refine tw_nmi (fun v720 ev720 => ?_)
              refine tw_istore [(5, .int v720), (0, .ref x), (1, .int (nI a)), (2, .int w9), (3, .ref r43), (4, .int x72), (6, .int 0), (7, .int (nI k94))] dX10_ofCountryNow_100 (by decide) rfl ?_
              obtain ⟨v721, ev721⟩ : ∃ y : Int32, y = (nI k94) + 1 := ⟨_, rfl⟩
              refine tw_iinc [(7, .int v721), (5, .int v720), (0, .ref x), (1, .int (nI a)), (2, .int w9), (3, .ref r43), (4, .int x72), (6, .int 0)] 7 dX10_ofCountryNow_102 rfl (by rw [ev721]; rfl) (by decide) rfl ?_
              refine tw_goto 77 dX10_ofCountryNow_105 (by decide) ?_
              have qv721 := tw_nI3 ev721
              rw [qv721]
              refine tw_lv [2, 3, 4, 5, 6, 1, 7, 0] rfl ?_
              exact ih96 (k94 + 1) v720 (by omega) (by omega)
        refine tw_lv [1, 2, 3, 4, 5, 6, 7, 0] rfl ?_
        exact L97 (5 + 1) 0 0 (by omega) (by omega)
      · rw [q89r]
        refine tw_if_eq 74 dX10_ofCountryNow_37 (by decide) (fun c722 => absurd c722 (by decide)) (fun _ => ?_)
        refine tw_aload 7 dX10_ofCountryNow_40 rfl ?_
        have k723 : τ el86 = 28 := k87.resolve_left (fun q => absurd q89j (by rw [q.2.1]; exact Nat.not_lt_zero _))
        obtain ⟨e724, f725, ⟨F726, rfl, hc727, hc728⟩, un729⟩ := sp79.1 el86 28 k723 (by decide)
        obtain ⟨y730, hy731, ky732⟩ := hc728 j74 q89j
        refine tw_br (tw_callF (M := mX10_ofCountryNow) (pc := 42) (n9 := 0) (ci := 2) tw_next ok_itNext w_1421 w_1419 (fun s H z => z.2.2.2.2.2.2.2.2.2) (by decide +kernel) dX10_ofCountryNow_42 w_1416 rfl ft80 [] [] rfl rfl ⟨by decide, by decide⟩ (Nat.le_of_ble_eq_true rfl) (c_next d h78 it64 lh_12 el86 j74 (g.2 4) y730 l75 (g.1 4) F726 ft80 f85 f725 q89j hc727 hy731) 2 13 (Nat.le_of_ble_eq_true rfl) (Nat.le_of_ble_eq_true rfl)) (fun r735 h734 q733 => ?_) (fun E h1 q => q.elim)
        obtain ⟨q733r, q733e⟩ := q733
        rw [q733r]
        have sp736 : tw_sp d τ (tw_rm h69 it64) g τ h734 := by rw [q733e]; exact sp79.wl tw_rm_s zt81
        have f737 : h734 it64 = some (.inr (2, [.int (nI (j74 + 1)), .int (nI j74), .int (g.1 4), .ref lh_12])) := by rw [q733e]; exact tw_up_s
        obtain ⟨e738, f739, x_740, y_741, dy_742, p_743, rfl, k744, k745, k746, k747⟩ := sp736.1 y730 23 ky732 (by decide)
        refine tw_castS (ci := 13) rfl dX10_ofCountryNow_47 w_1332 f739 ?_
        refine tw_astore [(8, .ref y730), (0, .ref x), (1, .int (nI a)), (2, .int w9), (3, .ref r43), (4, .int x72), (5, .int 0), (6, .int 0), (7, .ref it64)] dX10_ofCountryNow_50 (by decide) rfl ?_
        refine tw_iload 5 dX10_ofCountryNow_52 rfl ?_
        refine tw_aload 0 dX10_ofCountryNow_54 rfl ?_
        refine tw_get (v := .int x_740) rfl in_13 0 dX10_ofCountryNow_56 w_1338 rfl (by decide) f739 rfl ?_
        refine tw_iload_n 2 dX10_ofCountryNow_59 rfl rfl ?_
        refine tw_icmp_ne 67 dX10_ofCountryNow_60 (by decide) (fun c748 => ?_) (fun c748 => ?_)
        · refine tw_iconst (v := 0) dX10_ofCountryNow_67 (by decide) ?_
          refine tw_iadd dX10_ofCountryNow_68 ?_
          refine tw_nmi (fun v749 ev749 => ?_)
          refine tw_istore [(4, .int v749), (8, .ref y730), (0, .ref x), (1, .int (nI a)), (2, .int w9), (3, .ref r43), (5, .int 0), (6, .int 0), (7, .ref it64)] dX10_ofCountryNow_69 (by decide) rfl ?_
          refine tw_goto 30 dX10_ofCountryNow_71 (by decide) ?_
          refine tw_lv [2, 3, 4, 5, 0, 6, 7, 8] rfl ?_
          exact ih76 ((j74 + 1)) (nI j74) v749 _ sp736 f737 zt81  (by omega) (by omega)
        · refine tw_iconst (v := 1) dX10_ofCountryNow_63 (by decide) ?_
          refine tw_goto 68 dX10_ofCountryNow_64 (by decide) ?_
          refine tw_iadd dX10_ofCountryNow_68 ?_
          refine tw_nmi (fun v750 ev750 => ?_)
          refine tw_istore [(4, .int v750), (8, .ref y730), (0, .ref x), (1, .int (nI a)), (2, .int w9), (3, .ref r43), (5, .int 0), (6, .int 0), (7, .ref it64)] dX10_ofCountryNow_69 (by decide) rfl ?_
          refine tw_goto 30 dX10_ofCountryNow_71 (by decide) ?_
          refine tw_lv [2, 3, 4, 5, 0, 6, 7, 8] rfl ?_
          exact ih76 ((j74 + 1)) (nI j74) v750 _ sp736 f737 zt81  (by omega) (by omega)
  refine tw_lv [5, 6, 7, 4, 3, 2, 1, 0] rfl ?_
  exact L77 (g.2 4 + 1) 0 (-1) 0 _ (tw_sp.rm sp70.1 it64) f71 z68  (by omega) (Nat.zero_le _)

set_option maxHeartbeats 4000000 in
set_option maxRecDepth 100000 in
theorem c_X10_ofCountry (d : tw_D) (g : tw_G) (τ : tw_K) (h : tw_H) (hw : tw_wt d g τ h) (x : Nat) (kx : τ x = 36) (a : Int32) (w9 : Int32) : tw_Ct d mX10_ofCountry 3 17 [.ref x, .int a, .int w9] h (tw_qi (fun r h1 => tw_sp d τ h g τ h1) tw_nx) := by
  refine tw_of (by decide +kernel) (Nat.le_of_ble_eq_true rfl) ?_
  show tw_W d mX10_ofCountry _ 0 [(0, .ref x), (1, .int a), (2, .int w9)] [] h 3 17
  have sp0 := tw_sp.rf hw
  refine tw_aload_n 0 dX10_ofCountry_0 rfl rfl ?_
  refine tw_aload_n 0 dX10_ofCountry_1 rfl rfl ?_
  refine tw_iload_n 1 dX10_ofCountry_2 rfl rfl ?_
  obtain ⟨e1, f2, th_3, td_4, ds_5, fr_6, ca_7, us_8, wo_9, cm_10, lc_11, lh_12, ld_13, rfl, k14, k15, k16, k17, k18, k19, k20, k21, k22, k23, k24, k25, k26, k27, k28, k29, k30, k31, k32, k33, k34, k35⟩ := sp0.1 x 36 kx (by decide)
  refine tw_bi (tw_callV (M := mX10_ofCountry) (pc := 3) okX10_isNoCountry dX10_ofCountry_3 w_1288 rfl f2 [.int a] [.ref x] rfl rfl ⟨by decide, by decide⟩ (Nat.le_of_ble_eq_true rfl) (c_X10_isNoCountry d g τ h sp0.1 x kx a) 3 17 (Nat.le_of_ble_eq_true rfl) (Nat.le_of_ble_eq_true rfl)) (fun r38 h37 q36 => ?_) (fun E h1 q => q.elim)
  obtain ⟨q36e, q36d⟩ := q36
  rw [q36e]
  rcases q36d with q36r | ⟨q36r, j39, q36j, q36k⟩
  · rw [q36r]
    refine tw_iconst (v := 1) dX10_ofCountry_6 (by decide) ?_
    refine tw_bi (tw_callV (M := mX10_ofCountry) (pc := 7) okX10_start dX10_ofCountry_7 w_1196 rfl f2 [.int 1, .int 1] [] rfl rfl ⟨by decide, by decide⟩ (Nat.le_of_ble_eq_true rfl) (c_X10_start d g τ h sp0.1 x kx 1 1 (by decide)) 3 17 (Nat.le_of_ble_eq_true rfl) (Nat.le_of_ble_eq_true rfl)) (fun r42 h41 q40 => ?_) (fun E h1 q => q.elim)
    obtain ⟨e43, he44, hs45, hr46, h347⟩ := q40
    have sp48 : tw_sp d τ h g τ h41 := by rw [he44]; exact sp0.set kx (by decide) hs45
    rcases hr46 with ei49 | ⟨ei49, ei49b⟩
    · rw [ei49]
      refine tw_if_ne 36 dX10_ofCountry_10 (by decide) (fun _ => ?_) (fun c50 => absurd c50 (by decide))
      refine tw_iconst (v := 0) dX10_ofCountry_36 (by decide) ?_
      refine tw_goto 46 dX10_ofCountry_37 (by decide) ?_
      exact tw_iret dX10_ofCountry_46 rfl (Or.inl ⟨_, rfl, sp48⟩)
    · exact absurd ei49b (by decide)
  · rw [q36r]
    subst q36k
    refine tw_iconst (v := 1) dX10_ofCountry_6 (by decide) ?_
    refine tw_bi (tw_callV (M := mX10_ofCountry) (pc := 7) okX10_start dX10_ofCountry_7 w_1196 rfl f2 [.int 0, .int 1] [] rfl rfl ⟨by decide, by decide⟩ (Nat.le_of_ble_eq_true rfl) (c_X10_start d g τ h sp0.1 x kx 0 1 (by decide)) 3 17 (Nat.le_of_ble_eq_true rfl) (Nat.le_of_ble_eq_true rfl)) (fun r53 h52 q51 => ?_) (fun E h1 q => q.elim)
    obtain ⟨e54, he55, hs56, hr57, h358⟩ := q51
    have sp59 : tw_sp d τ h g τ h52 := by rw [he55]; exact sp0.set kx (by decide) hs56
    rcases hr57 with ei60 | ⟨ei60, ei60b⟩
    · rw [ei60]
      refine tw_if_ne 36 dX10_ofCountry_10 (by decide) (fun _ => ?_) (fun c61 => absurd c61 (by decide))
      refine tw_iconst (v := 0) dX10_ofCountry_36 (by decide) ?_
      refine tw_goto 46 dX10_ofCountry_37 (by decide) ?_
      exact tw_iret dX10_ofCountry_46 rfl (Or.inl ⟨_, rfl, sp59⟩)
    · rw [ei60]
      refine tw_if_ne 36 dX10_ofCountry_10 (by decide) (fun c62 => absurd (by decide) c62) (fun _ => ?_)
      refine tw_aload_n 0 dX10_ofCountry_13 rfl rfl ?_
      refine tw_iload_n 2 dX10_ofCountry_14 rfl rfl ?_
      refine tw_iconst (v := 0) dX10_ofCountry_15 (by decide) ?_
      refine tw_bipush (v := 8) dX10_ofCountry_16 (by decide) ?_
      refine tw_bi (tw_callS (M := mX10_ofCountry) (pc := 18) okX10_isIn dX10_ofCountry_18 w_1192 [.int w9, .int 0, .int 8] [.ref x] rfl rfl ⟨by decide, by decide⟩ (Nat.le_of_ble_eq_true rfl) (c_X10_isIn d g τ h52 sp59.1 w9 0 8) 3 17 (Nat.le_of_ble_eq_true rfl) (Nat.le_of_ble_eq_true rfl)) (fun r65 h64 q63 => ?_) (fun E h1 q => q.elim)
      obtain ⟨q63e, q63d⟩ := q63
      rw [q63e]
      rcases q63d with ⟨q63r, q63n⟩ | ⟨q63r, q63a, q63b⟩
      · rw [q63r]
        refine tw_if_ne 28 dX10_ofCountry_21 (by decide) (fun c66 => absurd (by decide) c66) (fun _ => ?_)
        refine tw_iconst (v := 1) dX10_ofCountry_24 (by decide) ?_
        refine tw_goto 29 dX10_ofCountry_25 (by decide) ?_
        refine tw_iconst (v := 2) dX10_ofCountry_29 (by decide) ?_
        obtain ⟨e67, f68, th_69, td_70, ds_71, fr_72, ca_73, us_74, wo_75, cm_76, lc_77, lh_78, ld_79, rfl, k80, k81, k82, k83, k84, k85, k86, k87, k88, k89, k90, k91, k92, k93, k94, k95, k96, k97, k98, k99, k100, k101⟩ := sp59.1 x 36 kx (by decide)
        refine tw_bi (tw_callV (M := mX10_ofCountry) (pc := 30) okX10_refuse dX10_ofCountry_30 w_1200 rfl f68 [.int 1, .int 2] [] rfl rfl ⟨by decide, by decide⟩ (Nat.le_of_ble_eq_true rfl) (c_X10_refuse d g τ h52 sp59.1 x kx 1 2 (by decide)) 3 17 (Nat.le_of_ble_eq_true rfl) (Nat.le_of_ble_eq_true rfl)) (fun r104 h103 q102 => ?_) (fun E h1 q => q.elim)
        obtain ⟨e105, he106, hs107, hr108, h3109⟩ := q102
        have sp110 : tw_sp d τ h g τ h103 := by rw [he106]; exact sp59.set kx (by decide) hs107
        rcases hr108 with ei111 | ⟨ei111, ei111b⟩
        · rw [ei111]
          refine tw_if_eq 40 dX10_ofCountry_33 (by decide) (fun c112 => absurd c112 (by decide)) (fun _ => ?_)
          refine tw_iconst (v := 0) dX10_ofCountry_36 (by decide) ?_
          refine tw_goto 46 dX10_ofCountry_37 (by decide) ?_
          exact tw_iret dX10_ofCountry_46 rfl (Or.inl ⟨_, rfl, sp110⟩)
        · exact absurd ei111b (by decide)
      · rw [q63r]
        refine tw_if_ne 28 dX10_ofCountry_21 (by decide) (fun _ => ?_) (fun c113 => absurd c113 (by decide))
        refine tw_iconst (v := 0) dX10_ofCountry_28 (by decide) ?_
        refine tw_iconst (v := 2) dX10_ofCountry_29 (by decide) ?_
        obtain ⟨e114, f115, th_116, td_117, ds_118, fr_119, ca_120, us_121, wo_122, cm_123, lc_124, lh_125, ld_126, rfl, k127, k128, k129, k130, k131, k132, k133, k134, k135, k136, k137, k138, k139, k140, k141, k142, k143, k144, k145, k146, k147, k148⟩ := sp59.1 x 36 kx (by decide)
        refine tw_bi (tw_callV (M := mX10_ofCountry) (pc := 30) okX10_refuse dX10_ofCountry_30 w_1200 rfl f115 [.int 0, .int 2] [] rfl rfl ⟨by decide, by decide⟩ (Nat.le_of_ble_eq_true rfl) (c_X10_refuse d g τ h52 sp59.1 x kx 0 2 (by decide)) 3 17 (Nat.le_of_ble_eq_true rfl) (Nat.le_of_ble_eq_true rfl)) (fun r151 h150 q149 => ?_) (fun E h1 q => q.elim)
        obtain ⟨e152, he153, hs154, hr155, h3156⟩ := q149
        have sp157 : tw_sp d τ h g τ h150 := by rw [he153]; exact sp59.set kx (by decide) hs154
        rcases hr155 with ei158 | ⟨ei158, ei158b⟩
        · rw [ei158]
          refine tw_if_eq 40 dX10_ofCountry_33 (by decide) (fun c159 => absurd c159 (by decide)) (fun _ => ?_)
          refine tw_iconst (v := 0) dX10_ofCountry_36 (by decide) ?_
          refine tw_goto 46 dX10_ofCountry_37 (by decide) ?_
          exact tw_iret dX10_ofCountry_46 rfl (Or.inl ⟨_, rfl, sp157⟩)
        · rw [ei158]
          refine tw_if_eq 40 dX10_ofCountry_33 (by decide) (fun _ => ?_) (fun c160 => absurd (by decide) c160)
          refine tw_aload_n 0 dX10_ofCountry_40 rfl rfl ?_
          refine tw_iload_n 1 dX10_ofCountry_41 rfl rfl ?_
          refine tw_iload_n 2 dX10_ofCountry_42 rfl rfl ?_
          obtain ⟨e161, f162, th_163, td_164, ds_165, fr_166, ca_167, us_168, wo_169, cm_170, lc_171, lh_172, ld_173, rfl, k174, k175, k176, k177, k178, k179, k180, k181, k182, k183, k184, k185, k186, k187, k188, k189, k190, k191, k192, k193, k194, k195⟩ := sp157.1 x 36 kx (by decide)
          refine tw_bi (tw_callV (M := mX10_ofCountry) (pc := 43) okX10_ofCountryNow dX10_ofCountry_43 w_1501 rfl f162 [.int (nI j39), .int w9] [] rfl rfl ⟨by decide, by decide⟩ (Nat.le_of_ble_eq_true rfl) (c_X10_ofCountryNow d g τ h150 sp157.1 x kx w9 j39 (by omega) (tw_irng (N := 9) q63a q63b (by decide) (by decide))) 0 0 (Nat.le_of_ble_eq_true rfl) (Nat.le_of_ble_eq_true rfl)) (fun r198 h197 q196 => ?_) (fun E h1 q => q.elim)
          have sp199 := sp157.tr q196
          exact tw_iret dX10_ofCountry_46 rfl (Or.inl ⟨_, rfl, sp199⟩)

set_option maxHeartbeats 4000000 in
set_option maxRecDepth 100000 in
theorem c_X10_ofHouseNow (d : tw_D) (g : tw_G) (τ : tw_K) (h : tw_H) (hw : tw_wt d g τ h) (x : Nat) (kx : τ x = 36) (w9 : Int32) (a : Nat) (ha : a < g.2 4) (hw9 : vp_in w9 8) : tw_Ct d mX10_ofHouseNow 2 12 [.ref x, .int (nI a), .int w9] h (tw_qi (fun r h1 => tw_sp d τ h g τ h1) tw_nx) := by
  refine tw_of (by decide +kernel) (Nat.le_of_ble_eq_true rfl) ?_
  show tw_W d mX10_ofHouseNow _ 0 [(0, .ref x), (1, .int (nI a)), (2, .int w9)] [] h 2 12
  have sp0 := tw_sp.rf hw
  refine tw_aload_n 0 dX10_ofHouseNow_0 rfl rfl ?_
  obtain ⟨e1, f2, th_3, td_4, ds_5, fr_6, ca_7, us_8, wo_9, cm_10, lc_11, lh_12, ld_13, rfl, k14, k15, k16, k17, k18, k19, k20, k21, k22, k23, k24, k25, k26, k27, k28, k29, k30, k31, k32, k33, k34, k35⟩ := sp0.1 x 36 kx (by decide)
  refine tw_get (v := .ref lh_12) rfl in_14 10 dX10_ofHouseNow_1 w_1161 rfl (by decide) f2 rfl ?_
  refine tw_iload_n 1 dX10_ofHouseNow_4 rfl rfl ?_
  obtain ⟨e36, f37, ⟨el38, rfl, k39⟩, k40⟩ := sp0.1 lh_12 25 k21 (by decide)
  refine tw_br (tw_callV (M := mX10_ofHouseNow) (pc := 5) okJx4a65c_get_915e3 dX10_ofHouseNow_5 w_1292 rfl f37 [.int (nI a)] [] rfl rfl ⟨by decide, by decide⟩ (Nat.le_of_ble_eq_true rfl) (c25_get d g τ h sp0.1 lh_12 k21 a (by omega) (by omega)) 2 12 (Nat.le_of_ble_eq_true rfl) (Nat.le_of_ble_eq_true rfl)) (fun r43 h42 q41 => ?_) (fun E h1 q => q.elim)
  obtain ⟨q41e, q41k⟩ := q41
  rw [q41e]
  have el44 : tw_el h (g.2 13) a = r43 := by rw [← k40]; exact q41k.2.symm
  have kl45 : τ (g.2 13) = 25 := by rw [← k40]; exact k21
  obtain ⟨e46, f47, x_48, y_49, dy_50, p_51, rfl, k52, k53, k54, k55⟩ := sp0.1 r43 23 q41k.1 (by decide)
  refine tw_castS (ci := 13) rfl dX10_ofHouseNow_8 w_1332 f47 ?_
  refine tw_astore_n [(3, .ref r43), (0, .ref x), (1, .int (nI a)), (2, .int w9)] dX10_ofHouseNow_11 rfl (by decide) rfl ?_
  refine tw_iconst (v := 0) dX10_ofHouseNow_12 (by decide) ?_
  refine tw_istore [(4, .int 0), (3, .ref r43), (0, .ref x), (1, .int (nI a)), (2, .int w9)] dX10_ofHouseNow_13 (by decide) rfl ?_
  refine tw_iconst (v := 0) dX10_ofHouseNow_15 (by decide) ?_
  refine tw_istore [(5, .int 0), (4, .int 0), (3, .ref r43), (0, .ref x), (1, .int (nI a)), (2, .int w9)] dX10_ofHouseNow_16 (by decide) rfl ?_
  refine tw_aload_n 3 dX10_ofHouseNow_18 rfl rfl ?_
  refine tw_get (v := .ref ld_13) rfl in_14 11 dX10_ofHouseNow_19 w_1162 rfl (by decide) f2 rfl ?_
  obtain ⟨e56, f57, ⟨el58, rfl, k59⟩, k60⟩ := sp0.1 ld_13 26 k22 (by decide)
  refine tw_br (tw_callV (M := mX10_ofHouseNow) (pc := 22) okJx4a65c_iterator_32c93 dX10_ofHouseNow_22 w_1382 rfl f57 [] [] rfl rfl ⟨by decide, by decide⟩ (Nat.le_of_ble_eq_true rfl) (c_iterator d h ld_13 el58 (g.1 5) (nI (g.2 5)) f57) 1 8 (Nat.le_of_ble_eq_true rfl) (Nat.le_of_ble_eq_true rfl)) (fun it61 h62 q63 => ?_) (fun E h1 q => q.elim)
  obtain ⟨q63n, q63e⟩ := q63
  rw [q63e]
  have n64 := sp0.nn q63n
  have z65 := sp0.1.none q63n
  obtain ⟨h66, eh66⟩ : ∃ z : tw_H, z = tw_up h it61 (.inr (2, [.int 0, .int (-1), .int (g.1 5), .ref ld_13])) := ⟨_, rfl⟩
  rw [← eh66]
  have sp67 : tw_sp d τ h g τ h66 := by rw [eh66]; exact sp0.mk q63n
  have f68 : h66 it61 = some (.inr (2, [.int 0, .int (-1), .int (g.1 5), .ref ld_13])) := by rw [eh66]; exact tw_up_s
  refine tw_astore [(6, .ref it61), (5, .int 0), (4, .int 0), (3, .ref r43), (0, .ref x), (1, .int (nI a)), (2, .int w9)] dX10_ofHouseNow_25 (by decide) rfl ?_
  have L75 : ∀ (r71 j72 : Nat) (l73 : Int32) (x69 : Int32) (x70 : Int32) (h76 : tw_H) (sp77 : tw_sp d τ (tw_rm h66 it61) g τ h76) (ft78 : h76 it61 = some (.inr (2, [.int (nI j72), .int l73, .int (g.1 5), .ref ld_13]))) (zt79 : τ it61 = 0), g.2 5 + 1 ≤ j72 + r71 → j72 ≤ g.2 5 → tw_W d mX10_ofHouseNow (tw_qi (fun r h1 => tw_sp d τ h g τ h1) tw_nx) 27 [(0, .ref x), (1, .int (nI a)), (2, .int w9), (3, .ref r43), (4, .int x69), (5, .int x70), (6, .ref it61)] [] h76 1 8 := by
    intro r71
    induction r71 with
    | zero => intro j72 l73 x69 x70 h76 sp77 ft78 zt79 hk80 hk81; exact absurd hk80 (by omega)
    | succ r71 ih74 =>
      intro j72 l73 x69 x70 h76 sp77 ft78 zt79 hk80 hk81
      refine tw_aload 6 dX10_ofHouseNow_27 rfl ?_
      obtain ⟨e82, f83, ⟨el84, rfl, k85⟩, k86⟩ := sp77.1 ld_13 26 k22 (by decide)
      refine tw_bi (tw_callF (M := mX10_ofHouseNow) (pc := 29) (n9 := 0) (ci := 2) tw_hasNext ok_itHas w_1412 w_1410 (fun s H z => z.2.2.2.2.2.2.2.2.1) (by decide +kernel) dX10_ofHouseNow_29 w_1406 rfl ft78 [] [] rfl rfl ⟨by decide, by decide⟩ (Nat.le_of_ble_eq_true rfl) (c_hasNext d h76 it61 ld_13 el84 j72 (g.2 5) l73 (g.1 5) (g.1 5) ft78 f83 (by omega) (tw_lim26 sp77.1 k22)) 1 8 (Nat.le_of_ble_eq_true rfl) (Nat.le_of_ble_eq_true rfl)) (fun r89 h88 q87 => ?_) (fun E h1 q => q.elim)
      obtain ⟨q87e, q87q⟩ := q87
      rw [q87e]
      rcases q87q with ⟨q87r, q87j⟩ | ⟨q87r, q87j⟩
      · rw [q87r]
        refine tw_if_eq 106 dX10_ofHouseNow_34 (by decide) (fun _ => ?_) (fun c90 => absurd (by decide) c90)
        refine tw_bipush (v := 8) dX10_ofHouseNow_106 (by decide) ?_
        refine tw_newa (a0 := (8, .inr (.inl (fun _ => 0)))) 1 rfl dX10_ofHouseNow_108 rfl w_1150 (fun _ => rfl) (by decide) (by decide) (by decide) 0 0 (Nat.le_of_ble_eq_true rfl) (Nat.le_of_ble_eq_true rfl) (fun q91 hq92 hA93 => ?_)
        have n94 := sp77.nn hq92
        have z95 := sp77.1.none hq92
        have ne96 := tw_neF ft78 hq92
        obtain ⟨h97, eh97⟩ : ∃ z : tw_H, z = tw_up h76 q91 (.inl (d.2 1, 8, .inr (.inl (fun _ => 0)))) := ⟨_, rfl⟩
        rw [← eh97]
        have sp98 : tw_sp d τ (tw_rm h66 it61) g τ h97 := by rw [eh97]; exact sp77.mk hq92
        have f99 : h97 it61 = some (.inr (2, [.int (nI j72), .int l73, .int (g.1 5), .ref ld_13])) := by rw [eh97, tw_up_n ne96]; exact ft78
        have f100 : h97 q91 = some (.inl (d.2 1, 8, .inr (.inl (fun _ => 0)))) := by rw [eh97]; exact tw_up_s
        refine tw_dup dX10_ofHouseNow_110 rfl ?_
        refine tw_iconst (v := 0) dX10_ofHouseNow_111 (by decide) ?_
        refine tw_aload_n 3 dX10_ofHouseNow_112 rfl rfl ?_
        obtain ⟨e101, f102, x_103, y_104, dy_105, p_106, rfl, k107, k108, k109, k110⟩ := sp98.1 r43 23 q41k.1 (by decide)
        refine tw_get (v := .int x_103) rfl in_13 0 dX10_ofHouseNow_113 w_1338 rfl (by decide) f102 rfl ?_
        refine tw_i2l dX10_ofHouseNow_116 ?_
        refine tw_nml (fun v111 ev111 => ?_)
        refine tw_last dX10_ofHouseNow_117 f100 (vp_in_nI (n := 0) (by decide) (by decide)) ?_
        obtain ⟨F112, eF112⟩ : ∃ z : Nat → Int64, z = vp_updL (fun _ => 0) (0 : Int32).toNatClampNeg v111 := ⟨_, rfl⟩
        rw [← eF112]
        obtain ⟨h113, eh113⟩ : ∃ z : tw_H, z = tw_up h97 q91 (.inl (d.2 1, 8, .inr (.inl F112))) := ⟨_, rfl⟩
        rw [← eh113]
        have sp114 : tw_sp d τ (tw_rm h66 it61) g τ h113 := by rw [eh113]; exact sp98.wl n94 z95
        have f115 : h113 it61 = some (.inr (2, [.int (nI j72), .int l73, .int (g.1 5), .ref ld_13])) := by rw [eh113, tw_up_n ne96]; exact f99
        have f116 : h113 q91 = some (.inl (d.2 1, 8, .inr (.inl F112))) := by rw [eh113]; exact tw_up_s
        refine tw_dup dX10_ofHouseNow_118 rfl ?_
        refine tw_iconst (v := 1) dX10_ofHouseNow_119 (by decide) ?_
        refine tw_aload_n 3 dX10_ofHouseNow_120 rfl rfl ?_
        obtain ⟨e117, f118, x_119, y_120, dy_121, p_122, rfl, k123, k124, k125, k126⟩ := sp114.1 r43 23 q41k.1 (by decide)
        refine tw_get (v := .int y_120) rfl in_13 1 dX10_ofHouseNow_121 w_1340 rfl (by decide) f118 rfl ?_
        refine tw_i2l dX10_ofHouseNow_124 ?_
        refine tw_nml (fun v127 ev127 => ?_)
        refine tw_last dX10_ofHouseNow_125 f116 (vp_in_nI (n := 1) (by decide) (by decide)) ?_
        obtain ⟨F128, eF128⟩ : ∃ z : Nat → Int64, z = vp_updL F112 (1 : Int32).toNatClampNeg v127 := ⟨_, rfl⟩
        rw [← eF128]
        obtain ⟨h129, eh129⟩ : ∃ z : tw_H, z = tw_up h113 q91 (.inl (d.2 1, 8, .inr (.inl F128))) := ⟨_, rfl⟩
        rw [← eh129]
        have sp130 : tw_sp d τ (tw_rm h66 it61) g τ h129 := by rw [eh129]; exact sp114.wl n94 z95
        have f131 : h129 it61 = some (.inr (2, [.int (nI j72), .int l73, .int (g.1 5), .ref ld_13])) := by rw [eh129, tw_up_n ne96]; exact f115
        have f132 : h129 q91 = some (.inl (d.2 1, 8, .inr (.inl F128))) := by rw [eh129]; exact tw_up_s
        refine tw_dup dX10_ofHouseNow_126 rfl ?_
        refine tw_iconst (v := 2) dX10_ofHouseNow_127 (by decide) ?_
        refine tw_aload_n 3 dX10_ofHouseNow_128 rfl rfl ?_
        obtain ⟨e133, f134, x_135, y_136, dy_137, p_138, rfl, k139, k140, k141, k142⟩ := sp130.1 r43 23 q41k.1 (by decide)
        refine tw_get (v := .int dy_137) rfl in_13 2 dX10_ofHouseNow_129 w_1342 rfl (by decide) f134 rfl ?_
        refine tw_i2l dX10_ofHouseNow_132 ?_
        refine tw_nml (fun v143 ev143 => ?_)
        refine tw_last dX10_ofHouseNow_133 f132 (vp_in_nI (n := 2) (by decide) (by decide)) ?_
        obtain ⟨F144, eF144⟩ : ∃ z : Nat → Int64, z = vp_updL F128 (2 : Int32).toNatClampNeg v143 := ⟨_, rfl⟩
        rw [← eF144]
        obtain ⟨h145, eh145⟩ : ∃ z : tw_H, z = tw_up h129 q91 (.inl (d.2 1, 8, .inr (.inl F144))) := ⟨_, rfl⟩
        rw [← eh145]
        have sp146 : tw_sp d τ (tw_rm h66 it61) g τ h145 := by rw [eh145]; exact sp130.wl n94 z95
        have f147 : h145 it61 = some (.inr (2, [.int (nI j72), .int l73, .int (g.1 5), .ref ld_13])) := by rw [eh145, tw_up_n ne96]; exact f131
        have f148 : h145 q91 = some (.inl (d.2 1, 8, .inr (.inl F144))) := by rw [eh145]; exact tw_up_s
        refine tw_dup dX10_ofHouseNow_134 rfl ?_
        refine tw_iconst (v := 3) dX10_ofHouseNow_135 (by decide) ?_
        refine tw_aload_n 3 dX10_ofHouseNow_136 rfl rfl ?_
        obtain ⟨e149, f150, x_151, y_152, dy_153, p_154, rfl, k155, k156, k157, k158⟩ := sp146.1 r43 23 q41k.1 (by decide)
        refine tw_get (v := .ref p_154) rfl in_13 3 dX10_ofHouseNow_137 w_1344 rfl (by decide) f150 rfl ?_
        refine tw_iconst (v := 0) dX10_ofHouseNow_140 (by decide) ?_
        obtain ⟨e159, f160, F161, rfl, pf162⟩ := sp146.1 p_154 31 k155 (by decide)
        obtain ⟨v163, ev163⟩ : ∃ y : Int64, F161 (0 : Int32).toNatClampNeg = y := ⟨_, rfl⟩
        refine tw_lald (v := v163) dX10_ofHouseNow_141 f160 (vp_in_nI (n := 0) (by decide) (by decide)) ev163 ?_
        refine tw_last dX10_ofHouseNow_142 f148 (vp_in_nI (n := 3) (by decide) (by decide)) ?_
        obtain ⟨F164, eF164⟩ : ∃ z : Nat → Int64, z = vp_updL F144 (3 : Int32).toNatClampNeg v163 := ⟨_, rfl⟩
        rw [← eF164]
        obtain ⟨h165, eh165⟩ : ∃ z : tw_H, z = tw_up h145 q91 (.inl (d.2 1, 8, .inr (.inl F164))) := ⟨_, rfl⟩
        rw [← eh165]
        have sp166 : tw_sp d τ (tw_rm h66 it61) g τ h165 := by rw [eh165]; exact sp146.wl n94 z95
        have f167 : h165 it61 = some (.inr (2, [.int (nI j72), .int l73, .int (g.1 5), .ref ld_13])) := by rw [eh165, tw_up_n ne96]; exact f147
        have f168 : h165 q91 = some (.inl (d.2 1, 8, .inr (.inl F164))) := by rw [eh165]; exact tw_up_s
        refine tw_dup dX10_ofHouseNow_143 rfl ?_
        refine tw_iconst (v := 4) dX10_ofHouseNow_144 (by decide) ?_
        refine tw_aload_n 3 dX10_ofHouseNow_145 rfl rfl ?_
        obtain ⟨e169, f170, x_171, y_172, dy_173, p_174, rfl, k175, k176, k177, k178⟩ := sp166.1 r43 23 q41k.1 (by decide)
        refine tw_get (v := .ref p_174) rfl in_13 3 dX10_ofHouseNow_146 w_1344 rfl (by decide) f170 rfl ?_
        refine tw_iconst (v := 1) dX10_ofHouseNow_149 (by decide) ?_
        obtain ⟨e179, f180, F181, rfl, pf182⟩ := sp166.1 p_174 31 k175 (by decide)
        obtain ⟨v183, ev183⟩ : ∃ y : Int64, F181 (1 : Int32).toNatClampNeg = y := ⟨_, rfl⟩
        refine tw_lald (v := v183) dX10_ofHouseNow_150 f180 (vp_in_nI (n := 1) (by decide) (by decide)) ev183 ?_
        refine tw_last dX10_ofHouseNow_151 f168 (vp_in_nI (n := 4) (by decide) (by decide)) ?_
        obtain ⟨F184, eF184⟩ : ∃ z : Nat → Int64, z = vp_updL F164 (4 : Int32).toNatClampNeg v183 := ⟨_, rfl⟩
        rw [← eF184]
        obtain ⟨h185, eh185⟩ : ∃ z : tw_H, z = tw_up h165 q91 (.inl (d.2 1, 8, .inr (.inl F184))) := ⟨_, rfl⟩
        rw [← eh185]
        have sp186 : tw_sp d τ (tw_rm h66 it61) g τ h185 := by rw [eh185]; exact sp166.wl n94 z95
        have f187 : h185 it61 = some (.inr (2, [.int (nI j72), .int l73, .int (g.1 5), .ref ld_13])) := by rw [eh185, tw_up_n ne96]; exact f167
        have f188 : h185 q91 = some (.inl (d.2 1, 8, .inr (.inl F184))) := by rw [eh185]; exact tw_up_s
        refine tw_dup dX10_ofHouseNow_152 rfl ?_
        refine tw_iconst (v := 5) dX10_ofHouseNow_153 (by decide) ?_
        refine tw_aload_n 0 dX10_ofHouseNow_154 rfl rfl ?_
        refine tw_aload_n 3 dX10_ofHouseNow_155 rfl rfl ?_
        obtain ⟨e189, f190, x_191, y_192, dy_193, p_194, rfl, k195, k196, k197, k198⟩ := sp186.1 r43 23 q41k.1 (by decide)
        refine tw_get (v := .ref p_194) rfl in_13 3 dX10_ofHouseNow_156 w_1344 rfl (by decide) f190 rfl ?_
        obtain ⟨e199, f200, th_201, td_202, ds_203, fr_204, ca_205, us_206, wo_207, cm_208, lc_209, lh_210, ld_211, rfl, k212, k213, k214, k215, k216, k217, k218, k219, k220, k221, k222, k223, k224, k225, k226, k227, k228, k229, k230, k231, k232, k233⟩ := sp186.1 x 36 kx (by decide)
        refine tw_bl (tw_callV (M := mX10_ofHouseNow) (pc := 159) okX10_worth dX10_ofHouseNow_159 w_1505 rfl f200 [.ref p_194] [.int 5, .ref q91, .ref q91] rfl rfl ⟨by decide, by decide⟩ (Nat.le_of_ble_eq_true rfl) (c_X10_worth d g τ h185 sp186.1 x kx p_194 k195) 0 0 (Nat.le_of_ble_eq_true rfl) (Nat.le_of_ble_eq_true rfl)) (fun r236 h235 q234 => ?_) (fun E h1 q => q.elim)
        rw [q234]
        refine tw_last dX10_ofHouseNow_162 f188 (vp_in_nI (n := 5) (by decide) (by decide)) ?_
        obtain ⟨F237, eF237⟩ : ∃ z : Nat → Int64, z = vp_updL F184 (5 : Int32).toNatClampNeg r236 := ⟨_, rfl⟩
        rw [← eF237]
        obtain ⟨h238, eh238⟩ : ∃ z : tw_H, z = tw_up h185 q91 (.inl (d.2 1, 8, .inr (.inl F237))) := ⟨_, rfl⟩
        rw [← eh238]
        have sp239 : tw_sp d τ (tw_rm h66 it61) g τ h238 := by rw [eh238]; exact sp186.wl n94 z95
        have f240 : h238 it61 = some (.inr (2, [.int (nI j72), .int l73, .int (g.1 5), .ref ld_13])) := by rw [eh238, tw_up_n ne96]; exact f187
        have f241 : h238 q91 = some (.inl (d.2 1, 8, .inr (.inl F237))) := by rw [eh238]; exact tw_up_s
        refine tw_dup dX10_ofHouseNow_163 rfl ?_
        refine tw_bipush (v := 6) dX10_ofHouseNow_164 (by decide) ?_
        refine tw_iload 4 dX10_ofHouseNow_166 rfl ?_
        refine tw_i2l dX10_ofHouseNow_168 ?_
        refine tw_nml (fun v242 ev242 => ?_)
        refine tw_last dX10_ofHouseNow_169 f241 (vp_in_nI (n := 6) (by decide) (by decide)) ?_
        obtain ⟨F243, eF243⟩ : ∃ z : Nat → Int64, z = vp_updL F237 (6 : Int32).toNatClampNeg v242 := ⟨_, rfl⟩
        rw [← eF243]
        obtain ⟨h244, eh244⟩ : ∃ z : tw_H, z = tw_up h238 q91 (.inl (d.2 1, 8, .inr (.inl F243))) := ⟨_, rfl⟩
        rw [← eh244]
        have sp245 : tw_sp d τ (tw_rm h66 it61) g τ h244 := by rw [eh244]; exact sp239.wl n94 z95
        have f246 : h244 it61 = some (.inr (2, [.int (nI j72), .int l73, .int (g.1 5), .ref ld_13])) := by rw [eh244, tw_up_n ne96]; exact f240
        have f247 : h244 q91 = some (.inl (d.2 1, 8, .inr (.inl F243))) := by rw [eh244]; exact tw_up_s
        refine tw_dup dX10_ofHouseNow_170 rfl ?_
        refine tw_bipush (v := 7) dX10_ofHouseNow_171 (by decide) ?_
        refine tw_iload 5 dX10_ofHouseNow_173 rfl ?_
        refine tw_i2l dX10_ofHouseNow_175 ?_
        refine tw_nml (fun v248 ev248 => ?_)
        refine tw_last dX10_ofHouseNow_176 f247 (vp_in_nI (n := 7) (by decide) (by decide)) ?_
        obtain ⟨F249, eF249⟩ : ∃ z : Nat → Int64, z = vp_updL F243 (7 : Int32).toNatClampNeg v248 := ⟨_, rfl⟩
        rw [← eF249]
        obtain ⟨h250, eh250⟩ : ∃ z : tw_H, z = tw_up h244 q91 (.inl (d.2 1, 8, .inr (.inl F249))) := ⟨_, rfl⟩
        rw [← eh250]
        have sp251 : tw_sp d τ (tw_rm h66 it61) g τ h250 := by rw [eh250]; exact sp245.wl n94 z95
        have f252 : h250 it61 = some (.inr (2, [.int (nI j72), .int l73, .int (g.1 5), .ref ld_13])) := by rw [eh250, tw_up_n ne96]; exact f246
        have f253 : h250 q91 = some (.inl (d.2 1, 8, .inr (.inl F249))) := by rw [eh250]; exact tw_up_s
        refine tw_astore [(6, .ref q91), (0, .ref x), (1, .int (nI a)), (2, .int w9), (3, .ref r43), (4, .int x69), (5, .int x70)] dX10_ofHouseNow_177 (by decide) rfl ?_
        refine tw_aload 0 dX10_ofHouseNow_179 rfl ?_
        refine tw_iload_n 3 dX10_ofHouseNow_181 rfl rfl ?_
        obtain ⟨v254, ev254⟩ : ∃ y : Int64, F249 (w9).toNatClampNeg = y := ⟨_, rfl⟩
        refine tw_lald (v := v254) dX10_ofHouseNow_182 f253 hw9 ev254 ?_
        refine tw_l2i dX10_ofHouseNow_183 ?_
        refine tw_nmi (fun v255 ev255 => ?_)
        exact tw_iret dX10_ofHouseNow_184 rfl (Or.inl ⟨_, rfl, (sp67.trm n64 sp251)⟩)
      · rw [q87r]
        refine tw_if_eq 106 dX10_ofHouseNow_34 (by decide) (fun c256 => absurd c256 (by decide)) (fun _ => ?_)
        refine tw_aload 6 dX10_ofHouseNow_37 rfl ?_
        have k257 : τ el84 = 29 := k85.resolve_left (fun q => absurd q87j (by rw [q.2.1]; exact Nat.not_lt_zero _))
        obtain ⟨e258, f259, ⟨F260, rfl, hc261, hc262⟩, un263⟩ := sp77.1 el84 29 k257 (by decide)
        obtain ⟨y264, hy265, ky266⟩ := hc262 j72 q87j
        refine tw_br (tw_callF (M := mX10_ofHouseNow) (pc := 39) (n9 := 0) (ci := 2) tw_next ok_itNext w_1421 w_1419 (fun s H z => z.2.2.2.2.2.2.2.2.2) (by decide +kernel) dX10_ofHouseNow_39 w_1416 rfl ft78 [] [] rfl rfl ⟨by decide, by decide⟩ (Nat.le_of_ble_eq_true rfl) (c_next d h76 it61 ld_13 el84 j72 (g.2 5) y264 l73 (g.1 5) F260 ft78 f83 f259 q87j hc261 hy265) 1 8 (Nat.le_of_ble_eq_true rfl) (Nat.le_of_ble_eq_true rfl)) (fun r269 h268 q267 => ?_) (fun E h1 q => q.elim)
        obtain ⟨q267r, q267e⟩ := q267
        rw [q267r]
        have sp270 : tw_sp d τ (tw_rm h66 it61) g τ h268 := by rw [q267e]; exact sp77.wl tw_rm_s zt79
        have f271 : h268 it61 = some (.inr (2, [.int (nI (j72 + 1)), .int (nI j72), .int (g.1 5), .ref ld_13])) := by rw [q267e]; exact tw_up_s
        obtain ⟨e272, f273, v_274, dy_275, pd_276, i_277, j_278, rfl, k279, k280, k281, k282⟩ := sp270.1 y264 22 ky266 (by decide)
        refine tw_castS (ci := 12) rfl dX10_ofHouseNow_44 w_1433 f273 ?_
        refine tw_astore [(7, .ref y264), (0, .ref x), (1, .int (nI a)), (2, .int w9), (3, .ref r43), (4, .int x69), (5, .int x70), (6, .ref it61)] dX10_ofHouseNow_47 (by decide) rfl ?_
        refine tw_iload 5 dX10_ofHouseNow_49 rfl ?_
        refine tw_aload 0 dX10_ofHouseNow_51 rfl ?_
        refine tw_get (v := .int pd_276) rfl in_12 4 dX10_ofHouseNow_53 w_1443 rfl (by decide) f273 rfl ?_
        refine tw_if_ne 72 dX10_ofHouseNow_56 (by decide) (fun c283 => ?_) (fun c283 => ?_)
        · refine tw_iconst (v := 0) dX10_ofHouseNow_72 (by decide) ?_
          refine tw_iadd dX10_ofHouseNow_73 ?_
          refine tw_nmi (fun v284 ev284 => ?_)
          refine tw_istore [(4, .int v284), (7, .ref y264), (0, .ref x), (1, .int (nI a)), (2, .int w9), (3, .ref r43), (5, .int x70), (6, .ref it61)] dX10_ofHouseNow_74 (by decide) rfl ?_
          refine tw_iload 6 dX10_ofHouseNow_76 rfl ?_
          refine tw_aload 1 dX10_ofHouseNow_78 rfl ?_
          refine tw_get (v := .int pd_276) rfl in_12 4 dX10_ofHouseNow_80 w_1443 rfl (by decide) f273 rfl ?_
          refine tw_if_ne 99 dX10_ofHouseNow_83 (by decide) (fun c285 => ?_) (fun c285 => ?_)
          · refine tw_iconst (v := 0) dX10_ofHouseNow_99 (by decide) ?_
            refine tw_iadd dX10_ofHouseNow_100 ?_
            refine tw_nmi (fun v286 ev286 => ?_)
            refine tw_istore [(5, .int v286), (4, .int v284), (7, .ref y264), (0, .ref x), (1, .int (nI a)), (2, .int w9), (3, .ref r43), (6, .ref it61)] dX10_ofHouseNow_101 (by decide) rfl ?_
            refine tw_goto 27 dX10_ofHouseNow_103 (by decide) ?_
            refine tw_lv [3, 4, 5, 6, 1, 0, 7] rfl ?_
            exact ih74 ((j72 + 1)) (nI j72) v284 v286 _ sp270 f271 zt79  (by omega) (by omega)
          · refine tw_aload 1 dX10_ofHouseNow_86 rfl ?_
            refine tw_get (v := .int (nI j_278)) rfl in_12 1 dX10_ofHouseNow_88 w_1440 rfl (by decide) f273 rfl ?_
            refine tw_iload_n 3 dX10_ofHouseNow_91 rfl rfl ?_
            refine tw_icmp_ne 99 dX10_ofHouseNow_92 (by decide) (fun c287 => ?_) (fun c287 => ?_)
            · refine tw_iconst (v := 0) dX10_ofHouseNow_99 (by decide) ?_
              refine tw_iadd dX10_ofHouseNow_100 ?_
              refine tw_nmi (fun v288 ev288 => ?_)
              refine tw_istore [(5, .int v288), (4, .int v284), (7, .ref y264), (0, .ref x), (1, .int (nI a)), (2, .int w9), (3, .ref r43), (6, .ref it61)] dX10_ofHouseNow_101 (by decide) rfl ?_
              refine tw_goto 27 dX10_ofHouseNow_103 (by decide) ?_
              refine tw_lv [3, 4, 5, 6, 1, 0, 7] rfl ?_
              exact ih74 ((j72 + 1)) (nI j72) v284 v288 _ sp270 f271 zt79  (by omega) (by omega)
            · refine tw_iconst (v := 1) dX10_ofHouseNow_95 (by decide) ?_
              refine tw_goto 100 dX10_ofHouseNow_96 (by decide) ?_
              refine tw_iadd dX10_ofHouseNow_100 ?_
              refine tw_nmi (fun v289 ev289 => ?_)
              refine tw_istore [(5, .int v289), (4, .int v284), (7, .ref y264), (0, .ref x), (1, .int (nI a)), (2, .int w9), (3, .ref r43), (6, .ref it61)] dX10_ofHouseNow_101 (by decide) rfl ?_
              refine tw_goto 27 dX10_ofHouseNow_103 (by decide) ?_
              refine tw_lv [3, 4, 5, 6, 1, 0, 7] rfl ?_
              exact ih74 ((j72 + 1)) (nI j72) v284 v289 _ sp270 f271 zt79  (by omega) (by omega)
        · refine tw_aload 0 dX10_ofHouseNow_59 rfl ?_
          refine tw_get (v := .int (nI i_277)) rfl in_12 0 dX10_ofHouseNow_61 w_1439 rfl (by decide) f273 rfl ?_
          refine tw_iload_n 2 dX10_ofHouseNow_64 rfl rfl ?_
          refine tw_icmp_ne 72 dX10_ofHouseNow_65 (by decide) (fun c290 => ?_) (fun c290 => ?_)
          · refine tw_iconst (v := 0) dX10_ofHouseNow_72 (by decide) ?_
            refine tw_iadd dX10_ofHouseNow_73 ?_
            refine tw_nmi (fun v291 ev291 => ?_)
            refine tw_istore [(4, .int v291), (7, .ref y264), (0, .ref x), (1, .int (nI a)), (2, .int w9), (3, .ref r43), (5, .int x70), (6, .ref it61)] dX10_ofHouseNow_74 (by decide) rfl ?_
            refine tw_iload 6 dX10_ofHouseNow_76 rfl ?_
            refine tw_aload 1 dX10_ofHouseNow_78 rfl ?_
            refine tw_get (v := .int pd_276) rfl in_12 4 dX10_ofHouseNow_80 w_1443 rfl (by decide) f273 rfl ?_
            refine tw_if_ne 99 dX10_ofHouseNow_83 (by decide) (fun c292 => ?_) (fun c292 => ?_)
            · refine tw_iconst (v := 0) dX10_ofHouseNow_99 (by decide) ?_
              refine tw_iadd dX10_ofHouseNow_100 ?_
              refine tw_nmi (fun v293 ev293 => ?_)
              refine tw_istore [(5, .int v293), (4, .int v291), (7, .ref y264), (0, .ref x), (1, .int (nI a)), (2, .int w9), (3, .ref r43), (6, .ref it61)] dX10_ofHouseNow_101 (by decide) rfl ?_
              refine tw_goto 27 dX10_ofHouseNow_103 (by decide) ?_
              refine tw_lv [3, 4, 5, 6, 1, 0, 7] rfl ?_
              exact ih74 ((j72 + 1)) (nI j72) v291 v293 _ sp270 f271 zt79  (by omega) (by omega)
            · refine tw_aload 1 dX10_ofHouseNow_86 rfl ?_
              refine tw_get (v := .int (nI j_278)) rfl in_12 1 dX10_ofHouseNow_88 w_1440 rfl (by decide) f273 rfl ?_
              refine tw_iload_n 3 dX10_ofHouseNow_91 rfl rfl ?_
              refine tw_icmp_ne 99 dX10_ofHouseNow_92 (by decide) (fun c294 => ?_) (fun c294 => ?_)
              · refine tw_iconst (v := 0) dX10_ofHouseNow_99 (by decide) ?_
                refine tw_iadd dX10_ofHouseNow_100 ?_
                refine tw_nmi (fun v295 ev295 => ?_)
                refine tw_istore [(5, .int v295), (4, .int v291), (7, .ref y264), (0, .ref x), (1, .int (nI a)), (2, .int w9), (3, .ref r43), (6, .ref it61)] dX10_ofHouseNow_101 (by decide) rfl ?_
                refine tw_goto 27 dX10_ofHouseNow_103 (by decide) ?_
                refine tw_lv [3, 4, 5, 6, 1, 0, 7] rfl ?_
                exact ih74 ((j72 + 1)) (nI j72) v291 v295 _ sp270 f271 zt79  (by omega) (by omega)
              · refine tw_iconst (v := 1) dX10_ofHouseNow_95 (by decide) ?_
                refine tw_goto 100 dX10_ofHouseNow_96 (by decide) ?_
                refine tw_iadd dX10_ofHouseNow_100 ?_
                refine tw_nmi (fun v296 ev296 => ?_)
                refine tw_istore [(5, .int v296), (4, .int v291), (7, .ref y264), (0, .ref x), (1, .int (nI a)), (2, .int w9), (3, .ref r43), (6, .ref it61)] dX10_ofHouseNow_101 (by decide) rfl ?_
                refine tw_goto 27 dX10_ofHouseNow_103 (by decide) ?_
                refine tw_lv [3, 4, 5, 6, 1, 0, 7] rfl ?_
                exact ih74 ((j72 + 1)) (nI j72) v291 v296 _ sp270 f271 zt79  (by omega) (by omega)
          · refine tw_iconst (v := 1) dX10_ofHouseNow_68 (by decide) ?_
            refine tw_goto 73 dX10_ofHouseNow_69 (by decide) ?_
            refine tw_iadd dX10_ofHouseNow_73 ?_
            refine tw_nmi (fun v297 ev297 => ?_)
            refine tw_istore [(4, .int v297), (7, .ref y264), (0, .ref x), (1, .int (nI a)), (2, .int w9), (3, .ref r43), (5, .int x70), (6, .ref it61)] dX10_ofHouseNow_74 (by decide) rfl ?_
            refine tw_iload 6 dX10_ofHouseNow_76 rfl ?_
            refine tw_aload 1 dX10_ofHouseNow_78 rfl ?_
            refine tw_get (v := .int pd_276) rfl in_12 4 dX10_ofHouseNow_80 w_1443 rfl (by decide) f273 rfl ?_
            refine tw_if_ne 99 dX10_ofHouseNow_83 (by decide) (fun c298 => ?_) (fun c298 => ?_)
            · refine tw_iconst (v := 0) dX10_ofHouseNow_99 (by decide) ?_
              refine tw_iadd dX10_ofHouseNow_100 ?_
              refine tw_nmi (fun v299 ev299 => ?_)
              refine tw_istore [(5, .int v299), (4, .int v297), (7, .ref y264), (0, .ref x), (1, .int (nI a)), (2, .int w9), (3, .ref r43), (6, .ref it61)] dX10_ofHouseNow_101 (by decide) rfl ?_
              refine tw_goto 27 dX10_ofHouseNow_103 (by decide) ?_
              refine tw_lv [3, 4, 5, 6, 1, 0, 7] rfl ?_
              exact ih74 ((j72 + 1)) (nI j72) v297 v299 _ sp270 f271 zt79  (by omega) (by omega)
            · refine tw_aload 1 dX10_ofHouseNow_86 rfl ?_
              refine tw_get (v := .int (nI j_278)) rfl in_12 1 dX10_ofHouseNow_88 w_1440 rfl (by decide) f273 rfl ?_
              refine tw_iload_n 3 dX10_ofHouseNow_91 rfl rfl ?_
              refine tw_icmp_ne 99 dX10_ofHouseNow_92 (by decide) (fun c300 => ?_) (fun c300 => ?_)
              · refine tw_iconst (v := 0) dX10_ofHouseNow_99 (by decide) ?_
                refine tw_iadd dX10_ofHouseNow_100 ?_
                refine tw_nmi (fun v301 ev301 => ?_)
                refine tw_istore [(5, .int v301), (4, .int v297), (7, .ref y264), (0, .ref x), (1, .int (nI a)), (2, .int w9), (3, .ref r43), (6, .ref it61)] dX10_ofHouseNow_101 (by decide) rfl ?_
                refine tw_goto 27 dX10_ofHouseNow_103 (by decide) ?_
                refine tw_lv [3, 4, 5, 6, 1, 0, 7] rfl ?_
                exact ih74 ((j72 + 1)) (nI j72) v297 v301 _ sp270 f271 zt79  (by omega) (by omega)
              · refine tw_iconst (v := 1) dX10_ofHouseNow_95 (by decide) ?_
                refine tw_goto 100 dX10_ofHouseNow_96 (by decide) ?_
                refine tw_iadd dX10_ofHouseNow_100 ?_
                refine tw_nmi (fun v302 ev302 => ?_)
                refine tw_istore [(5, .int v302), (4, .int v297), (7, .ref y264), (0, .ref x), (1, .int (nI a)), (2, .int w9), (3, .ref r43), (6, .ref it61)] dX10_ofHouseNow_101 (by decide) rfl ?_
                refine tw_goto 27 dX10_ofHouseNow_103 (by decide) ?_
                refine tw_lv [3, 4, 5, 6, 1, 0, 7] rfl ?_
                exact ih74 ((j72 + 1)) (nI j72) v297 v302 _ sp270 f271 zt79  (by omega) (by omega)
  refine tw_lv [4, 5, 6, 3, 2, 1, 0] rfl ?_
  exact L75 (g.2 5 + 1) 0 (-1) 0 0 _ (tw_sp.rm sp67.1 it61) f68 z65  (by omega) (Nat.zero_le _)

set_option maxHeartbeats 4000000 in
set_option maxRecDepth 100000 in
theorem c_X10_ofHouse (d : tw_D) (g : tw_G) (τ : tw_K) (h : tw_H) (hw : tw_wt d g τ h) (x : Nat) (kx : τ x = 36) (a : Int32) (w9 : Int32) : tw_Ct d mX10_ofHouse 2 12 [.ref x, .int a, .int w9] h (tw_qi (fun r h1 => tw_sp d τ h g τ h1) tw_nx) := by
  refine tw_of (by decide +kernel) (Nat.le_of_ble_eq_true rfl) ?_
  show tw_W d mX10_ofHouse _ 0 [(0, .ref x), (1, .int a), (2, .int w9)] [] h 2 12
  have sp0 := tw_sp.rf hw
  refine tw_aload_n 0 dX10_ofHouse_0 rfl rfl ?_
  refine tw_aload_n 0 dX10_ofHouse_1 rfl rfl ?_
  refine tw_iload_n 1 dX10_ofHouse_2 rfl rfl ?_
  obtain ⟨e1, f2, th_3, td_4, ds_5, fr_6, ca_7, us_8, wo_9, cm_10, lc_11, lh_12, ld_13, rfl, k14, k15, k16, k17, k18, k19, k20, k21, k22, k23, k24, k25, k26, k27, k28, k29, k30, k31, k32, k33, k34, k35⟩ := sp0.1 x 36 kx (by decide)
  refine tw_bi (tw_callV (M := mX10_ofHouse) (pc := 3) okX10_isNoHouse dX10_ofHouse_3 w_1358 rfl f2 [.int a] [.ref x] rfl rfl ⟨by decide, by decide⟩ (Nat.le_of_ble_eq_true rfl) (c_X10_isNoHouse d g τ h sp0.1 x kx a) 2 12 (Nat.le_of_ble_eq_true rfl) (Nat.le_of_ble_eq_true rfl)) (fun r38 h37 q36 => ?_) (fun E h1 q => q.elim)
  obtain ⟨q36e, q36d⟩ := q36
  rw [q36e]
  rcases q36d with q36r | ⟨q36r, j39, q36j, q36k⟩
  · rw [q36r]
    refine tw_iconst (v := 1) dX10_ofHouse_6 (by decide) ?_
    refine tw_bi (tw_callV (M := mX10_ofHouse) (pc := 7) okX10_start dX10_ofHouse_7 w_1196 rfl f2 [.int 1, .int 1] [] rfl rfl ⟨by decide, by decide⟩ (Nat.le_of_ble_eq_true rfl) (c_X10_start d g τ h sp0.1 x kx 1 1 (by decide)) 2 12 (Nat.le_of_ble_eq_true rfl) (Nat.le_of_ble_eq_true rfl)) (fun r42 h41 q40 => ?_) (fun E h1 q => q.elim)
    obtain ⟨e43, he44, hs45, hr46, h347⟩ := q40
    have sp48 : tw_sp d τ h g τ h41 := by rw [he44]; exact sp0.set kx (by decide) hs45
    rcases hr46 with ei49 | ⟨ei49, ei49b⟩
    · rw [ei49]
      refine tw_if_ne 36 dX10_ofHouse_10 (by decide) (fun _ => ?_) (fun c50 => absurd c50 (by decide))
      refine tw_iconst (v := 0) dX10_ofHouse_36 (by decide) ?_
      refine tw_goto 46 dX10_ofHouse_37 (by decide) ?_
      exact tw_iret dX10_ofHouse_46 rfl (Or.inl ⟨_, rfl, sp48⟩)
    · exact absurd ei49b (by decide)
  · rw [q36r]
    subst q36k
    refine tw_iconst (v := 1) dX10_ofHouse_6 (by decide) ?_
    refine tw_bi (tw_callV (M := mX10_ofHouse) (pc := 7) okX10_start dX10_ofHouse_7 w_1196 rfl f2 [.int 0, .int 1] [] rfl rfl ⟨by decide, by decide⟩ (Nat.le_of_ble_eq_true rfl) (c_X10_start d g τ h sp0.1 x kx 0 1 (by decide)) 2 12 (Nat.le_of_ble_eq_true rfl) (Nat.le_of_ble_eq_true rfl)) (fun r53 h52 q51 => ?_) (fun E h1 q => q.elim)
    obtain ⟨e54, he55, hs56, hr57, h358⟩ := q51
    have sp59 : tw_sp d τ h g τ h52 := by rw [he55]; exact sp0.set kx (by decide) hs56
    rcases hr57 with ei60 | ⟨ei60, ei60b⟩
    · rw [ei60]
      refine tw_if_ne 36 dX10_ofHouse_10 (by decide) (fun _ => ?_) (fun c61 => absurd c61 (by decide))
      refine tw_iconst (v := 0) dX10_ofHouse_36 (by decide) ?_
      refine tw_goto 46 dX10_ofHouse_37 (by decide) ?_
      exact tw_iret dX10_ofHouse_46 rfl (Or.inl ⟨_, rfl, sp59⟩)
    · rw [ei60]
      refine tw_if_ne 36 dX10_ofHouse_10 (by decide) (fun c62 => absurd (by decide) c62) (fun _ => ?_)
      refine tw_aload_n 0 dX10_ofHouse_13 rfl rfl ?_
      refine tw_iload_n 2 dX10_ofHouse_14 rfl rfl ?_
      refine tw_iconst (v := 0) dX10_ofHouse_15 (by decide) ?_
      refine tw_bipush (v := 7) dX10_ofHouse_16 (by decide) ?_
      refine tw_bi (tw_callS (M := mX10_ofHouse) (pc := 18) okX10_isIn dX10_ofHouse_18 w_1192 [.int w9, .int 0, .int 7] [.ref x] rfl rfl ⟨by decide, by decide⟩ (Nat.le_of_ble_eq_true rfl) (c_X10_isIn d g τ h52 sp59.1 w9 0 7) 2 12 (Nat.le_of_ble_eq_true rfl) (Nat.le_of_ble_eq_true rfl)) (fun r65 h64 q63 => ?_) (fun E h1 q => q.elim)
      obtain ⟨q63e, q63d⟩ := q63
      rw [q63e]
      rcases q63d with ⟨q63r, q63n⟩ | ⟨q63r, q63a, q63b⟩
      · rw [q63r]
        refine tw_if_ne 28 dX10_ofHouse_21 (by decide) (fun c66 => absurd (by decide) c66) (fun _ => ?_)
        refine tw_iconst (v := 1) dX10_ofHouse_24 (by decide) ?_
        refine tw_goto 29 dX10_ofHouse_25 (by decide) ?_
        refine tw_iconst (v := 2) dX10_ofHouse_29 (by decide) ?_
        obtain ⟨e67, f68, th_69, td_70, ds_71, fr_72, ca_73, us_74, wo_75, cm_76, lc_77, lh_78, ld_79, rfl, k80, k81, k82, k83, k84, k85, k86, k87, k88, k89, k90, k91, k92, k93, k94, k95, k96, k97, k98, k99, k100, k101⟩ := sp59.1 x 36 kx (by decide)
        refine tw_bi (tw_callV (M := mX10_ofHouse) (pc := 30) okX10_refuse dX10_ofHouse_30 w_1200 rfl f68 [.int 1, .int 2] [] rfl rfl ⟨by decide, by decide⟩ (Nat.le_of_ble_eq_true rfl) (c_X10_refuse d g τ h52 sp59.1 x kx 1 2 (by decide)) 2 12 (Nat.le_of_ble_eq_true rfl) (Nat.le_of_ble_eq_true rfl)) (fun r104 h103 q102 => ?_) (fun E h1 q => q.elim)
        obtain ⟨e105, he106, hs107, hr108, h3109⟩ := q102
        have sp110 : tw_sp d τ h g τ h103 := by rw [he106]; exact sp59.set kx (by decide) hs107
        rcases hr108 with ei111 | ⟨ei111, ei111b⟩
        · rw [ei111]
          refine tw_if_eq 40 dX10_ofHouse_33 (by decide) (fun c112 => absurd c112 (by decide)) (fun _ => ?_)
          refine tw_iconst (v := 0) dX10_ofHouse_36 (by decide) ?_
          refine tw_goto 46 dX10_ofHouse_37 (by decide) ?_
          exact tw_iret dX10_ofHouse_46 rfl (Or.inl ⟨_, rfl, sp110⟩)
        · exact absurd ei111b (by decide)
      · rw [q63r]
        refine tw_if_ne 28 dX10_ofHouse_21 (by decide) (fun _ => ?_) (fun c113 => absurd c113 (by decide))
        refine tw_iconst (v := 0) dX10_ofHouse_28 (by decide) ?_
        refine tw_iconst (v := 2) dX10_ofHouse_29 (by decide) ?_
        obtain ⟨e114, f115, th_116, td_117, ds_118, fr_119, ca_120, us_121, wo_122, cm_123, lc_124, lh_125, ld_126, rfl, k127, k128, k129, k130, k131, k132, k133, k134, k135, k136, k137, k138, k139, k140, k141, k142, k143, k144, k145, k146, k147, k148⟩ := sp59.1 x 36 kx (by decide)
        refine tw_bi (tw_callV (M := mX10_ofHouse) (pc := 30) okX10_refuse dX10_ofHouse_30 w_1200 rfl f115 [.int 0, .int 2] [] rfl rfl ⟨by decide, by decide⟩ (Nat.le_of_ble_eq_true rfl) (c_X10_refuse d g τ h52 sp59.1 x kx 0 2 (by decide)) 2 12 (Nat.le_of_ble_eq_true rfl) (Nat.le_of_ble_eq_true rfl)) (fun r151 h150 q149 => ?_) (fun E h1 q => q.elim)
        obtain ⟨e152, he153, hs154, hr155, h3156⟩ := q149
        have sp157 : tw_sp d τ h g τ h150 := by rw [he153]; exact sp59.set kx (by decide) hs154
        rcases hr155 with ei158 | ⟨ei158, ei158b⟩
        · rw [ei158]
          refine tw_if_eq 40 dX10_ofHouse_33 (by decide) (fun c159 => absurd c159 (by decide)) (fun _ => ?_)
          refine tw_iconst (v := 0) dX10_ofHouse_36 (by decide) ?_
          refine tw_goto 46 dX10_ofHouse_37 (by decide) ?_
          exact tw_iret dX10_ofHouse_46 rfl (Or.inl ⟨_, rfl, sp157⟩)
        · rw [ei158]
          refine tw_if_eq 40 dX10_ofHouse_33 (by decide) (fun _ => ?_) (fun c160 => absurd (by decide) c160)
          refine tw_aload_n 0 dX10_ofHouse_40 rfl rfl ?_
          refine tw_iload_n 1 dX10_ofHouse_41 rfl rfl ?_
          refine tw_iload_n 2 dX10_ofHouse_42 rfl rfl ?_
          obtain ⟨e161, f162, th_163, td_164, ds_165, fr_166, ca_167, us_168, wo_169, cm_170, lc_171, lh_172, ld_173, rfl, k174, k175, k176, k177, k178, k179, k180, k181, k182, k183, k184, k185, k186, k187, k188, k189, k190, k191, k192, k193, k194, k195⟩ := sp157.1 x 36 kx (by decide)
          refine tw_bi (tw_callV (M := mX10_ofHouse) (pc := 43) okX10_ofHouseNow dX10_ofHouse_43 w_1513 rfl f162 [.int (nI j39), .int w9] [] rfl rfl ⟨by decide, by decide⟩ (Nat.le_of_ble_eq_true rfl) (c_X10_ofHouseNow d g τ h150 sp157.1 x kx w9 j39 (by omega) (tw_irng (N := 8) q63a q63b (by decide) (by decide))) 0 0 (Nat.le_of_ble_eq_true rfl) (Nat.le_of_ble_eq_true rfl)) (fun r198 h197 q196 => ?_) (fun E h1 q => q.elim)
          have sp199 := sp157.tr q196
          exact tw_iret dX10_ofHouse_46 rfl (Or.inl ⟨_, rfl, sp199⟩)

set_option maxHeartbeats 4000000 in
set_option maxRecDepth 100000 in
theorem c_X10_ofDebtNow (d : tw_D) (g : tw_G) (τ : tw_K) (h : tw_H) (hw : tw_wt d g τ h) (x : Nat) (kx : τ x = 36) (y : Nat) (ky : τ y = 22) (w9 : Int32) (hw9 : vp_in w9 7) : tw_Ct d mX10_ofDebtNow 1 7 [.ref x, .ref y, .int w9] h (tw_qi (fun r h1 => tw_sp d τ h g τ h1) tw_nx) := by
  refine tw_of (by decide +kernel) (Nat.le_of_ble_eq_true rfl) ?_
  show tw_W d mX10_ofDebtNow _ 0 [(0, .ref x), (1, .ref y), (2, .int w9)] [] h 1 7
  have sp0 := tw_sp.rf hw
  refine tw_bipush (v := 7) dX10_ofDebtNow_0 (by decide) ?_
  refine tw_newa (a0 := (7, .inl (fun _ => 0))) 0 rfl dX10_ofDebtNow_2 rfl w_500 (fun _ => rfl) (by decide) (by decide) (by decide) 0 0 (Nat.le_of_ble_eq_true rfl) (Nat.le_of_ble_eq_true rfl) (fun q1 hq2 hA3 => ?_)
  have n4 := sp0.nn hq2
  have z5 := sp0.1.none hq2
  obtain ⟨h6, eh6⟩ : ∃ z : tw_H, z = tw_up h q1 (.inl (d.2 0, 7, .inl (fun _ => 0))) := ⟨_, rfl⟩
  rw [← eh6]
  have sp7 : tw_sp d τ h g τ h6 := by rw [eh6]; exact sp0.mk hq2
  have f8 : h6 q1 = some (.inl (d.2 0, 7, .inl (fun _ => 0))) := by rw [eh6]; exact tw_up_s
  refine tw_dup dX10_ofDebtNow_4 rfl ?_
  refine tw_iconst (v := 0) dX10_ofDebtNow_5 (by decide) ?_
  refine tw_aload_n 1 dX10_ofDebtNow_6 rfl rfl ?_
  obtain ⟨e9, f10, v_11, dy_12, pd_13, i_14, j_15, rfl, k16, k17, k18, k19⟩ := sp7.1 y 22 ky (by decide)
  refine tw_get (v := .int (nI i_14)) rfl in_12 0 dX10_ofDebtNow_7 w_1439 rfl (by decide) f10 rfl ?_
  refine tw_iast dX10_ofDebtNow_10 f8 (vp_in_nI (n := 0) (by decide) (by decide)) ?_
  obtain ⟨F20, eF20⟩ : ∃ z : Nat → Int32, z = upd (fun _ => 0) (0 : Int32).toNatClampNeg (nI i_14) := ⟨_, rfl⟩
  rw [← eF20]
  obtain ⟨h21, eh21⟩ : ∃ z : tw_H, z = tw_up h6 q1 (.inl (d.2 0, 7, .inl F20)) := ⟨_, rfl⟩
  rw [← eh21]
  have sp22 : tw_sp d τ h g τ h21 := by rw [eh21]; exact sp7.wl n4 z5
  have f23 : h21 q1 = some (.inl (d.2 0, 7, .inl F20)) := by rw [eh21]; exact tw_up_s
  refine tw_dup dX10_ofDebtNow_11 rfl ?_
  refine tw_iconst (v := 1) dX10_ofDebtNow_12 (by decide) ?_
  refine tw_aload_n 1 dX10_ofDebtNow_13 rfl rfl ?_
  obtain ⟨e24, f25, v_26, dy_27, pd_28, i_29, j_30, rfl, k31, k32, k33, k34⟩ := sp22.1 y 22 ky (by decide)
  refine tw_get (v := .int (nI j_30)) rfl in_12 1 dX10_ofDebtNow_14 w_1440 rfl (by decide) f25 rfl ?_
  refine tw_iast dX10_ofDebtNow_17 f23 (vp_in_nI (n := 1) (by decide) (by decide)) ?_
  obtain ⟨F35, eF35⟩ : ∃ z : Nat → Int32, z = upd F20 (1 : Int32).toNatClampNeg (nI j_30) := ⟨_, rfl⟩
  rw [← eF35]
  obtain ⟨h36, eh36⟩ : ∃ z : tw_H, z = tw_up h21 q1 (.inl (d.2 0, 7, .inl F35)) := ⟨_, rfl⟩
  rw [← eh36]
  have sp37 : tw_sp d τ h g τ h36 := by rw [eh36]; exact sp22.wl n4 z5
  have f38 : h36 q1 = some (.inl (d.2 0, 7, .inl F35)) := by rw [eh36]; exact tw_up_s
  refine tw_dup dX10_ofDebtNow_18 rfl ?_
  refine tw_iconst (v := 2) dX10_ofDebtNow_19 (by decide) ?_
  refine tw_aload_n 1 dX10_ofDebtNow_20 rfl rfl ?_
  obtain ⟨e39, f40, v_41, dy_42, pd_43, i_44, j_45, rfl, k46, k47, k48, k49⟩ := sp37.1 y 22 ky (by decide)
  refine tw_get (v := .int v_41) rfl in_12 2 dX10_ofDebtNow_21 w_1441 rfl (by decide) f40 rfl ?_
  refine tw_iast dX10_ofDebtNow_24 f38 (vp_in_nI (n := 2) (by decide) (by decide)) ?_
  obtain ⟨F50, eF50⟩ : ∃ z : Nat → Int32, z = upd F35 (2 : Int32).toNatClampNeg v_41 := ⟨_, rfl⟩
  rw [← eF50]
  obtain ⟨h51, eh51⟩ : ∃ z : tw_H, z = tw_up h36 q1 (.inl (d.2 0, 7, .inl F50)) := ⟨_, rfl⟩
  rw [← eh51]
  have sp52 : tw_sp d τ h g τ h51 := by rw [eh51]; exact sp37.wl n4 z5
  have f53 : h51 q1 = some (.inl (d.2 0, 7, .inl F50)) := by rw [eh51]; exact tw_up_s
  refine tw_dup dX10_ofDebtNow_25 rfl ?_
  refine tw_iconst (v := 3) dX10_ofDebtNow_26 (by decide) ?_
  refine tw_aload_n 1 dX10_ofDebtNow_27 rfl rfl ?_
  obtain ⟨e54, f55, v_56, dy_57, pd_58, i_59, j_60, rfl, k61, k62, k63, k64⟩ := sp52.1 y 22 ky (by decide)
  refine tw_get (v := .int dy_57) rfl in_12 3 dX10_ofDebtNow_28 w_1442 rfl (by decide) f55 rfl ?_
  refine tw_iast dX10_ofDebtNow_31 f53 (vp_in_nI (n := 3) (by decide) (by decide)) ?_
  obtain ⟨F65, eF65⟩ : ∃ z : Nat → Int32, z = upd F50 (3 : Int32).toNatClampNeg dy_57 := ⟨_, rfl⟩
  rw [← eF65]
  obtain ⟨h66, eh66⟩ : ∃ z : tw_H, z = tw_up h51 q1 (.inl (d.2 0, 7, .inl F65)) := ⟨_, rfl⟩
  rw [← eh66]
  have sp67 : tw_sp d τ h g τ h66 := by rw [eh66]; exact sp52.wl n4 z5
  have f68 : h66 q1 = some (.inl (d.2 0, 7, .inl F65)) := by rw [eh66]; exact tw_up_s
  refine tw_dup dX10_ofDebtNow_32 rfl ?_
  refine tw_iconst (v := 4) dX10_ofDebtNow_33 (by decide) ?_
  refine tw_aload_n 0 dX10_ofDebtNow_34 rfl rfl ?_
  refine tw_aload_n 1 dX10_ofDebtNow_35 rfl rfl ?_
  obtain ⟨e69, f70, th_71, td_72, ds_73, fr_74, ca_75, us_76, wo_77, cm_78, lc_79, lh_80, ld_81, rfl, k82, k83, k84, k85, k86, k87, k88, k89, k90, k91, k92, k93, k94, k95, k96, k97, k98, k99, k100, k101, k102, k103⟩ := sp67.1 x 36 kx (by decide)
  refine tw_bi (tw_callV (M := mX10_ofDebtNow) (pc := 36) okX10_due dX10_ofDebtNow_36 w_1467 rfl f70 [.ref y] [.int 4, .ref q1, .ref q1] rfl rfl ⟨by decide, by decide⟩ (Nat.le_of_ble_eq_true rfl) (c_X10_due d g τ h66 sp67.1 x kx y ky) 0 0 (Nat.le_of_ble_eq_true rfl) (Nat.le_of_ble_eq_true rfl)) (fun r106 h105 q104 => ?_) (fun E h1 q => q.elim)
  rw [q104]
  refine tw_iast dX10_ofDebtNow_39 f68 (vp_in_nI (n := 4) (by decide) (by decide)) ?_
  obtain ⟨F107, eF107⟩ : ∃ z : Nat → Int32, z = upd F65 (4 : Int32).toNatClampNeg r106 := ⟨_, rfl⟩
  rw [← eF107]
  obtain ⟨h108, eh108⟩ : ∃ z : tw_H, z = tw_up h66 q1 (.inl (d.2 0, 7, .inl F107)) := ⟨_, rfl⟩
  rw [← eh108]
  have sp109 : tw_sp d τ h g τ h108 := by rw [eh108]; exact sp67.wl n4 z5
  have f110 : h108 q1 = some (.inl (d.2 0, 7, .inl F107)) := by rw [eh108]; exact tw_up_s
  refine tw_dup dX10_ofDebtNow_40 rfl ?_
  refine tw_iconst (v := 5) dX10_ofDebtNow_41 (by decide) ?_
  refine tw_aload_n 1 dX10_ofDebtNow_42 rfl rfl ?_
  obtain ⟨e111, f112, v_113, dy_114, pd_115, i_116, j_117, rfl, k118, k119, k120, k121⟩ := sp109.1 y 22 ky (by decide)
  refine tw_get (v := .int pd_115) rfl in_12 4 dX10_ofDebtNow_43 w_1443 rfl (by decide) f112 rfl ?_
  refine tw_if_eq 53 dX10_ofDebtNow_46 (by decide) (fun c122 => ?_) (fun c122 => ?_)
  · refine tw_iconst (v := 0) dX10_ofDebtNow_53 (by decide) ?_
    refine tw_iast dX10_ofDebtNow_54 f110 (vp_in_nI (n := 5) (by decide) (by decide)) ?_
    obtain ⟨F123, eF123⟩ : ∃ z : Nat → Int32, z = upd F107 (5 : Int32).toNatClampNeg 0 := ⟨_, rfl⟩
    rw [← eF123]
    obtain ⟨h124, eh124⟩ : ∃ z : tw_H, z = tw_up h108 q1 (.inl (d.2 0, 7, .inl F123)) := ⟨_, rfl⟩
    rw [← eh124]
    have sp125 : tw_sp d τ h g τ h124 := by rw [eh124]; exact sp109.wl n4 z5
    have f126 : h124 q1 = some (.inl (d.2 0, 7, .inl F123)) := by rw [eh124]; exact tw_up_s
    refine tw_dup dX10_ofDebtNow_55 rfl ?_
    refine tw_bipush (v := 6) dX10_ofDebtNow_56 (by decide) ?_
    refine tw_aload_n 0 dX10_ofDebtNow_58 rfl rfl ?_
    refine tw_aload_n 1 dX10_ofDebtNow_59 rfl rfl ?_
    obtain ⟨e127, f128, th_129, td_130, ds_131, fr_132, ca_133, us_134, wo_135, cm_136, lc_137, lh_138, ld_139, rfl, k140, k141, k142, k143, k144, k145, k146, k147, k148, k149, k150, k151, k152, k153, k154, k155, k156, k157, k158, k159, k160, k161⟩ := sp125.1 x 36 kx (by decide)
    refine tw_bi (tw_callV (M := mX10_ofDebtNow) (pc := 60) okX10_cheaper dX10_ofDebtNow_60 w_1525 rfl f128 [.ref y] [.int 6, .ref q1, .ref q1] rfl rfl ⟨by decide, by decide⟩ (Nat.le_of_ble_eq_true rfl) (c_X10_cheaper d g τ h124 sp125.1 x kx y ky) 0 0 (Nat.le_of_ble_eq_true rfl) (Nat.le_of_ble_eq_true rfl)) (fun r164 h163 q162 => ?_) (fun E h1 q => q.elim)
    rw [q162]
    refine tw_iast dX10_ofDebtNow_63 f126 (vp_in_nI (n := 6) (by decide) (by decide)) ?_
    obtain ⟨F165, eF165⟩ : ∃ z : Nat → Int32, z = upd F123 (6 : Int32).toNatClampNeg r164 := ⟨_, rfl⟩
    rw [← eF165]
    obtain ⟨h166, eh166⟩ : ∃ z : tw_H, z = tw_up h124 q1 (.inl (d.2 0, 7, .inl F165)) := ⟨_, rfl⟩
    rw [← eh166]
    have sp167 : tw_sp d τ h g τ h166 := by rw [eh166]; exact sp125.wl n4 z5
    have f168 : h166 q1 = some (.inl (d.2 0, 7, .inl F165)) := by rw [eh166]; exact tw_up_s
    refine tw_astore_n [(3, .ref q1), (0, .ref x), (1, .ref y), (2, .int w9)] dX10_ofDebtNow_64 rfl (by decide) rfl ?_
    refine tw_aload_n 0 dX10_ofDebtNow_65 rfl rfl ?_
    refine tw_iload_n 3 dX10_ofDebtNow_66 rfl rfl ?_
    obtain ⟨v169, ev169⟩ : ∃ y : Int32, F165 (w9).toNatClampNeg = y := ⟨_, rfl⟩
    refine tw_iald (v := v169) dX10_ofDebtNow_67 f168 hw9 ev169 ?_
    exact tw_iret dX10_ofDebtNow_68 rfl (Or.inl ⟨_, rfl, sp167⟩)
  · refine tw_iconst (v := 1) dX10_ofDebtNow_49 (by decide) ?_
    refine tw_goto 54 dX10_ofDebtNow_50 (by decide) ?_
    refine tw_iast dX10_ofDebtNow_54 f110 (vp_in_nI (n := 5) (by decide) (by decide)) ?_
    obtain ⟨F170, eF170⟩ : ∃ z : Nat → Int32, z = upd F107 (5 : Int32).toNatClampNeg 1 := ⟨_, rfl⟩
    rw [← eF170]
    obtain ⟨h171, eh171⟩ : ∃ z : tw_H, z = tw_up h108 q1 (.inl (d.2 0, 7, .inl F170)) := ⟨_, rfl⟩
    rw [← eh171]
    have sp172 : tw_sp d τ h g τ h171 := by rw [eh171]; exact sp109.wl n4 z5
    have f173 : h171 q1 = some (.inl (d.2 0, 7, .inl F170)) := by rw [eh171]; exact tw_up_s
    refine tw_dup dX10_ofDebtNow_55 rfl ?_
    refine tw_bipush (v := 6) dX10_ofDebtNow_56 (by decide) ?_
    refine tw_aload_n 0 dX10_ofDebtNow_58 rfl rfl ?_
    refine tw_aload_n 1 dX10_ofDebtNow_59 rfl rfl ?_
    obtain ⟨e174, f175, th_176, td_177, ds_178, fr_179, ca_180, us_181, wo_182, cm_183, lc_184, lh_185, ld_186, rfl, k187, k188, k189, k190, k191, k192, k193, k194, k195, k196, k197, k198, k199, k200, k201, k202, k203, k204, k205, k206, k207, k208⟩ := sp172.1 x 36 kx (by decide)
    refine tw_bi (tw_callV (M := mX10_ofDebtNow) (pc := 60) okX10_cheaper dX10_ofDebtNow_60 w_1525 rfl f175 [.ref y] [.int 6, .ref q1, .ref q1] rfl rfl ⟨by decide, by decide⟩ (Nat.le_of_ble_eq_true rfl) (c_X10_cheaper d g τ h171 sp172.1 x kx y ky) 0 0 (Nat.le_of_ble_eq_true rfl) (Nat.le_of_ble_eq_true rfl)) (fun r211 h210 q209 => ?_) (fun E h1 q => q.elim)
    rw [q209]
    refine tw_iast dX10_ofDebtNow_63 f173 (vp_in_nI (n := 6) (by decide) (by decide)) ?_
    obtain ⟨F212, eF212⟩ : ∃ z : Nat → Int32, z = upd F170 (6 : Int32).toNatClampNeg r211 := ⟨_, rfl⟩
    rw [← eF212]
    obtain ⟨h213, eh213⟩ : ∃ z : tw_H, z = tw_up h171 q1 (.inl (d.2 0, 7, .inl F212)) := ⟨_, rfl⟩
    rw [← eh213]
    have sp214 : tw_sp d τ h g τ h213 := by rw [eh213]; exact sp172.wl n4 z5
    have f215 : h213 q1 = some (.inl (d.2 0, 7, .inl F212)) := by rw [eh213]; exact tw_up_s
    refine tw_astore_n [(3, .ref q1), (0, .ref x), (1, .ref y), (2, .int w9)] dX10_ofDebtNow_64 rfl (by decide) rfl ?_
    refine tw_aload_n 0 dX10_ofDebtNow_65 rfl rfl ?_
    refine tw_iload_n 3 dX10_ofDebtNow_66 rfl rfl ?_
    obtain ⟨v216, ev216⟩ : ∃ y : Int32, F212 (w9).toNatClampNeg = y := ⟨_, rfl⟩
    refine tw_iald (v := v216) dX10_ofDebtNow_67 f215 hw9 ev216 ?_
    exact tw_iret dX10_ofDebtNow_68 rfl (Or.inl ⟨_, rfl, sp214⟩)

set_option maxHeartbeats 4000000 in
set_option maxRecDepth 100000 in
theorem c_X10_ofDebt (d : tw_D) (g : tw_G) (τ : tw_K) (h : tw_H) (hw : tw_wt d g τ h) (x : Nat) (kx : τ x = 36) (n : Int32) (w9 : Int32) : tw_Ct d mX10_ofDebt 1 7 [.ref x, .int n, .int w9] h (tw_qi (fun r h1 => tw_sp d τ h g τ h1) tw_nx) := by
  refine tw_of (by decide +kernel) (Nat.le_of_ble_eq_true rfl) ?_
  show tw_W d mX10_ofDebt _ 0 [(0, .ref x), (1, .int n), (2, .int w9)] [] h 1 7
  have sp0 := tw_sp.rf hw
  refine tw_aload_n 0 dX10_ofDebt_0 rfl rfl ?_
  refine tw_iload_n 1 dX10_ofDebt_1 rfl rfl ?_
  refine tw_iconst (v := 0) dX10_ofDebt_2 (by decide) ?_
  refine tw_aload_n 0 dX10_ofDebt_3 rfl rfl ?_
  obtain ⟨e1, f2, th_3, td_4, ds_5, fr_6, ca_7, us_8, wo_9, cm_10, lc_11, lh_12, ld_13, rfl, k14, k15, k16, k17, k18, k19, k20, k21, k22, k23, k24, k25, k26, k27, k28, k29, k30, k31, k32, k33, k34, k35⟩ := sp0.1 x 36 kx (by decide)
  refine tw_get (v := .ref ld_13) rfl in_14 11 dX10_ofDebt_4 w_1162 rfl (by decide) f2 rfl ?_
  obtain ⟨e36, f37, ⟨el38, rfl, k39⟩, k40⟩ := sp0.1 ld_13 26 k22 (by decide)
  refine tw_bi (tw_callV (M := mX10_ofDebt) (pc := 7) okJx4a65c_size_8abf5 dX10_ofDebt_7 w_1204 rfl f37 [] [.int 0, .int n, .ref x] rfl rfl ⟨by decide, by decide⟩ (Nat.le_of_ble_eq_true rfl) (c26_size d g τ h sp0.1 ld_13 k22) 1 7 (Nat.le_of_ble_eq_true rfl) (Nat.le_of_ble_eq_true rfl)) (fun r43 h42 q41 => ?_) (fun E h1 q => q.elim)
  obtain ⟨q41e, q41r⟩ := q41
  rw [q41e, q41r]
  refine tw_iconst (v := 1) dX10_ofDebt_10 (by decide) ?_
  refine tw_isub dX10_ofDebt_11 ?_
  refine tw_nmi (fun v44 ev44 => ?_)
  refine tw_bi (tw_callS (M := mX10_ofDebt) (pc := 12) okX10_isIn dX10_ofDebt_12 w_1192 [.int n, .int 0, .int v44] [.ref x] rfl rfl ⟨by decide, by decide⟩ (Nat.le_of_ble_eq_true rfl) (c_X10_isIn d g τ h sp0.1 n 0 v44) 1 7 (Nat.le_of_ble_eq_true rfl) (Nat.le_of_ble_eq_true rfl)) (fun r47 h46 q45 => ?_) (fun E h1 q => q.elim)
  obtain ⟨q45e, q45d⟩ := q45
  rw [q45e]
  rcases q45d with ⟨q45r, q45n⟩ | ⟨q45r, q45a, q45b⟩
  · rw [q45r]
    refine tw_if_ne 22 dX10_ofDebt_15 (by decide) (fun c48 => absurd (by decide) c48) (fun _ => ?_)
    refine tw_iconst (v := 1) dX10_ofDebt_18 (by decide) ?_
    refine tw_goto 23 dX10_ofDebt_19 (by decide) ?_
    refine tw_iconst (v := 1) dX10_ofDebt_23 (by decide) ?_
    refine tw_bi (tw_callV (M := mX10_ofDebt) (pc := 24) okX10_start dX10_ofDebt_24 w_1196 rfl f2 [.int 1, .int 1] [] rfl rfl ⟨by decide, by decide⟩ (Nat.le_of_ble_eq_true rfl) (c_X10_start d g τ h sp0.1 x kx 1 1 (by decide)) 1 7 (Nat.le_of_ble_eq_true rfl) (Nat.le_of_ble_eq_true rfl)) (fun r51 h50 q49 => ?_) (fun E h1 q => q.elim)
    obtain ⟨e52, he53, hs54, hr55, h356⟩ := q49
    have sp57 : tw_sp d τ h g τ h50 := by rw [he53]; exact sp0.set kx (by decide) hs54
    have f58 : h50 ld_13 = some (.inr (3, [.int (g.1 5), .ref el38, .int (nI (g.2 5))])) := by rw [he53, tw_up_n (fun q => absurd (k22) (by rw [q, kx]; decide))]; exact f37
    rcases hr55 with ei59 | ⟨ei59, ei59b⟩
    · rw [ei59]
      refine tw_if_ne 53 dX10_ofDebt_27 (by decide) (fun _ => ?_) (fun c60 => absurd c60 (by decide))
      refine tw_iconst (v := 0) dX10_ofDebt_53 (by decide) ?_
      refine tw_goto 73 dX10_ofDebt_54 (by decide) ?_
      exact tw_iret dX10_ofDebt_73 rfl (Or.inl ⟨_, rfl, sp57⟩)
    · exact absurd ei59b (by decide)
  · rw [q45r]
    refine tw_if_ne 22 dX10_ofDebt_15 (by decide) (fun _ => ?_) (fun c61 => absurd c61 (by decide))
    refine tw_iconst (v := 0) dX10_ofDebt_22 (by decide) ?_
    refine tw_iconst (v := 1) dX10_ofDebt_23 (by decide) ?_
    refine tw_bi (tw_callV (M := mX10_ofDebt) (pc := 24) okX10_start dX10_ofDebt_24 w_1196 rfl f2 [.int 0, .int 1] [] rfl rfl ⟨by decide, by decide⟩ (Nat.le_of_ble_eq_true rfl) (c_X10_start d g τ h sp0.1 x kx 0 1 (by decide)) 1 7 (Nat.le_of_ble_eq_true rfl) (Nat.le_of_ble_eq_true rfl)) (fun r64 h63 q62 => ?_) (fun E h1 q => q.elim)
    obtain ⟨e65, he66, hs67, hr68, h369⟩ := q62
    have sp70 : tw_sp d τ h g τ h63 := by rw [he66]; exact sp0.set kx (by decide) hs67
    have f71 : h63 ld_13 = some (.inr (3, [.int (g.1 5), .ref el38, .int (nI (g.2 5))])) := by rw [he66, tw_up_n (fun q => absurd (k22) (by rw [q, kx]; decide))]; exact f37
    rcases hr68 with ei72 | ⟨ei72, ei72b⟩
    · rw [ei72]
      refine tw_if_ne 53 dX10_ofDebt_27 (by decide) (fun _ => ?_) (fun c73 => absurd c73 (by decide))
      refine tw_iconst (v := 0) dX10_ofDebt_53 (by decide) ?_
      refine tw_goto 73 dX10_ofDebt_54 (by decide) ?_
      exact tw_iret dX10_ofDebt_73 rfl (Or.inl ⟨_, rfl, sp70⟩)
    · rw [ei72]
      refine tw_if_ne 53 dX10_ofDebt_27 (by decide) (fun c74 => absurd (by decide) c74) (fun _ => ?_)
      refine tw_aload_n 0 dX10_ofDebt_30 rfl rfl ?_
      refine tw_iload_n 2 dX10_ofDebt_31 rfl rfl ?_
      refine tw_iconst (v := 0) dX10_ofDebt_32 (by decide) ?_
      refine tw_bipush (v := 6) dX10_ofDebt_33 (by decide) ?_
      refine tw_bi (tw_callS (M := mX10_ofDebt) (pc := 35) okX10_isIn dX10_ofDebt_35 w_1192 [.int w9, .int 0, .int 6] [.ref x] rfl rfl ⟨by decide, by decide⟩ (Nat.le_of_ble_eq_true rfl) (c_X10_isIn d g τ h63 sp70.1 w9 0 6) 1 7 (Nat.le_of_ble_eq_true rfl) (Nat.le_of_ble_eq_true rfl)) (fun r77 h76 q75 => ?_) (fun E h1 q => q.elim)
      obtain ⟨q75e, q75d⟩ := q75
      rw [q75e]
      rcases q75d with ⟨q75r, q75n⟩ | ⟨q75r, q75a, q75b⟩
      · rw [q75r]
        refine tw_if_ne 45 dX10_ofDebt_38 (by decide) (fun c78 => absurd (by decide) c78) (fun _ => ?_)
        refine tw_iconst (v := 1) dX10_ofDebt_41 (by decide) ?_
        refine tw_goto 46 dX10_ofDebt_42 (by decide) ?_
        refine tw_iconst (v := 2) dX10_ofDebt_46 (by decide) ?_
        obtain ⟨e79, f80, th_81, td_82, ds_83, fr_84, ca_85, us_86, wo_87, cm_88, lc_89, lh_90, ld_91, rfl, k92, k93, k94, k95, k96, k97, k98, k99, k100, k101, k102, k103, k104, k105, k106, k107, k108, k109, k110, k111, k112, k113⟩ := sp70.1 x 36 kx (by decide)
        refine tw_bi (tw_callV (M := mX10_ofDebt) (pc := 47) okX10_refuse dX10_ofDebt_47 w_1200 rfl f80 [.int 1, .int 2] [] rfl rfl ⟨by decide, by decide⟩ (Nat.le_of_ble_eq_true rfl) (c_X10_refuse d g τ h63 sp70.1 x kx 1 2 (by decide)) 1 7 (Nat.le_of_ble_eq_true rfl) (Nat.le_of_ble_eq_true rfl)) (fun r116 h115 q114 => ?_) (fun E h1 q => q.elim)
        obtain ⟨e117, he118, hs119, hr120, h3121⟩ := q114
        have sp122 : tw_sp d τ h g τ h115 := by rw [he118]; exact sp70.set kx (by decide) hs119
        have f123 : h115 ld_13 = some (.inr (3, [.int (g.1 5), .ref el38, .int (nI (g.2 5))])) := by rw [he118, tw_up_n (fun q => absurd (k22) (by rw [q, kx]; decide))]; exact f71
        rcases hr120 with ei124 | ⟨ei124, ei124b⟩
        · rw [ei124]
          refine tw_if_eq 57 dX10_ofDebt_50 (by decide) (fun c125 => absurd c125 (by decide)) (fun _ => ?_)
          refine tw_iconst (v := 0) dX10_ofDebt_53 (by decide) ?_
          refine tw_goto 73 dX10_ofDebt_54 (by decide) ?_
          exact tw_iret dX10_ofDebt_73 rfl (Or.inl ⟨_, rfl, sp122⟩)
        · exact absurd ei124b (by decide)
      · rw [q75r]
        refine tw_if_ne 45 dX10_ofDebt_38 (by decide) (fun _ => ?_) (fun c126 => absurd c126 (by decide))
        refine tw_iconst (v := 0) dX10_ofDebt_45 (by decide) ?_
        refine tw_iconst (v := 2) dX10_ofDebt_46 (by decide) ?_
        obtain ⟨e127, f128, th_129, td_130, ds_131, fr_132, ca_133, us_134, wo_135, cm_136, lc_137, lh_138, ld_139, rfl, k140, k141, k142, k143, k144, k145, k146, k147, k148, k149, k150, k151, k152, k153, k154, k155, k156, k157, k158, k159, k160, k161⟩ := sp70.1 x 36 kx (by decide)
        refine tw_bi (tw_callV (M := mX10_ofDebt) (pc := 47) okX10_refuse dX10_ofDebt_47 w_1200 rfl f128 [.int 0, .int 2] [] rfl rfl ⟨by decide, by decide⟩ (Nat.le_of_ble_eq_true rfl) (c_X10_refuse d g τ h63 sp70.1 x kx 0 2 (by decide)) 1 7 (Nat.le_of_ble_eq_true rfl) (Nat.le_of_ble_eq_true rfl)) (fun r164 h163 q162 => ?_) (fun E h1 q => q.elim)
        obtain ⟨e165, he166, hs167, hr168, h3169⟩ := q162
        have sp170 : tw_sp d τ h g τ h163 := by rw [he166]; exact sp70.set kx (by decide) hs167
        have f171 : h163 ld_13 = some (.inr (3, [.int (g.1 5), .ref el38, .int (nI (g.2 5))])) := by rw [he166, tw_up_n (fun q => absurd (k22) (by rw [q, kx]; decide))]; exact f71
        rcases hr168 with ei172 | ⟨ei172, ei172b⟩
        · rw [ei172]
          refine tw_if_eq 57 dX10_ofDebt_50 (by decide) (fun c173 => absurd c173 (by decide)) (fun _ => ?_)
          refine tw_iconst (v := 0) dX10_ofDebt_53 (by decide) ?_
          refine tw_goto 73 dX10_ofDebt_54 (by decide) ?_
          exact tw_iret dX10_ofDebt_73 rfl (Or.inl ⟨_, rfl, sp170⟩)
        · rw [ei172]
          refine tw_if_eq 57 dX10_ofDebt_50 (by decide) (fun _ => ?_) (fun c174 => absurd (by decide) c174)
          refine tw_aload_n 0 dX10_ofDebt_57 rfl rfl ?_
          refine tw_aload_n 0 dX10_ofDebt_58 rfl rfl ?_
          obtain ⟨e175, f176, th_177, td_178, ds_179, fr_180, ca_181, us_182, wo_183, cm_184, lc_185, lh_186, ld_187, rfl, k188, k189, k190, k191, k192, k193, k194, k195, k196, k197, k198, k199, k200, k201, k202, k203, k204, k205, k206, k207, k208, k209⟩ := sp170.1 x 36 kx (by decide)
          refine tw_get (v := .ref ld_187) rfl in_14 11 dX10_ofDebt_59 w_1162 rfl (by decide) f176 rfl ?_
          refine tw_iload_n 1 dX10_ofDebt_62 rfl rfl ?_
          obtain ⟨j210, hj211, ej212⟩ := tw_isc q45a q45b ev44 (by omega)
          subst ej212
          obtain ⟨e213, f214, ⟨el215, rfl, k216⟩, k217⟩ := sp170.1 ld_187 26 k196 (by decide)
          refine tw_br (tw_callV (M := mX10_ofDebt) (pc := 63) okJx4a65c_get_915e3 dX10_ofDebt_63 w_1292 rfl f214 [.int (nI j210)] [.ref x] rfl rfl ⟨by decide, by decide⟩ (Nat.le_of_ble_eq_true rfl) (c26_get d g τ h163 sp170.1 ld_187 k196 j210 (by omega) (by omega)) 1 7 (Nat.le_of_ble_eq_true rfl) (Nat.le_of_ble_eq_true rfl)) (fun r220 h219 q218 => ?_) (fun E h1 q => q.elim)
          obtain ⟨q218e, q218k⟩ := q218
          rw [q218e]
          have el221 : tw_el h163 (g.2 14) j210 = r220 := by rw [← k217]; exact q218k.2.symm
          have kl222 : τ (g.2 14) = 26 := by rw [← k217]; exact k196
          obtain ⟨e223, f224, v_225, dy_226, pd_227, i_228, j_229, rfl, k230, k231, k232, k233⟩ := sp170.1 r220 22 q218k.1 (by decide)
          refine tw_castS (ci := 12) rfl dX10_ofDebt_66 w_1433 f224 ?_
          refine tw_iload_n 2 dX10_ofDebt_69 rfl rfl ?_
          refine tw_bi (tw_callV (M := mX10_ofDebt) (pc := 70) okX10_ofDebtNow dX10_ofDebt_70 w_1521 rfl f176 [.ref r220, .int w9] [] rfl rfl ⟨by decide, by decide⟩ (Nat.le_of_ble_eq_true rfl) (c_X10_ofDebtNow d g τ h163 sp170.1 x kx r220 q218k.1 w9 (tw_irng (N := 7) q75a q75b (by decide) (by decide))) 0 0 (Nat.le_of_ble_eq_true rfl) (Nat.le_of_ble_eq_true rfl)) (fun r236 h235 q234 => ?_) (fun E h1 q => q.elim)
          have sp237 := sp170.tr q234
          exact tw_iret dX10_ofDebt_73 rfl (Or.inl ⟨_, rfl, sp237⟩)

set_option maxHeartbeats 4000000 in
set_option maxRecDepth 100000 in
theorem c_X10_isSoundNow (d : tw_D) (g : tw_G) (τ : tw_K) (h : tw_H) (hw : tw_wt d g τ h) (x : Nat) (kx : τ x = 36) : tw_Ct d mX10_isSoundNow 62 284 [.ref x] h (tw_qi (fun r h1 => tw_sp d τ h g τ h1 ∧ tw_01 r) tw_nx) := by
  refine tw_of (by decide +kernel) (Nat.le_of_ble_eq_true rfl) ?_
  show tw_W d mX10_isSoundNow _ 0 [(0, .ref x)] [] h 62 284
  have sp0 := tw_sp.rf hw
  refine tw_iconst (v := 0) dX10_isSoundNow_0 (by decide) ?_
  refine tw_istore_n [(1, .int 0), (0, .ref x)] dX10_isSoundNow_1 rfl (by decide) rfl ?_
  have L4 : ∀ (r2 k1 : Nat) (h5 : tw_H) (sp6 : tw_sp d τ h g τ h5), 2 + 1 ≤ k1 + r2 → k1 ≤ 2 → tw_W d mX10_isSoundNow (tw_qi (fun r h1 => tw_sp d τ h g τ h1 ∧ tw_01 r) tw_nx) 2 [(0, .ref x), (1, .int (nI k1))] [] h5 (2 + 20 * r2) (8 + 92 * r2) := by
    intro r2
    induction r2 with
    | zero => intro k1 h5 sp6 hk8 hk9; exact absurd hk8 (by omega)
    | succ r2 ih3 =>
      intro k1 h5 sp6 hk8 hk9
      refine tw_iload_n 1 dX10_isSoundNow_2 rfl rfl ?_
      refine tw_iconst (v := 2) dX10_isSoundNow_3 (by decide) ?_
      refine tw_icmp_ge 163 dX10_isSoundNow_4 (by decide) (fun c10 => ?_) (fun c10 => ?_)
      · refine tw_aload_n 0 dX10_isSoundNow_163 rfl rfl ?_
        obtain ⟨e11, f12, th_13, td_14, ds_15, fr_16, ca_17, us_18, wo_19, cm_20, lc_21, lh_22, ld_23, rfl, k24, k25, k26, k27, k28, k29, k30, k31, k32, k33, k34, k35, k36, k37, k38, k39, k40, k41, k42, k43, k44, k45⟩ := sp6.1 x 36 kx (by decide)
        refine tw_get (v := .ref lc_21) rfl in_14 9 dX10_isSoundNow_164 w_1160 rfl (by decide) f12 rfl ?_
        obtain ⟨e46, f47, ⟨el48, rfl, k49⟩, k50⟩ := sp6.1 lc_21 24 k30 (by decide)
        refine tw_br (tw_callV (M := mX10_isSoundNow) (pc := 167) okJx4a65c_iterator_32c93 dX10_isSoundNow_167 w_1382 rfl f47 [] [] rfl rfl ⟨by decide, by decide⟩ (Nat.le_of_ble_eq_true rfl) (c_iterator d h5 lc_21 el48 (g.1 3) (nI (g.2 3)) f47) ((2 + 20 * (r2 + 1)) - 1) ((8 + 92 * (r2 + 1)) - 4) (by omega) (by omega)) (fun it51 h52 q53 => ?_) (fun E h1 q => q.elim)
        obtain ⟨q53n, q53e⟩ := q53
        rw [q53e]
        have n54 := sp6.nn q53n
        have z55 := sp6.1.none q53n
        obtain ⟨h56, eh56⟩ : ∃ z : tw_H, z = tw_up h5 it51 (.inr (2, [.int 0, .int (-1), .int (g.1 3), .ref lc_21])) := ⟨_, rfl⟩
        rw [← eh56]
        have sp57 : tw_sp d τ h g τ h56 := by rw [eh56]; exact sp6.mk q53n
        have f58 : h56 it51 = some (.inr (2, [.int 0, .int (-1), .int (g.1 3), .ref lc_21])) := by rw [eh56]; exact tw_up_s
        refine tw_astore_n [(1, .ref it51), (0, .ref x)] dX10_isSoundNow_170 rfl (by decide) rfl ?_
        have L63 : ∀ (r59 j60 : Nat) (l61 : Int32) (h64 : tw_H) (sp65 : tw_sp d τ (tw_rm h56 it51) g τ h64) (ft66 : h64 it51 = some (.inr (2, [.int (nI j60), .int l61, .int (g.1 3), .ref lc_21]))) (zt67 : τ it51 = 0), g.2 3 + 1 ≤ j60 + r59 → j60 ≤ g.2 3 → tw_W d mX10_isSoundNow (tw_qi (fun r h1 => tw_sp d τ h g τ h1 ∧ tw_01 r) tw_nx) 171 [(0, .ref x), (1, .ref it51)] [] h64 ((2 + 20 * (r2 + 1)) - 1) ((8 + 92 * (r2 + 1)) - 4) := by
          intro r59
          induction r59 with
          | zero => intro j60 l61 h64 sp65 ft66 zt67 hk68 hk69; exact absurd hk68 (by omega)
          | succ r59 ih62 =>
            intro j60 l61 h64 sp65 ft66 zt67 hk68 hk69
            refine tw_aload_n 1 dX10_isSoundNow_171 rfl rfl ?_
            obtain ⟨e70, f71, ⟨el72, rfl, k73⟩, k74⟩ := sp65.1 lc_21 24 k30 (by decide)
            refine tw_bi (tw_callF (M := mX10_isSoundNow) (pc := 172) (n9 := 0) (ci := 2) tw_hasNext ok_itHas w_1412 w_1410 (fun s H z => z.2.2.2.2.2.2.2.2.1) (by decide +kernel) dX10_isSoundNow_172 w_1406 rfl ft66 [] [] rfl rfl ⟨by decide, by decide⟩ (Nat.le_of_ble_eq_true rfl) (c_hasNext d h64 it51 lc_21 el72 j60 (g.2 3) l61 (g.1 3) (g.1 3) ft66 f71 (by omega) (tw_lim24 sp65.1 k30)) ((2 + 20 * (r2 + 1)) - 1) ((8 + 92 * (r2 + 1)) - 4) (by omega) (by omega)) (fun r77 h76 q75 => ?_) (fun E h1 q => q.elim)
            obtain ⟨q75e, q75q⟩ := q75
            rw [q75e]
            rcases q75q with ⟨q75r, q75j⟩ | ⟨q75r, q75j⟩
            · rw [q75r]
              refine tw_if_eq 231 dX10_isSoundNow_177 (by decide) (fun _ => ?_) (fun c78 => absurd (by decide) c78)
              refine tw_iconst (v := 0) dX10_isSoundNow_231 (by decide) ?_
              refine tw_istore_n [(1, .int 0), (0, .ref x)] dX10_isSoundNow_232 rfl (by decide) rfl ?_
              have L82 : ∀ (r80 k79 : Nat), 4 + 1 ≤ k79 + r80 → k79 ≤ 4 → tw_W d mX10_isSoundNow (tw_qi (fun r h1 => tw_sp d τ h g τ h1 ∧ tw_01 r) tw_nx) 233 [(0, .ref x), (1, .int (nI k79))] [] h64 ((2 + 20 * (r2 + 1)) - 1) ((8 + 92 * (r2 + 1)) - 4) := by
                intro r80
                induction r80 with
                | zero => intro k79  hk86 hk87; exact absurd hk86 (by omega)
                | succ r80 ih81 =>
                  intro k79  hk86 hk87
                  refine tw_iload_n 1 dX10_isSoundNow_233 rfl rfl ?_
                  refine tw_iconst (v := 4) dX10_isSoundNow_234 (by decide) ?_
                  refine tw_icmp_ge 297 dX10_isSoundNow_235 (by decide) (fun c88 => ?_) (fun c88 => ?_)
                  · refine tw_iconst (v := 1) dX10_isSoundNow_297 (by decide) ?_
                    exact tw_zret dX10_isSoundNow_298 rfl rfl (Or.inl ⟨_, rfl, ⟨(sp0.tr (sp57.trm n54 sp65)), (by unfold tw_01; decide)⟩⟩)
                  · have kl89 := tw_klt (N := 4) c88 hk87 (by decide)
                    refine tw_iconst (v := 0) dX10_isSoundNow_238 (by decide) ?_
                    refine tw_istore_n [(2, .int 0), (0, .ref x), (1, .int (nI k79))] dX10_isSoundNow_239 rfl (by decide) rfl ?_
                    have L93 : ∀ (r91 k90 : Nat), 4 + 1 ≤ k90 + r91 → k90 ≤ 4 → tw_W d mX10_isSoundNow (tw_qi (fun r h1 => tw_sp d τ h g τ h1 ∧ tw_01 r) tw_nx) 240 [(0, .ref x), (1, .int (nI k79)), (2, .int (nI k90))] [] h64 ((2 + 20 * (r2 + 1)) - 1) ((8 + 92 * (r2 + 1)) - 4) := by
                      intro r91
                      induction r91 with
                      | zero => intro k90  hk97 hk98; exact absurd hk97 (by omega)
                      | succ r91 ih92 =>
                        intro k90  hk97 hk98
                        refine tw_iload_n 2 dX10_isSoundNow_240 rfl rfl ?_
                        refine tw_iconst (v := 4) dX10_isSoundNow_241 (by decide) ?_
                        refine tw_icmp_ge 291 dX10_isSoundNow_242 (by decide) (fun c99 => ?_) (fun c99 => ?_)
                        · obtain ⟨v100, ev100⟩ : ∃ y : Int32, y = (nI k79) + 1 := ⟨_, rfl⟩
                          refine tw_iinc [(1, .int v100), (0, .ref x), (2, .int (nI k90))] 1 dX10_isSoundNow_291 rfl (by rw [ev100]; rfl) (by decide) rfl ?_
                          refine tw_goto 233 dX10_isSoundNow_294 (by decide) ?_
                          have qv100 := tw_nI3 ev100
                          rw [qv100]
                          refine tw_lv [1, 0] rfl ?_
                          exact ih81 (k79 + 1)  (by omega) (by omega)
                        · have kl101 := tw_klt (N := 4) c99 hk98 (by decide)
                          refine tw_aload_n 0 dX10_isSoundNow_245 rfl rfl ?_
                          obtain ⟨e102, f103, th_104, td_105, ds_106, fr_107, ca_108, us_109, wo_110, cm_111, lc_112, lh_113, ld_114, rfl, k115, k116, k117, k118, k119, k120, k121, k122, k123, k124, k125, k126, k127, k128, k129, k130, k131, k132, k133, k134, k135, k136⟩ := sp65.1 x 36 kx (by decide)
                          refine tw_get (v := .ref ds_106) rfl in_14 3 dX10_isSoundNow_246 w_1154 rfl (by decide) f103 rfl ?_
                          refine tw_iload_n 1 dX10_isSoundNow_249 rfl rfl ?_
                          obtain ⟨e139, f140, F137, rfl, k138⟩ := sp65.1 ds_106 34 k115 (by decide)
                          obtain ⟨q141, k142, k143, iq144⟩ := k138 ((nI k79)).toNatClampNeg (by rw [nI_clamp (by omega)]; omega)
                          refine tw_aald (v := .ref q141) 8 rfl rfl dX10_isSoundNow_250 f140 (vp_in_nI (by omega) (by decide)) (by rw [k142]; rfl) ?_
                          refine tw_iload_n 2 dX10_isSoundNow_251 rfl rfl ?_
                          obtain ⟨e145, f146, F147, rfl, pf148⟩ := sp65.1 q141 6 k143 (by decide)
                          obtain ⟨v149, ev149⟩ : ∃ y : Int32, F147 ((nI k90)).toNatClampNeg = y := ⟨_, rfl⟩
                          refine tw_iald (v := v149) dX10_isSoundNow_252 f146 (vp_in_nI (by omega) (by decide)) ev149 ?_
                          refine tw_aload_n 0 dX10_isSoundNow_253 rfl rfl ?_
                          refine tw_get (v := .ref ds_106) rfl in_14 3 dX10_isSoundNow_254 w_1154 rfl (by decide) f103 rfl ?_
                          refine tw_iload_n 2 dX10_isSoundNow_257 rfl rfl ?_
                          obtain ⟨q150, k151, k152, iq153⟩ := k138 ((nI k90)).toNatClampNeg (by rw [nI_clamp (by omega)]; omega)
                          refine tw_aald (v := .ref q150) 8 rfl rfl dX10_isSoundNow_258 f140 (vp_in_nI (by omega) (by decide)) (by rw [k151]; rfl) ?_
                          refine tw_iload_n 1 dX10_isSoundNow_259 rfl rfl ?_
                          obtain ⟨e154, f155, F156, rfl, pf157⟩ := sp65.1 q150 6 k152 (by decide)
                          obtain ⟨v158, ev158⟩ : ∃ y : Int32, F156 ((nI k79)).toNatClampNeg = y := ⟨_, rfl⟩
                          refine tw_iald (v := v158) dX10_isSoundNow_260 f155 (vp_in_nI (by omega) (by decide)) ev158 ?_
                          refine tw_icmp_ne 283 dX10_isSoundNow_261 (by decide) (fun c159 => ?_) (fun c159 => ?_)
                          · refine tw_iconst (v := 0) dX10_isSoundNow_283 (by decide) ?_
                            exact tw_zret dX10_isSoundNow_284 rfl rfl (Or.inl ⟨_, rfl, ⟨(sp0.tr (sp57.trm n54 sp65)), (by unfold tw_01; decide)⟩⟩)
                          · refine tw_aload_n 0 dX10_isSoundNow_264 rfl rfl ?_
                            refine tw_get (v := .ref fr_107) rfl in_14 4 dX10_isSoundNow_265 w_1155 rfl (by decide) f103 rfl ?_
                            refine tw_iload_n 1 dX10_isSoundNow_268 rfl rfl ?_
                            obtain ⟨e162, f163, F160, rfl, k161⟩ := sp65.1 fr_107 34 k116 (by decide)
                            obtain ⟨q164, k165, k166, iq167⟩ := k161 ((nI k79)).toNatClampNeg (by rw [nI_clamp (by omega)]; omega)
                            refine tw_aald (v := .ref q164) 8 rfl rfl dX10_isSoundNow_269 f163 (vp_in_nI (by omega) (by decide)) (by rw [k165]; rfl) ?_
                            refine tw_iload_n 2 dX10_isSoundNow_270 rfl rfl ?_
                            obtain ⟨e168, f169, F170, rfl, pf171⟩ := sp65.1 q164 6 k166 (by decide)
                            obtain ⟨v172, ev172⟩ : ∃ y : Int32, F170 ((nI k90)).toNatClampNeg = y := ⟨_, rfl⟩
                            refine tw_iald (v := v172) dX10_isSoundNow_271 f169 (vp_in_nI (by omega) (by decide)) ev172 ?_
                            refine tw_aload_n 0 dX10_isSoundNow_272 rfl rfl ?_
                            refine tw_get (v := .ref fr_107) rfl in_14 4 dX10_isSoundNow_273 w_1155 rfl (by decide) f103 rfl ?_
                            refine tw_iload_n 2 dX10_isSoundNow_276 rfl rfl ?_
                            obtain ⟨q173, k174, k175, iq176⟩ := k161 ((nI k90)).toNatClampNeg (by rw [nI_clamp (by omega)]; omega)
                            refine tw_aald (v := .ref q173) 8 rfl rfl dX10_isSoundNow_277 f163 (vp_in_nI (by omega) (by decide)) (by rw [k174]; rfl) ?_
                            refine tw_iload_n 1 dX10_isSoundNow_278 rfl rfl ?_
                            obtain ⟨e177, f178, F179, rfl, pf180⟩ := sp65.1 q173 6 k175 (by decide)
                            obtain ⟨v181, ev181⟩ : ∃ y : Int32, F179 ((nI k79)).toNatClampNeg = y := ⟨_, rfl⟩
                            refine tw_iald (v := v181) dX10_isSoundNow_279 f178 (vp_in_nI (by omega) (by decide)) ev181 ?_
                            refine tw_icmp_eq 285 dX10_isSoundNow_280 (by decide) (fun c182 => ?_) (fun c182 => ?_)
                            · obtain ⟨v183, ev183⟩ : ∃ y : Int32, y = (nI k90) + 1 := ⟨_, rfl⟩
                              refine tw_iinc [(2, .int v183), (0, .ref x), (1, .int (nI k79))] 2 dX10_isSoundNow_285 rfl (by rw [ev183]; rfl) (by decide) rfl ?_
                              refine tw_goto 240 dX10_isSoundNow_288 (by decide) ?_
                              have qv183 := tw_nI3 ev183
                              rw [qv183]
                              refine tw_lv [1, 2, 0] rfl ?_
                              exact ih92 (k90 + 1)  (by omega) (by omega)
                            · refine tw_iconst (v := 0) dX10_isSoundNow_283 (by decide) ?_
                              exact tw_zret dX10_isSoundNow_284 rfl rfl (Or.inl ⟨_, rfl, ⟨(sp0.tr (sp57.trm n54 sp65)), (by unfold tw_01; decide)⟩⟩)
                    refine tw_lv [1, 2, 0] rfl ?_
                    exact L93 (4 + 1) 0  (by omega) (by omega)
              refine tw_lv [1, 0] rfl ?_
              exact L82 (4 + 1) 0  (by omega) (by omega)
            · rw [q75r]
              refine tw_if_eq 231 dX10_isSoundNow_177 (by decide) (fun c184 => absurd c184 (by decide)) (fun _ => ?_)
              refine tw_aload_n 1 dX10_isSoundNow_180 rfl rfl ?_
              have k185 : τ el72 = 27 := k73.resolve_left (fun q => absurd q75j (by rw [q.2.1]; exact Nat.not_lt_zero _))
              obtain ⟨e186, f187, ⟨F188, rfl, hc189, hc190⟩, un191⟩ := sp65.1 el72 27 k185 (by decide)
              obtain ⟨y192, hy193, ky194⟩ := hc190 j60 q75j
              refine tw_br (tw_callF (M := mX10_isSoundNow) (pc := 181) (n9 := 0) (ci := 2) tw_next ok_itNext w_1421 w_1419 (fun s H z => z.2.2.2.2.2.2.2.2.2) (by decide +kernel) dX10_isSoundNow_181 w_1416 rfl ft66 [] [] rfl rfl ⟨by decide, by decide⟩ (Nat.le_of_ble_eq_true rfl) (c_next d h64 it51 lc_21 el72 j60 (g.2 3) y192 l61 (g.1 3) F188 ft66 f71 f187 q75j hc189 hy193) ((2 + 20 * (r2 + 1)) - 1) ((8 + 92 * (r2 + 1)) - 4) (by omega) (by omega)) (fun r197 h196 q195 => ?_) (fun E h1 q => q.elim)
              obtain ⟨q195r, q195e⟩ := q195
              rw [q195r]
              have sp198 : tw_sp d τ (tw_rm h56 it51) g τ h196 := by rw [q195e]; exact sp65.wl tw_rm_s zt67
              have f199 : h196 it51 = some (.inr (2, [.int (nI (j60 + 1)), .int (nI j60), .int (g.1 3), .ref lc_21])) := by rw [q195e]; exact tw_up_s
              obtain ⟨e200, f201, r_202, c_203, v_204, o_205, t_206, rfl, k207, k208, k209, k210, k211, k212⟩ := sp198.1 y192 21 ky194 (by decide)
              refine tw_castS (ci := 11) rfl dX10_isSoundNow_186 w_1208 f201 ?_
              refine tw_astore_n [(2, .ref y192), (0, .ref x), (1, .ref it51)] dX10_isSoundNow_189 rfl (by decide) rfl ?_
              refine tw_aload_n 0 dX10_isSoundNow_190 rfl rfl ?_
              refine tw_get (v := .ref t_206) rfl in_11 4 dX10_isSoundNow_191 w_1221 rfl (by decide) f201 rfl ?_
              refine tw_astore_n [(3, .ref t_206), (2, .ref y192), (0, .ref x), (1, .ref it51)] dX10_isSoundNow_194 rfl (by decide) rfl ?_
              refine tw_aload_n 0 dX10_isSoundNow_195 rfl rfl ?_
              obtain ⟨e213, f214, F215, rfl, k217, pf216⟩ := sp198.1 t_206 33 k209 (by decide)
              refine tw_alen (v := nI 5) 0 rfl dX10_isSoundNow_196 f214 rfl ?_
              refine tw_istore [(4, .int (nI 5)), (3, .ref t_206), (2, .ref y192), (0, .ref x), (1, .ref it51)] dX10_isSoundNow_197 (by decide) rfl ?_
              refine tw_iconst (v := 0) dX10_isSoundNow_199 (by decide) ?_
              refine tw_istore [(5, .int 0), (4, .int (nI 5)), (3, .ref t_206), (2, .ref y192), (0, .ref x), (1, .ref it51)] dX10_isSoundNow_200 (by decide) rfl ?_
              have L221 : ∀ (r219 k218 : Nat), 5 + 1 ≤ k218 + r219 → k218 ≤ 5 → tw_W d mX10_isSoundNow (tw_qi (fun r h1 => tw_sp d τ h g τ h1 ∧ tw_01 r) tw_nx) 202 [(0, .ref x), (1, .ref it51), (2, .ref y192), (3, .ref t_206), (4, .int (nI 5)), (5, .int (nI k218))] [] h196 ((2 + 20 * (r2 + 1)) - 1) ((8 + 92 * (r2 + 1)) - 4) := by
                intro r219
                induction r219 with
                | zero => intro k218  hk225 hk226; exact absurd hk225 (by omega)
                | succ r219 ih220 =>
                  intro k218  hk225 hk226
                  refine tw_iload 5 dX10_isSoundNow_202 rfl ?_
                  refine tw_iload 4 dX10_isSoundNow_204 rfl ?_
                  refine tw_icmp_ge 228 dX10_isSoundNow_206 (by decide) (fun c227 => ?_) (fun c227 => ?_)
                  · refine tw_goto 171 dX10_isSoundNow_228 (by decide) ?_
                    refine tw_lv [0, 1] rfl ?_
                    exact ih62 ((j60 + 1)) (nI j60)  _ sp198 f199 zt67  (by omega) (by omega)
                  · have kl228 := tw_klt (N := 5) c227 hk226 (by decide)
                    refine tw_aload_n 3 dX10_isSoundNow_209 rfl rfl ?_
                    refine tw_iload 5 dX10_isSoundNow_210 rfl ?_
                    obtain ⟨v229, ev229⟩ : ∃ y : Int32, F215 ((nI k218)).toNatClampNeg = y := ⟨_, rfl⟩
                    refine tw_iald (v := v229) dX10_isSoundNow_212 f214 (vp_in_nI (by omega) (by decide)) ev229 ?_
                    refine tw_istore [(6, .int v229), (0, .ref x), (1, .ref it51), (2, .ref y192), (3, .ref t_206), (4, .int (nI 5)), (5, .int (nI k218))] dX10_isSoundNow_213 (by decide) rfl ?_
                    refine tw_iload 0 dX10_isSoundNow_215 rfl ?_
                    refine tw_if_ge 222 dX10_isSoundNow_217 (by decide) (fun c230 => ?_) (fun c230 => ?_)
                    · obtain ⟨v231, ev231⟩ : ∃ y : Int32, y = (nI k218) + 1 := ⟨_, rfl⟩
                      refine tw_iinc [(5, .int v231), (6, .int v229), (0, .ref x), (1, .ref it51), (2, .ref y192), (3, .ref t_206), (4, .int (nI 5))] 6 dX10_isSoundNow_222 rfl (by rw [ev231]; rfl) (by decide) rfl ?_
                      refine tw_goto 202 dX10_isSoundNow_225 (by decide) ?_
                      have qv231 := tw_nI3 ev231
                      rw [qv231]
                      refine tw_lv [2, 3, 4, 5, 6, 0] rfl ?_
                      exact ih220 (k218 + 1)  (by omega) (by omega)
                    · refine tw_iconst (v := 0) dX10_isSoundNow_220 (by decide) ?_
                      exact tw_zret dX10_isSoundNow_221 rfl rfl (Or.inl ⟨_, rfl, ⟨(sp0.tr (sp57.trm n54 sp198)), (by unfold tw_01; decide)⟩⟩)
              refine tw_lv [4, 5, 3, 2, 1, 0] rfl ?_
              exact L221 (5 + 1) 0  (by omega) (by omega)
        refine tw_lv [1, 0] rfl ?_
        exact L63 (g.2 3 + 1) 0 (-1)  _ (tw_sp.rm sp57.1 it51) f58 z55  (by omega) (Nat.zero_le _)
      · have kl232 := tw_klt (N := 2) c10 hk9 (by decide)
        refine tw_aload_n 0 dX10_isSoundNow_7 rfl rfl ?_
        refine tw_iload_n 1 dX10_isSoundNow_8 rfl rfl ?_
        refine tw_iconst (v := 0) dX10_isSoundNow_9 (by decide) ?_
        obtain ⟨e233, f234, th_235, td_236, ds_237, fr_238, ca_239, us_240, wo_241, cm_242, lc_243, lh_244, ld_245, rfl, k246, k247, k248, k249, k250, k251, k252, k253, k254, k255, k256, k257, k258, k259, k260, k261, k262, k263, k264, k265, k266, k267⟩ := sp6.1 x 36 kx (by decide)
        refine tw_bi (tw_callV (M := mX10_isSoundNow) (pc := 10) okX10_worldNow dX10_isSoundNow_10 w_1533 rfl f234 [.int (nI k1), .int 0] [] rfl rfl ⟨by decide, by decide⟩ (Nat.le_of_ble_eq_true rfl) (c_X10_worldNow d g τ h5 sp6.1 x kx (nI k1) 0 (vp_in_nI (by omega) (by decide)) (vp_in_nI (n := 0) (by decide) (by decide))) ((2 + 20 * (r2 + 1)) - 3) ((8 + 92 * (r2 + 1)) - 14) (by omega) (by omega)) (fun r270 h269 q268 => ?_) (fun E h1 q => q.elim)
        have sp271 := sp6.tr q268
        refine tw_aload_n 0 dX10_isSoundNow_13 rfl rfl ?_
        refine tw_iload_n 1 dX10_isSoundNow_14 rfl rfl ?_
        refine tw_iconst (v := 1) dX10_isSoundNow_15 (by decide) ?_
        obtain ⟨e272, f273, th_274, td_275, ds_276, fr_277, ca_278, us_279, wo_280, cm_281, lc_282, lh_283, ld_284, rfl, k285, k286, k287, k288, k289, k290, k291, k292, k293, k294, k295, k296, k297, k298, k299, k300, k301, k302, k303, k304, k305, k306⟩ := sp271.1 x 36 kx (by decide)
        refine tw_bi (tw_callV (M := mX10_isSoundNow) (pc := 16) okX10_worldNow dX10_isSoundNow_16 w_1533 rfl f273 [.int (nI k1), .int 1] [.int r270] rfl rfl ⟨by decide, by decide⟩ (Nat.le_of_ble_eq_true rfl) (c_X10_worldNow d g τ h269 sp271.1 x kx (nI k1) 1 (vp_in_nI (by omega) (by decide)) (vp_in_nI (n := 1) (by decide) (by decide))) (((2 + 20 * (r2 + 1)) - 3) - 3) (((8 + 92 * (r2 + 1)) - 14) - 14) (by omega) (by omega)) (fun r309 h308 q307 => ?_) (fun E h1 q => q.elim)
        have sp310 := sp271.tr q307
        refine tw_iadd dX10_isSoundNow_19 ?_
        refine tw_nmi (fun v311 ev311 => ?_)
        refine tw_aload_n 0 dX10_isSoundNow_20 rfl rfl ?_
        refine tw_iload_n 1 dX10_isSoundNow_21 rfl rfl ?_
        refine tw_iconst (v := 2) dX10_isSoundNow_22 (by decide) ?_
        obtain ⟨e312, f313, th_314, td_315, ds_316, fr_317, ca_318, us_319, wo_320, cm_321, lc_322, lh_323, ld_324, rfl, k325, k326, k327, k328, k329, k330, k331, k332, k333, k334, k335, k336, k337, k338, k339, k340, k341, k342, k343, k344, k345, k346⟩ := sp310.1 x 36 kx (by decide)
        refine tw_bi (tw_callV (M := mX10_isSoundNow) (pc := 23) okX10_worldNow dX10_isSoundNow_23 w_1533 rfl f313 [.int (nI k1), .int 2] [.int v311] rfl rfl ⟨by decide, by decide⟩ (Nat.le_of_ble_eq_true rfl) (c_X10_worldNow d g τ h308 sp310.1 x kx (nI k1) 2 (vp_in_nI (by omega) (by decide)) (vp_in_nI (n := 2) (by decide) (by decide))) ((((2 + 20 * (r2 + 1)) - 3) - 3) - 3) ((((8 + 92 * (r2 + 1)) - 14) - 14) - 14) (by omega) (by omega)) (fun r349 h348 q347 => ?_) (fun E h1 q => q.elim)
        have sp350 := sp310.tr q347
        refine tw_iadd dX10_isSoundNow_26 ?_
        refine tw_nmi (fun v351 ev351 => ?_)
        refine tw_aload_n 0 dX10_isSoundNow_27 rfl rfl ?_
        refine tw_iload_n 1 dX10_isSoundNow_28 rfl rfl ?_
        refine tw_iconst (v := 3) dX10_isSoundNow_29 (by decide) ?_
        obtain ⟨e352, f353, th_354, td_355, ds_356, fr_357, ca_358, us_359, wo_360, cm_361, lc_362, lh_363, ld_364, rfl, k365, k366, k367, k368, k369, k370, k371, k372, k373, k374, k375, k376, k377, k378, k379, k380, k381, k382, k383, k384, k385, k386⟩ := sp350.1 x 36 kx (by decide)
        refine tw_bi (tw_callV (M := mX10_isSoundNow) (pc := 30) okX10_worldNow dX10_isSoundNow_30 w_1533 rfl f353 [.int (nI k1), .int 3] [.int v351] rfl rfl ⟨by decide, by decide⟩ (Nat.le_of_ble_eq_true rfl) (c_X10_worldNow d g τ h348 sp350.1 x kx (nI k1) 3 (vp_in_nI (by omega) (by decide)) (vp_in_nI (n := 3) (by decide) (by decide))) (((((2 + 20 * (r2 + 1)) - 3) - 3) - 3) - 3) (((((8 + 92 * (r2 + 1)) - 14) - 14) - 14) - 14) (by omega) (by omega)) (fun r389 h388 q387 => ?_) (fun E h1 q => q.elim)
        have sp390 := sp350.tr q387
        refine tw_iadd dX10_isSoundNow_33 ?_
        refine tw_nmi (fun v391 ev391 => ?_)
        refine tw_aload_n 0 dX10_isSoundNow_34 rfl rfl ?_
        refine tw_iload_n 1 dX10_isSoundNow_35 rfl rfl ?_
        refine tw_iconst (v := 4) dX10_isSoundNow_36 (by decide) ?_
        obtain ⟨e392, f393, th_394, td_395, ds_396, fr_397, ca_398, us_399, wo_400, cm_401, lc_402, lh_403, ld_404, rfl, k405, k406, k407, k408, k409, k410, k411, k412, k413, k414, k415, k416, k417, k418, k419, k420, k421, k422, k423, k424, k425, k426⟩ := sp390.1 x 36 kx (by decide)
        refine tw_bi (tw_callV (M := mX10_isSoundNow) (pc := 37) okX10_worldNow dX10_isSoundNow_37 w_1533 rfl f393 [.int (nI k1), .int 4] [.int v391] rfl rfl ⟨by decide, by decide⟩ (Nat.le_of_ble_eq_true rfl) (c_X10_worldNow d g τ h388 sp390.1 x kx (nI k1) 4 (vp_in_nI (by omega) (by decide)) (vp_in_nI (n := 4) (by decide) (by decide))) ((((((2 + 20 * (r2 + 1)) - 3) - 3) - 3) - 3) - 3) ((((((8 + 92 * (r2 + 1)) - 14) - 14) - 14) - 14) - 14) (by omega) (by omega)) (fun r429 h428 q427 => ?_) (fun E h1 q => q.elim)
        have sp430 := sp390.tr q427
        refine tw_iadd dX10_isSoundNow_40 ?_
        refine tw_nmi (fun v431 ev431 => ?_)
        refine tw_aload_n 0 dX10_isSoundNow_41 rfl rfl ?_
        refine tw_iload_n 1 dX10_isSoundNow_42 rfl rfl ?_
        refine tw_iconst (v := 5) dX10_isSoundNow_43 (by decide) ?_
        obtain ⟨e432, f433, th_434, td_435, ds_436, fr_437, ca_438, us_439, wo_440, cm_441, lc_442, lh_443, ld_444, rfl, k445, k446, k447, k448, k449, k450, k451, k452, k453, k454, k455, k456, k457, k458, k459, k460, k461, k462, k463, k464, k465, k466⟩ := sp430.1 x 36 kx (by decide)
        refine tw_bi (tw_callV (M := mX10_isSoundNow) (pc := 44) okX10_worldNow dX10_isSoundNow_44 w_1533 rfl f433 [.int (nI k1), .int 5] [.int v431] rfl rfl ⟨by decide, by decide⟩ (Nat.le_of_ble_eq_true rfl) (c_X10_worldNow d g τ h428 sp430.1 x kx (nI k1) 5 (vp_in_nI (by omega) (by decide)) (vp_in_nI (n := 5) (by decide) (by decide))) (((((((2 + 20 * (r2 + 1)) - 3) - 3) - 3) - 3) - 3) - 3) (((((((8 + 92 * (r2 + 1)) - 14) - 14) - 14) - 14) - 14) - 14) (by omega) (by omega)) (fun r469 h468 q467 => ?_) (fun E h1 q => q.elim)
        have sp470 := sp430.tr q467
        refine tw_icmp_eq 52 dX10_isSoundNow_47 (by decide) (fun c471 => ?_) (fun c471 => ?_)
        · refine tw_aload_n 0 dX10_isSoundNow_52 rfl rfl ?_
          obtain ⟨e472, f473, th_474, td_475, ds_476, fr_477, ca_478, us_479, wo_480, cm_481, lc_482, lh_483, ld_484, rfl, k485, k486, k487, k488, k489, k490, k491, k492, k493, k494, k495, k496, k497, k498, k499, k500, k501, k502, k503, k504, k505, k506⟩ := sp470.1 x 36 kx (by decide)
          refine tw_get (v := .ref lc_482) rfl in_14 9 dX10_isSoundNow_53 w_1160 rfl (by decide) f473 rfl ?_
          obtain ⟨e507, f508, ⟨el509, rfl, k510⟩, k511⟩ := sp470.1 lc_482 24 k491 (by decide)
          refine tw_br (tw_callV (M := mX10_isSoundNow) (pc := 56) okJx4a65c_iterator_32c93 dX10_isSoundNow_56 w_1382 rfl f508 [] [] rfl rfl ⟨by decide, by decide⟩ (Nat.le_of_ble_eq_true rfl) (c_iterator d h468 lc_482 el509 (g.1 3) (nI (g.2 3)) f508) ((((((((2 + 20 * (r2 + 1)) - 3) - 3) - 3) - 3) - 3) - 3) - 1) ((((((((8 + 92 * (r2 + 1)) - 14) - 14) - 14) - 14) - 14) - 14) - 4) (by omega) (by omega)) (fun it512 h513 q514 => ?_) (fun E h1 q => q.elim)
          obtain ⟨q514n, q514e⟩ := q514
          rw [q514e]
          have n515 := sp470.nn q514n
          have z516 := sp470.1.none q514n
          obtain ⟨h517, eh517⟩ : ∃ z : tw_H, z = tw_up h468 it512 (.inr (2, [.int 0, .int (-1), .int (g.1 3), .ref lc_482])) := ⟨_, rfl⟩
          rw [← eh517]
          have sp518 : tw_sp d τ h g τ h517 := by rw [eh517]; exact sp470.mk q514n
          have f519 : h517 it512 = some (.inr (2, [.int 0, .int (-1), .int (g.1 3), .ref lc_482])) := by rw [eh517]; exact tw_up_s
          refine tw_astore_n [(2, .ref it512), (0, .ref x), (1, .int (nI k1))] dX10_isSoundNow_59 rfl (by decide) rfl ?_
          have L524 : ∀ (r520 j521 : Nat) (l522 : Int32) (h525 : tw_H) (sp526 : tw_sp d τ (tw_rm h517 it512) g τ h525) (ft527 : h525 it512 = some (.inr (2, [.int (nI j521), .int l522, .int (g.1 3), .ref lc_482]))) (zt528 : τ it512 = 0), g.2 3 + 1 ≤ j521 + r520 → j521 ≤ g.2 3 → tw_W d mX10_isSoundNow (tw_qi (fun r h1 => tw_sp d τ h g τ h1 ∧ tw_01 r) tw_nx) 60 [(0, .ref x), (1, .int (nI k1)), (2, .ref it512)] [] h525 ((((((((2 + 20 * (r2 + 1)) - 3) - 3) - 3) - 3) - 3) - 3) - 1) ((((((((8 + 92 * (r2 + 1)) - 14) - 14) - 14) - 14) - 14) - 14) - 4) := by
            intro r520
            induction r520 with
            | zero => intro j521 l522 h525 sp526 ft527 zt528 hk529 hk530; exact absurd hk529 (by omega)
            | succ r520 ih523 =>
              intro j521 l522 h525 sp526 ft527 zt528 hk529 hk530
              refine tw_aload_n 2 dX10_isSoundNow_60 rfl rfl ?_
              obtain ⟨e531, f532, ⟨el533, rfl, k534⟩, k535⟩ := sp526.1 lc_482 24 k491 (by decide)
              refine tw_bi (tw_callF (M := mX10_isSoundNow) (pc := 61) (n9 := 0) (ci := 2) tw_hasNext ok_itHas w_1412 w_1410 (fun s H z => z.2.2.2.2.2.2.2.2.1) (by decide +kernel) dX10_isSoundNow_61 w_1406 rfl ft527 [] [] rfl rfl ⟨by decide, by decide⟩ (Nat.le_of_ble_eq_true rfl) (c_hasNext d h525 it512 lc_482 el533 j521 (g.2 3) l522 (g.1 3) (g.1 3) ft527 f532 (by omega) (tw_lim24 sp526.1 k491)) ((((((((2 + 20 * (r2 + 1)) - 3) - 3) - 3) - 3) - 3) - 3) - 1) ((((((((8 + 92 * (r2 + 1)) - 14) - 14) - 14) - 14) - 14) - 14) - 4) (by omega) (by omega)) (fun r538 h537 q536 => ?_) (fun E h1 q => q.elim)
              obtain ⟨q536e, q536q⟩ := q536
              rw [q536e]
              rcases q536q with ⟨q536r, q536j⟩ | ⟨q536r, q536j⟩
              · rw [q536r]
                refine tw_if_eq 95 dX10_isSoundNow_66 (by decide) (fun _ => ?_) (fun c539 => absurd (by decide) c539)
                refine tw_aload_n 0 dX10_isSoundNow_95 rfl rfl ?_
                obtain ⟨e540, f541, th_542, td_543, ds_544, fr_545, ca_546, us_547, wo_548, cm_549, lc_550, lh_551, ld_552, rfl, k553, k554, k555, k556, k557, k558, k559, k560, k561, k562, k563, k564, k565, k566, k567, k568, k569, k570, k571, k572, k573, k574⟩ := sp526.1 x 36 kx (by decide)
                refine tw_get (v := .ref lh_551) rfl in_14 10 dX10_isSoundNow_96 w_1161 rfl (by decide) f541 rfl ?_
                obtain ⟨e575, f576, ⟨el577, rfl, k578⟩, k579⟩ := sp526.1 lh_551 25 k560 (by decide)
                refine tw_br (tw_callV (M := mX10_isSoundNow) (pc := 99) okJx4a65c_iterator_32c93 dX10_isSoundNow_99 w_1382 rfl f576 [] [] rfl rfl ⟨by decide, by decide⟩ (Nat.le_of_ble_eq_true rfl) (c_iterator d h525 lh_551 el577 (g.1 4) (nI (g.2 4)) f576) (((((((((2 + 20 * (r2 + 1)) - 3) - 3) - 3) - 3) - 3) - 3) - 1) - 1) (((((((((8 + 92 * (r2 + 1)) - 14) - 14) - 14) - 14) - 14) - 14) - 4) - 4) (by omega) (by omega)) (fun it580 h581 q582 => ?_) (fun E h1 q => q.elim)
                obtain ⟨q582n, q582e⟩ := q582
                rw [q582e]
                have n583 := sp526.nn q582n
                have z584 := sp526.1.none q582n
                have ne585 := tw_neF ft527 q582n
                obtain ⟨h586, eh586⟩ : ∃ z : tw_H, z = tw_up h525 it580 (.inr (2, [.int 0, .int (-1), .int (g.1 4), .ref lh_551])) := ⟨_, rfl⟩
                rw [← eh586]
                have sp587 : tw_sp d τ (tw_rm h517 it512) g τ h586 := by rw [eh586]; exact sp526.mk q582n
                have f588 : h586 it512 = some (.inr (2, [.int (nI j521), .int l522, .int (g.1 3), .ref lc_482])) := by rw [eh586, tw_up_n ne585]; exact ft527
                have f589 : h586 it580 = some (.inr (2, [.int 0, .int (-1), .int (g.1 4), .ref lh_551])) := by rw [eh586]; exact tw_up_s
                refine tw_astore_n [(2, .ref it580), (0, .ref x), (1, .int (nI k1))] dX10_isSoundNow_102 rfl (by decide) rfl ?_
                have L594 : ∀ (r590 j591 : Nat) (l592 : Int32) (h595 : tw_H) (sp596 : tw_sp d τ (tw_rm h586 it580) g τ h595) (ft597 : h595 it580 = some (.inr (2, [.int (nI j591), .int l592, .int (g.1 4), .ref lh_551]))) (zt598 : τ it580 = 0), g.2 4 + 1 ≤ j591 + r590 → j591 ≤ g.2 4 → tw_W d mX10_isSoundNow (tw_qi (fun r h1 => tw_sp d τ h g τ h1 ∧ tw_01 r) tw_nx) 103 [(0, .ref x), (1, .int (nI k1)), (2, .ref it580)] [] h595 (((((((((2 + 20 * (r2 + 1)) - 3) - 3) - 3) - 3) - 3) - 3) - 1) - 1) (((((((((8 + 92 * (r2 + 1)) - 14) - 14) - 14) - 14) - 14) - 14) - 4) - 4) := by
                  intro r590
                  induction r590 with
                  | zero => intro j591 l592 h595 sp596 ft597 zt598 hk599 hk600; exact absurd hk599 (by omega)
                  | succ r590 ih593 =>
                    intro j591 l592 h595 sp596 ft597 zt598 hk599 hk600
                    have f601 := (sp596.2.2 _ _ (by unfold tw_rm; rw [if_neg ne585]; exact f588) zt528).1
                    have z602 := (sp596.2.2 _ _ (by unfold tw_rm; rw [if_neg ne585]; exact f588) zt528).2
                    refine tw_aload_n 2 dX10_isSoundNow_103 rfl rfl ?_
                    obtain ⟨e603, f604, ⟨el605, rfl, k606⟩, k607⟩ := sp596.1 lh_551 25 k560 (by decide)
                    refine tw_bi (tw_callF (M := mX10_isSoundNow) (pc := 104) (n9 := 0) (ci := 2) tw_hasNext ok_itHas w_1412 w_1410 (fun s H z => z.2.2.2.2.2.2.2.2.1) (by decide +kernel) dX10_isSoundNow_104 w_1406 rfl ft597 [] [] rfl rfl ⟨by decide, by decide⟩ (Nat.le_of_ble_eq_true rfl) (c_hasNext d h595 it580 lh_551 el605 j591 (g.2 4) l592 (g.1 4) (g.1 4) ft597 f604 (by omega) (tw_lim25 sp596.1 k560)) (((((((((2 + 20 * (r2 + 1)) - 3) - 3) - 3) - 3) - 3) - 3) - 1) - 1) (((((((((8 + 92 * (r2 + 1)) - 14) - 14) - 14) - 14) - 14) - 14) - 4) - 4) (by omega) (by omega)) (fun r610 h609 q608 => ?_) (fun E h1 q => q.elim)
                    obtain ⟨q608e, q608q⟩ := q608
                    rw [q608e]
                    rcases q608q with ⟨q608r, q608j⟩ | ⟨q608r, q608j⟩
                    · rw [q608r]
                      refine tw_if_eq 157 dX10_isSoundNow_109 (by decide) (fun _ => ?_) (fun c611 => absurd (by decide) c611)
                      obtain ⟨v612, ev612⟩ : ∃ y : Int32, y = (nI k1) + 1 := ⟨_, rfl⟩
                      refine tw_iinc [(1, .int v612), (0, .ref x), (2, .ref it580)] 1 dX10_isSoundNow_157 rfl (by rw [ev612]; rfl) (by decide) rfl ?_
                      refine tw_goto 2 dX10_isSoundNow_160 (by decide) ?_
                      have qv612 := tw_nI3 ev612
                      rw [qv612]
                      refine tw_lv [1, 0] rfl ?_
                      refine tw_less (c2 := 2 + 20 * r2) (n2 := 8 + 92 * r2) (by omega) (by omega) ?_
                      exact ih3 (k1 + 1)  _ (sp518.trm n515 (sp587.trm n583 sp596)) (by omega) (by omega)
                    · rw [q608r]
                      refine tw_if_eq 157 dX10_isSoundNow_109 (by decide) (fun c613 => absurd c613 (by decide)) (fun _ => ?_)
                      refine tw_aload_n 2 dX10_isSoundNow_112 rfl rfl ?_
                      have k614 : τ el605 = 28 := k606.resolve_left (fun q => absurd q608j (by rw [q.2.1]; exact Nat.not_lt_zero _))
                      obtain ⟨e615, f616, ⟨F617, rfl, hc618, hc619⟩, un620⟩ := sp596.1 el605 28 k614 (by decide)
                      obtain ⟨y621, hy622, ky623⟩ := hc619 j591 q608j
                      refine tw_br (tw_callF (M := mX10_isSoundNow) (pc := 113) (n9 := 0) (ci := 2) tw_next ok_itNext w_1421 w_1419 (fun s H z => z.2.2.2.2.2.2.2.2.2) (by decide +kernel) dX10_isSoundNow_113 w_1416 rfl ft597 [] [] rfl rfl ⟨by decide, by decide⟩ (Nat.le_of_ble_eq_true rfl) (c_next d h595 it580 lh_551 el605 j591 (g.2 4) y621 l592 (g.1 4) F617 ft597 f604 f616 q608j hc618 hy622) (((((((((2 + 20 * (r2 + 1)) - 3) - 3) - 3) - 3) - 3) - 3) - 1) - 1) (((((((((8 + 92 * (r2 + 1)) - 14) - 14) - 14) - 14) - 14) - 14) - 4) - 4) (by omega) (by omega)) (fun r626 h625 q624 => ?_) (fun E h1 q => q.elim)
                      obtain ⟨q624r, q624e⟩ := q624
                      rw [q624r]
                      have sp627 : tw_sp d τ (tw_rm h586 it580) g τ h625 := by rw [q624e]; exact sp596.wl tw_rm_s zt598
                      have f628 : h625 it512 = some (.inr (2, [.int (nI j521), .int l522, .int (g.1 3), .ref lc_482])) := by rw [q624e, tw_up_n ne585]; exact f601
                      have f629 : h625 it580 = some (.inr (2, [.int (nI (j591 + 1)), .int (nI j591), .int (g.1 4), .ref lh_551])) := by rw [q624e]; exact tw_up_s
                      obtain ⟨e630, f631, x_632, y_633, dy_634, p_635, rfl, k636, k637, k638, k639⟩ := sp627.1 y621 23 ky623 (by decide)
                      refine tw_castS (ci := 13) rfl dX10_isSoundNow_118 w_1332 f631 ?_
                      refine tw_astore_n [(3, .ref y621), (0, .ref x), (1, .int (nI k1)), (2, .ref it580)] dX10_isSoundNow_121 rfl (by decide) rfl ?_
                      refine tw_aload_n 0 dX10_isSoundNow_122 rfl rfl ?_
                      refine tw_get (v := .ref p_635) rfl in_13 3 dX10_isSoundNow_123 w_1344 rfl (by decide) f631 rfl ?_
                      refine tw_iload_n 2 dX10_isSoundNow_126 rfl rfl ?_
                      obtain ⟨e640, f641, F642, rfl, pf643⟩ := sp627.1 p_635 31 k636 (by decide)
                      obtain ⟨v644, ev644⟩ : ∃ y : Int64, F642 ((nI k1)).toNatClampNeg = y := ⟨_, rfl⟩
                      refine tw_lald (v := v644) dX10_isSoundNow_127 f641 (vp_in_nI (by omega) (by decide)) ev644 ?_
                      refine tw_lconst (v := 0) dX10_isSoundNow_128 (by decide) ?_
                      refine tw_lcmp dX10_isSoundNow_129 ?_
                      refine tw_nmi (fun v645 ev645 => ?_)
                      refine tw_if_lt 152 dX10_isSoundNow_130 (by decide) (fun c646 => ?_) (fun c646 => ?_)
                      · refine tw_iconst (v := 0) dX10_isSoundNow_152 (by decide) ?_
                        exact tw_zret dX10_isSoundNow_153 rfl rfl (Or.inl ⟨_, rfl, ⟨(sp0.tr (sp518.trm n515 (sp587.trm n583 sp627))), (by unfold tw_01; decide)⟩⟩)
                      · refine tw_aload_n 0 dX10_isSoundNow_133 rfl rfl ?_
                        refine tw_get (v := .int x_632) rfl in_13 0 dX10_isSoundNow_134 w_1338 rfl (by decide) f631 rfl ?_
                        refine tw_iconst (v := -1) dX10_isSoundNow_137 (by decide) ?_
                        refine tw_icmp_ne 154 dX10_isSoundNow_138 (by decide) (fun c647 => ?_) (fun c647 => ?_)
                        · refine tw_goto 103 dX10_isSoundNow_154 (by decide) ?_
                          refine tw_lv [1, 2, 3] rfl ?_
                          exact ih593 ((j591 + 1)) (nI j591)  _ sp627 f629 zt598  (by omega) (by omega)
                        · refine tw_aload_n 0 dX10_isSoundNow_141 rfl rfl ?_
                          refine tw_get (v := .int dy_634) rfl in_13 2 dX10_isSoundNow_142 w_1342 rfl (by decide) f631 rfl ?_
                          refine tw_aload_n 1 dX10_isSoundNow_145 rfl rfl ?_
                          obtain ⟨e648, f649, th_650, td_651, ds_652, fr_653, ca_654, us_655, wo_656, cm_657, lc_658, lh_659, ld_660, rfl, k661, k662, k663, k664, k665, k666, k667, k668, k669, k670, k671, k672, k673, k674, k675, k676, k677, k678, k679, k680, k681, k682⟩ := sp627.1 x 36 kx (by decide)
                          refine tw_get (v := .int td_651) rfl in_14 1 dX10_isSoundNow_146 w_1152 rfl (by decide) f649 rfl ?_
                          refine tw_icmp_gt 154 dX10_isSoundNow_149 (by decide) (fun c683 => ?_) (fun c683 => ?_)
                          · refine tw_goto 103 dX10_isSoundNow_154 (by decide) ?_
                            refine tw_lv [1, 2, 3] rfl ?_
                            exact ih593 ((j591 + 1)) (nI j591)  _ sp627 f629 zt598  (by omega) (by omega)
                          · refine tw_iconst (v := 0) dX10_isSoundNow_152 (by decide) ?_
                            exact tw_zret dX10_isSoundNow_153 rfl rfl (Or.inl ⟨_, rfl, ⟨(sp0.tr (sp518.trm n515 (sp587.trm n583 sp627))), (by unfold tw_01; decide)⟩⟩)
                refine tw_lv [1, 2, 0] rfl ?_
                exact L594 (g.2 4 + 1) 0 (-1)  _ (tw_sp.rm sp587.1 it580) f589 z584  (by omega) (Nat.zero_le _)
              · rw [q536r]
                refine tw_if_eq 95 dX10_isSoundNow_66 (by decide) (fun c684 => absurd c684 (by decide)) (fun _ => ?_)
                refine tw_aload_n 2 dX10_isSoundNow_69 rfl rfl ?_
                have k685 : τ el533 = 27 := k534.resolve_left (fun q => absurd q536j (by rw [q.2.1]; exact Nat.not_lt_zero _))
                obtain ⟨e686, f687, ⟨F688, rfl, hc689, hc690⟩, un691⟩ := sp526.1 el533 27 k685 (by decide)
                obtain ⟨y692, hy693, ky694⟩ := hc690 j521 q536j
                refine tw_br (tw_callF (M := mX10_isSoundNow) (pc := 70) (n9 := 0) (ci := 2) tw_next ok_itNext w_1421 w_1419 (fun s H z => z.2.2.2.2.2.2.2.2.2) (by decide +kernel) dX10_isSoundNow_70 w_1416 rfl ft527 [] [] rfl rfl ⟨by decide, by decide⟩ (Nat.le_of_ble_eq_true rfl) (c_next d h525 it512 lc_482 el533 j521 (g.2 3) y692 l522 (g.1 3) F688 ft527 f532 f687 q536j hc689 hy693) ((((((((2 + 20 * (r2 + 1)) - 3) - 3) - 3) - 3) - 3) - 3) - 1) ((((((((8 + 92 * (r2 + 1)) - 14) - 14) - 14) - 14) - 14) - 14) - 4) (by omega) (by omega)) (fun r697 h696 q695 => ?_) (fun E h1 q => q.elim)
                obtain ⟨q695r, q695e⟩ := q695
                rw [q695r]
                have sp698 : tw_sp d τ (tw_rm h517 it512) g τ h696 := by rw [q695e]; exact sp526.wl tw_rm_s zt528
                have f699 : h696 it512 = some (.inr (2, [.int (nI (j521 + 1)), .int (nI j521), .int (g.1 3), .ref lc_482])) := by rw [q695e]; exact tw_up_s
                obtain ⟨e700, f701, r_702, c_703, v_704, o_705, t_706, rfl, k707, k708, k709, k710, k711, k712⟩ := sp698.1 y692 21 ky694 (by decide)
                refine tw_castS (ci := 11) rfl dX10_isSoundNow_75 w_1208 f701 ?_
                refine tw_astore_n [(3, .ref y692), (0, .ref x), (1, .int (nI k1)), (2, .ref it512)] dX10_isSoundNow_78 rfl (by decide) rfl ?_
                refine tw_aload_n 0 dX10_isSoundNow_79 rfl rfl ?_
                refine tw_get (v := .ref v_704) rfl in_11 2 dX10_isSoundNow_80 w_1217 rfl (by decide) f701 rfl ?_
                refine tw_iload_n 2 dX10_isSoundNow_83 rfl rfl ?_
                obtain ⟨e713, f714, F715, rfl, pf716⟩ := sp698.1 v_704 31 k707 (by decide)
                obtain ⟨v717, ev717⟩ : ∃ y : Int64, F715 ((nI k1)).toNatClampNeg = y := ⟨_, rfl⟩
                refine tw_lald (v := v717) dX10_isSoundNow_84 f714 (vp_in_nI (by omega) (by decide)) ev717 ?_
                refine tw_lconst (v := 0) dX10_isSoundNow_85 (by decide) ?_
                refine tw_lcmp dX10_isSoundNow_86 ?_
                refine tw_nmi (fun v718 ev718 => ?_)
                refine tw_if_ge 92 dX10_isSoundNow_87 (by decide) (fun c719 => ?_) (fun c719 => ?_)
                · refine tw_goto 60 dX10_isSoundNow_92 (by decide) ?_
                  refine tw_lv [1, 2, 3] rfl ?_
                  exact ih523 ((j521 + 1)) (nI j521)  _ sp698 f699 zt528  (by omega) (by omega)
                · refine tw_iconst (v := 0) dX10_isSoundNow_90 (by decide) ?_
                  exact tw_zret dX10_isSoundNow_91 rfl rfl (Or.inl ⟨_, rfl, ⟨(sp0.tr (sp518.trm n515 sp698)), (by unfold tw_01; decide)⟩⟩)
          refine tw_lv [1, 2, 0] rfl ?_
          exact L524 (g.2 3 + 1) 0 (-1)  _ (tw_sp.rm sp518.1 it512) f519 z516  (by omega) (Nat.zero_le _)
        · refine tw_iconst (v := 0) dX10_isSoundNow_50 (by decide) ?_
          exact tw_zret dX10_isSoundNow_51 rfl rfl (Or.inl ⟨_, rfl, ⟨(sp0.tr sp470), (by unfold tw_01; decide)⟩⟩)
  refine tw_lv [1, 0] rfl ?_
  refine tw_less (c2 := 2 + 20 * 3) (n2 := 8 + 92 * 3) (by omega) (by omega) ?_
  exact L4 3 0  _ (tw_sp.rf sp0.1) (by omega) (by omega)

set_option maxHeartbeats 4000000 in
set_option maxRecDepth 100000 in
theorem c_X10_isSound (d : tw_D) (g : tw_G) (τ : tw_K) (h : tw_H) (hw : tw_wt d g τ h) (x : Nat) (kx : τ x = 36) : tw_Ct d mX10_isSound 62 284 [.ref x] h (tw_qi (fun r h1 => tw_sp d τ h g τ h1 ∧ tw_01 r) tw_nx) := by
  refine tw_of (by decide +kernel) (Nat.le_of_ble_eq_true rfl) ?_
  show tw_W d mX10_isSound _ 0 [(0, .ref x)] [] h 62 284
  have sp0 := tw_sp.rf hw
  refine tw_aload_n 0 dX10_isSound_0 rfl rfl ?_
  refine tw_iconst (v := 0) dX10_isSound_1 (by decide) ?_
  obtain ⟨e1, f2, th_3, td_4, ds_5, fr_6, ca_7, us_8, wo_9, cm_10, lc_11, lh_12, ld_13, rfl, k14, k15, k16, k17, k18, k19, k20, k21, k22, k23, k24, k25, k26, k27, k28, k29, k30, k31, k32, k33, k34, k35⟩ := sp0.1 x 36 kx (by decide)
  refine tw_put rfl in_14 tyX10 tyX10_ok nmX10 0 dX10_isSound_2 w_1151 rfl (by decide) f2 rfl rfl rfl rfl (Nat.le_of_ble_eq_true rfl) [.int 0, .int td_4, .int (g.1 1), .ref ds_5, .ref fr_6, .ref ca_7, .ref us_8, .ref wo_9, .ref cm_10, .ref lc_11, .ref lh_12, .ref ld_13] rfl ?_
  obtain ⟨h36, eh36⟩ : ∃ z : tw_H, z = tw_up h x (.inr (14, [.int 0, .int td_4, .int (g.1 1), .ref ds_5, .ref fr_6, .ref ca_7, .ref us_8, .ref wo_9, .ref cm_10, .ref lc_11, .ref lh_12, .ref ld_13])) := ⟨_, rfl⟩
  rw [← eh36]
  have sp37 : tw_sp d τ h g τ h36 := by rw [eh36]; exact sp0.set kx (by decide) ⟨0, td_4, ds_5, fr_6, ca_7, us_8, wo_9, cm_10, lc_11, lh_12, ld_13, rfl, k14, k15, k16, k17, k18, k19, k20, k21, k22, k23, k24, k25, k26, (by decide), k28, k29, k30, k31, k32, k33, k34, k35⟩
  have f38 : h36 x = some (.inr (14, [.int 0, .int td_4, .int (g.1 1), .ref ds_5, .ref fr_6, .ref ca_7, .ref us_8, .ref wo_9, .ref cm_10, .ref lc_11, .ref lh_12, .ref ld_13])) := by rw [eh36]; exact tw_up_s
  refine tw_aload_n 0 dX10_isSound_5 rfl rfl ?_
  refine tw_bi (tw_callV (M := mX10_isSound) (pc := 6) okX10_isSoundNow dX10_isSound_6 w_1585 rfl f38 [] [] rfl rfl ⟨by decide, by decide⟩ (Nat.le_of_ble_eq_true rfl) (c_X10_isSoundNow d g τ h36 sp37.1 x kx) 0 0 (Nat.le_of_ble_eq_true rfl) (Nat.le_of_ble_eq_true rfl)) (fun r41 h40 q39 => ?_) (fun E h1 q => q.elim)
  obtain ⟨q39s, p43⟩ := q39
  have sp42 := sp37.tr q39s
  exact tw_zret dX10_isSound_9 rfl (tw_nar01 p43) (Or.inl ⟨_, rfl, ⟨sp42, p43⟩⟩)

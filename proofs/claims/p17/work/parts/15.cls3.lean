/-! the class's methods over the typed heap. Laid by wip/p5/mkclass.py. -/
set_option maxHeartbeats 4000000 in
set_option maxRecDepth 100000 in
theorem c_X5_isKept (d : tw_D) (g : tw_G) (τ : tw_K) (h : tw_H) (hw : tw_wt d g τ h) (x : Nat) (kx : τ x = 11) (m : Int32) : tw_Ct d mX5_isKept 0 0 [.ref x, .int m] h (tw_qi (fun r h1 => h1 = h ∧ tw_01 r) tw_nx) := by
  refine tw_of (by decide +kernel) (Nat.le_of_ble_eq_true rfl) ?_
  show tw_W d mX5_isKept _ 0 [(0, .ref x), (1, .int m)] [] h 0 0
  have sp0 := tw_sp.rf hw
  refine tw_aload_n 0 dX5_isKept_0 rfl rfl ?_
  refine tw_iload_n 1 dX5_isKept_1 rfl rfl ?_
  obtain ⟨e1, f2, td_3, ca_4, ha_5, da_6, c1_7, c2_8, c3_9, c4_10, rfl, k11, k12, k13, k14, k15, k16, k17, k18, k19, k20, k21, k22, k23⟩ := sp0.1 x 11 kx (by decide)
  refine tw_bi (tw_callV (M := mX5_isKept) (pc := 2) okX5_inVaults dX5_isKept_2 w_185 rfl f2 [.int m] [] rfl rfl ⟨by decide, by decide⟩ (Nat.le_of_ble_eq_true rfl) (c_X5_inVaults d g τ h sp0.1 x kx m) 0 0 (Nat.le_of_ble_eq_true rfl) (Nat.le_of_ble_eq_true rfl)) (fun r26 h25 q24 => ?_) (fun E h1 q => q.elim)
  rw [q24]
  refine tw_aload_n 0 dX5_isKept_5 rfl rfl ?_
  refine tw_iload_n 1 dX5_isKept_6 rfl rfl ?_
  refine tw_bi (tw_callV (M := mX5_isKept) (pc := 7) okX5_inPurses dX5_isKept_7 w_193 rfl f2 [.int m] [.int r26] rfl rfl ⟨by decide, by decide⟩ (Nat.le_of_ble_eq_true rfl) (c_X5_inPurses d g τ h sp0.1 x kx m) 0 0 (Nat.le_of_ble_eq_true rfl) (Nat.le_of_ble_eq_true rfl)) (fun r29 h28 q27 => ?_) (fun E h1 q => q.elim)
  rw [q27]
  refine tw_iadd dX5_isKept_10 ?_
  refine tw_nmi (fun v30 ev30 => ?_)
  refine tw_aload_n 0 dX5_isKept_11 rfl rfl ?_
  refine tw_get (v := .ref c1_7) rfl in_9 8 dX5_isKept_12 w_148 rfl (by decide) f2 rfl ?_
  refine tw_iload_n 1 dX5_isKept_15 rfl rfl ?_
  obtain ⟨e31, f32, a_33, b_34, rfl⟩ := sp0.1 c1_7 1 k14 (by decide)
  refine tw_bi (tw_callVN (M := mX5_isKept) (pc := 16) okX3_of dX5_isKept_16 w_189 rfl f32 [.int m] [.int v30] rfl rfl ⟨by decide, by decide⟩ (Nat.le_of_ble_eq_true rfl) (c_X3_of d g τ h sp0.1 c1_7 k14 m) 0 0 (Nat.le_of_ble_eq_true rfl) (Nat.le_of_ble_eq_true rfl)) (fun r37 h36 q35 => ?_) (fun E h1 q => q.elim)
  rw [q35]
  refine tw_iadd dX5_isKept_19 ?_
  refine tw_nmi (fun v38 ev38 => ?_)
  refine tw_aload_n 0 dX5_isKept_20 rfl rfl ?_
  refine tw_get (v := .ref c2_8) rfl in_9 9 dX5_isKept_21 w_149 rfl (by decide) f2 rfl ?_
  refine tw_iload_n 1 dX5_isKept_24 rfl rfl ?_
  obtain ⟨e39, f40, a_41, b_42, rfl⟩ := sp0.1 c2_8 1 k15 (by decide)
  refine tw_bi (tw_callVN (M := mX5_isKept) (pc := 25) okX3_of dX5_isKept_25 w_189 rfl f40 [.int m] [.int v38] rfl rfl ⟨by decide, by decide⟩ (Nat.le_of_ble_eq_true rfl) (c_X3_of d g τ h sp0.1 c2_8 k15 m) 0 0 (Nat.le_of_ble_eq_true rfl) (Nat.le_of_ble_eq_true rfl)) (fun r45 h44 q43 => ?_) (fun E h1 q => q.elim)
  rw [q43]
  refine tw_iadd dX5_isKept_28 ?_
  refine tw_nmi (fun v46 ev46 => ?_)
  refine tw_aload_n 0 dX5_isKept_29 rfl rfl ?_
  refine tw_get (v := .ref c3_9) rfl in_9 10 dX5_isKept_30 w_150 rfl (by decide) f2 rfl ?_
  refine tw_iload_n 1 dX5_isKept_33 rfl rfl ?_
  obtain ⟨e47, f48, a_49, b_50, rfl⟩ := sp0.1 c3_9 1 k16 (by decide)
  refine tw_bi (tw_callVN (M := mX5_isKept) (pc := 34) okX3_of dX5_isKept_34 w_189 rfl f48 [.int m] [.int v46] rfl rfl ⟨by decide, by decide⟩ (Nat.le_of_ble_eq_true rfl) (c_X3_of d g τ h sp0.1 c3_9 k16 m) 0 0 (Nat.le_of_ble_eq_true rfl) (Nat.le_of_ble_eq_true rfl)) (fun r53 h52 q51 => ?_) (fun E h1 q => q.elim)
  rw [q51]
  refine tw_iadd dX5_isKept_37 ?_
  refine tw_nmi (fun v54 ev54 => ?_)
  refine tw_istore_n [(2, .int v54), (0, .ref x), (1, .int m)] dX5_isKept_38 rfl (by decide) rfl ?_
  refine tw_iload_n 0 dX5_isKept_39 rfl rfl ?_
  refine tw_aload_n 1 dX5_isKept_40 rfl rfl ?_
  refine tw_get (v := .ref c4_10) rfl in_9 11 dX5_isKept_41 w_151 rfl (by decide) f2 rfl ?_
  refine tw_iload_n 2 dX5_isKept_44 rfl rfl ?_
  obtain ⟨e55, f56, a_57, b_58, rfl⟩ := sp0.1 c4_10 1 k17 (by decide)
  refine tw_bi (tw_callVN (M := mX5_isKept) (pc := 45) okX3_of dX5_isKept_45 w_189 rfl f56 [.int m] [.int v54] rfl rfl ⟨by decide, by decide⟩ (Nat.le_of_ble_eq_true rfl) (c_X3_of d g τ h sp0.1 c4_10 k17 m) 0 0 (Nat.le_of_ble_eq_true rfl) (Nat.le_of_ble_eq_true rfl)) (fun r61 h60 q59 => ?_) (fun E h1 q => q.elim)
  rw [q59]
  refine tw_icmp_ne 55 dX5_isKept_48 (by decide) (fun c62 => ?_) (fun c62 => ?_)
  · refine tw_iconst (v := 0) dX5_isKept_55 (by decide) ?_
    exact tw_zret dX5_isKept_56 rfl rfl (Or.inl ⟨_, rfl, ⟨rfl, (by unfold tw_01; decide)⟩⟩)
  · refine tw_iconst (v := 1) dX5_isKept_51 (by decide) ?_
    refine tw_goto 56 dX5_isKept_52 (by decide) ?_
    exact tw_zret dX5_isKept_56 rfl rfl (Or.inl ⟨_, rfl, ⟨rfl, (by unfold tw_01; decide)⟩⟩)

set_option maxHeartbeats 4000000 in
set_option maxRecDepth 100000 in
theorem c_X5_areCountriesSound (d : tw_D) (g : tw_G) (τ : tw_K) (h : tw_H) (hw : tw_wt d g τ h) (x : Nat) (kx : τ x = 11) : tw_Ct d mX5_areCountriesSound 0 0 [.ref x] h (tw_qi (fun r h1 => h1 = h ∧ tw_01 r) tw_nx) := by
  refine tw_of (by decide +kernel) (Nat.le_of_ble_eq_true rfl) ?_
  show tw_W d mX5_areCountriesSound _ 0 [(0, .ref x)] [] h 0 0
  have sp0 := tw_sp.rf hw
  refine tw_aload_n 0 dX5_areCountriesSound_0 rfl rfl ?_
  obtain ⟨e1, f2, td_3, ca_4, ha_5, da_6, c1_7, c2_8, c3_9, c4_10, rfl, k11, k12, k13, k14, k15, k16, k17, k18, k19, k20, k21, k22, k23⟩ := sp0.1 x 11 kx (by decide)
  refine tw_get (v := .ref ca_4) rfl in_9 2 dX5_areCountriesSound_1 w_142 rfl (by decide) f2 rfl ?_
  refine tw_astore_n [(1, .ref ca_4), (0, .ref x)] dX5_areCountriesSound_4 rfl (by decide) rfl ?_
  refine tw_aload_n 0 dX5_areCountriesSound_5 rfl rfl ?_
  obtain ⟨e24, f25, F26, rfl, k27, pn28, pb29, px30, pf31⟩ := sp0.1 ca_4 8 k11 (by decide)
  refine tw_alen (v := nI 4) 4 rfl dX5_areCountriesSound_6 f25 rfl ?_
  refine tw_istore_n [(2, .int (nI 4)), (1, .ref ca_4), (0, .ref x)] dX5_areCountriesSound_7 rfl (by decide) rfl ?_
  refine tw_iconst (v := 0) dX5_areCountriesSound_8 (by decide) ?_
  refine tw_istore_n [(3, .int 0), (2, .int (nI 4)), (1, .ref ca_4), (0, .ref x)] dX5_areCountriesSound_9 rfl (by decide) rfl ?_
  have L35 : ∀ (r33 k32 : Nat), 4 + 1 ≤ k32 + r33 → k32 ≤ 4 → tw_W d mX5_areCountriesSound (tw_qi (fun r h1 => h1 = h ∧ tw_01 r) tw_nx) 10 [(0, .ref x), (1, .ref ca_4), (2, .int (nI 4)), (3, .int (nI k32))] [] h 0 0 := by
    intro r33
    induction r33 with
    | zero => intro k32  hk39 hk40; exact absurd hk39 (by omega)
    | succ r33 ih34 =>
      intro k32  hk39 hk40
      refine tw_iload_n 3 dX5_areCountriesSound_10 rfl rfl ?_
      refine tw_iload_n 2 dX5_areCountriesSound_11 rfl rfl ?_
      refine tw_icmp_ge 55 dX5_areCountriesSound_12 (by decide) (fun c41 => ?_) (fun c41 => ?_)
      · refine tw_iconst (v := 1) dX5_areCountriesSound_55 (by decide) ?_
        exact tw_zret dX5_areCountriesSound_56 rfl rfl (Or.inl ⟨_, rfl, ⟨rfl, (by unfold tw_01; decide)⟩⟩)
      · have kl42 := tw_klt (N := 4) c41 hk40 (by decide)
        refine tw_aload_n 1 dX5_areCountriesSound_15 rfl rfl ?_
        refine tw_iload_n 3 dX5_areCountriesSound_16 rfl rfl ?_
        cases k43 : F26 ((nI k32)).toNatClampNeg with
        | none =>
          refine tw_aald (v := .null) 4 rfl rfl dX5_areCountriesSound_17 f25 (vp_in_nI (by omega) (by decide)) (by rw [k43]; rfl) ?_
          refine tw_astoreN [(4, .null), (0, .ref x), (1, .ref ca_4), (2, .int (nI 4)), (3, .int (nI k32))] dX5_areCountriesSound_18 (by decide) rfl ?_
          refine tw_aloadN 0 dX5_areCountriesSound_20 rfl ?_
          refine tw_ifnullN 49 dX5_areCountriesSound_22 (by decide) ?_
          obtain ⟨v45, ev45⟩ : ∃ y : Int32, y = (nI k32) + 1 := ⟨_, rfl⟩
          refine tw_iinc [(3, .int v45), (4, .null), (0, .ref x), (1, .ref ca_4), (2, .int (nI 4))] 4 dX5_areCountriesSound_49 rfl (by rw [ev45]; rfl) (by decide) rfl ?_
          refine tw_goto 10 dX5_areCountriesSound_52 (by decide) ?_
          have qv45 := tw_nI3 ev45
          rw [qv45]
          refine tw_lv [2, 3, 4, 0] rfl ?_
          exact ih34 (k32 + 1)  (by omega) (by omega)
        | some q44 =>
          have k46 := k27 _ _ k43
          refine tw_aald (v := .ref q44) 4 rfl rfl dX5_areCountriesSound_17 f25 (vp_in_nI (by omega) (by decide)) (by rw [k43]; rfl) ?_
          refine tw_astore [(4, .ref q44), (0, .ref x), (1, .ref ca_4), (2, .int (nI 4)), (3, .int (nI k32))] dX5_areCountriesSound_18 (by decide) rfl ?_
          refine tw_aload 0 dX5_areCountriesSound_20 rfl ?_
          refine tw_ifnull dX5_areCountriesSound_22 ?_
          refine tw_aload 0 dX5_areCountriesSound_25 rfl ?_
          obtain ⟨e47, f48, n_49, r_50, c_51, go_52, so_53, v_54, rd_55, rf_56, t_57, rfl, k58, k59, k60, k61, k62, k63, k64, k65, k66⟩ := sp0.1 q44 2 k46 (by decide)
          refine tw_getN (v := .ref v_54) rfl in_4 3 dX5_areCountriesSound_27 w_508 rfl (by decide) f48 rfl ?_
          obtain ⟨e67, f68, a_69, b_70, rfl⟩ := sp0.1 v_54 1 k58 (by decide)
          refine tw_bi (tw_callVN (M := mX5_areCountriesSound) (pc := 30) okX3_isBelowZero dX5_areCountriesSound_30 w_201 rfl f68 [] [] rfl rfl ⟨by decide, by decide⟩ (Nat.le_of_ble_eq_true rfl) (c_X3_isBelowZero d g τ h sp0.1 v_54 k58) 0 0 (Nat.le_of_ble_eq_true rfl) (Nat.le_of_ble_eq_true rfl)) (fun r73 h72 q71 => ?_) (fun E h1 q => q.elim)
          obtain ⟨q71e, p74⟩ := q71
          rw [q71e]
          refine tw_if_ne 47 dX5_areCountriesSound_33 (by decide) (fun c75 => ?_) (fun c75 => ?_)
          · refine tw_iconst (v := 0) dX5_areCountriesSound_47 (by decide) ?_
            exact tw_zret dX5_areCountriesSound_48 rfl rfl (Or.inl ⟨_, rfl, ⟨rfl, (by unfold tw_01; decide)⟩⟩)
          · refine tw_aload 0 dX5_areCountriesSound_36 rfl ?_
            refine tw_getN (v := .ref t_57) rfl in_4 8 dX5_areCountriesSound_38 w_514 rfl (by decide) f48 rfl ?_
            obtain ⟨e76, f77, m_78, rfl, k79, k80⟩ := sp0.1 t_57 5 k61 (by decide)
            refine tw_bi (tw_callVN (M := mX5_areCountriesSound) (pc := 41) okX4_isBelowZero dX5_areCountriesSound_41 w_205 rfl f77 [] [] rfl rfl ⟨by decide, by decide⟩ (Nat.le_of_ble_eq_true rfl) (c_X4_isBelowZero d g τ h sp0.1 t_57 k61) 0 0 (Nat.le_of_ble_eq_true rfl) (Nat.le_of_ble_eq_true rfl)) (fun r83 h82 q81 => ?_) (fun E h1 q => q.elim)
            obtain ⟨q81e, p84⟩ := q81
            rw [q81e]
            refine tw_if_eq 49 dX5_areCountriesSound_44 (by decide) (fun c85 => ?_) (fun c85 => ?_)
            · obtain ⟨v86, ev86⟩ : ∃ y : Int32, y = (nI k32) + 1 := ⟨_, rfl⟩
              refine tw_iinc [(3, .int v86), (4, .ref q44), (0, .ref x), (1, .ref ca_4), (2, .int (nI 4))] 4 dX5_areCountriesSound_49 rfl (by rw [ev86]; rfl) (by decide) rfl ?_
              refine tw_goto 10 dX5_areCountriesSound_52 (by decide) ?_
              have qv86 := tw_nI3 ev86
              rw [qv86]
              refine tw_lv [2, 3, 4, 0] rfl ?_
              exact ih34 (k32 + 1)  (by omega) (by omega)
            · refine tw_iconst (v := 0) dX5_areCountriesSound_47 (by decide) ?_
              exact tw_zret dX5_areCountriesSound_48 rfl rfl (Or.inl ⟨_, rfl, ⟨rfl, (by unfold tw_01; decide)⟩⟩)
  refine tw_lv [3, 2, 1, 0] rfl ?_
  exact L35 (4 + 1) 0  (by omega) (by omega)

set_option maxHeartbeats 4000000 in
set_option maxRecDepth 100000 in
theorem c_X5_areHousesSound (d : tw_D) (g : tw_G) (τ : tw_K) (h : tw_H) (hw : tw_wt d g τ h) (x : Nat) (kx : τ x = 11) : tw_Ct d mX5_areHousesSound 0 0 [.ref x] h (tw_qi (fun r h1 => h1 = h ∧ tw_01 r) tw_nx) := by
  refine tw_of (by decide +kernel) (Nat.le_of_ble_eq_true rfl) ?_
  show tw_W d mX5_areHousesSound _ 0 [(0, .ref x)] [] h 0 0
  have sp0 := tw_sp.rf hw
  refine tw_aload_n 0 dX5_areHousesSound_0 rfl rfl ?_
  obtain ⟨e1, f2, td_3, ca_4, ha_5, da_6, c1_7, c2_8, c3_9, c4_10, rfl, k11, k12, k13, k14, k15, k16, k17, k18, k19, k20, k21, k22, k23⟩ := sp0.1 x 11 kx (by decide)
  refine tw_get (v := .ref ha_5) rfl in_9 4 dX5_areHousesSound_1 w_144 rfl (by decide) f2 rfl ?_
  refine tw_astore_n [(1, .ref ha_5), (0, .ref x)] dX5_areHousesSound_4 rfl (by decide) rfl ?_
  refine tw_aload_n 0 dX5_areHousesSound_5 rfl rfl ?_
  obtain ⟨e24, f25, F26, rfl, k27, pn28, pb29, px30⟩ := sp0.1 ha_5 9 k12 (by decide)
  refine tw_alen (v := nI 6) 5 rfl dX5_areHousesSound_6 f25 rfl ?_
  refine tw_istore_n [(2, .int (nI 6)), (1, .ref ha_5), (0, .ref x)] dX5_areHousesSound_7 rfl (by decide) rfl ?_
  refine tw_iconst (v := 0) dX5_areHousesSound_8 (by decide) ?_
  refine tw_istore_n [(3, .int 0), (2, .int (nI 6)), (1, .ref ha_5), (0, .ref x)] dX5_areHousesSound_9 rfl (by decide) rfl ?_
  have L34 : ∀ (r32 k31 : Nat), 6 + 1 ≤ k31 + r32 → k31 ≤ 6 → tw_W d mX5_areHousesSound (tw_qi (fun r h1 => h1 = h ∧ tw_01 r) tw_nx) 10 [(0, .ref x), (1, .ref ha_5), (2, .int (nI 6)), (3, .int (nI k31))] [] h 0 0 := by
    intro r32
    induction r32 with
    | zero => intro k31  hk38 hk39; exact absurd hk38 (by omega)
    | succ r32 ih33 =>
      intro k31  hk38 hk39
      refine tw_iload_n 3 dX5_areHousesSound_10 rfl rfl ?_
      refine tw_iload_n 2 dX5_areHousesSound_11 rfl rfl ?_
      refine tw_icmp_ge 56 dX5_areHousesSound_12 (by decide) (fun c40 => ?_) (fun c40 => ?_)
      · refine tw_iconst (v := 1) dX5_areHousesSound_56 (by decide) ?_
        exact tw_zret dX5_areHousesSound_57 rfl rfl (Or.inl ⟨_, rfl, ⟨rfl, (by unfold tw_01; decide)⟩⟩)
      · have kl41 := tw_klt (N := 6) c40 hk39 (by decide)
        refine tw_aload_n 1 dX5_areHousesSound_15 rfl rfl ?_
        refine tw_iload_n 3 dX5_areHousesSound_16 rfl rfl ?_
        cases k42 : F26 ((nI k31)).toNatClampNeg with
        | none =>
          refine tw_aald (v := .null) 5 rfl rfl dX5_areHousesSound_17 f25 (vp_in_nI (by omega) (by decide)) (by rw [k42]; rfl) ?_
          refine tw_astoreN [(4, .null), (0, .ref x), (1, .ref ha_5), (2, .int (nI 6)), (3, .int (nI k31))] dX5_areHousesSound_18 (by decide) rfl ?_
          refine tw_aloadN 0 dX5_areHousesSound_20 rfl ?_
          refine tw_ifnullN 50 dX5_areHousesSound_22 (by decide) ?_
          obtain ⟨v44, ev44⟩ : ∃ y : Int32, y = (nI k31) + 1 := ⟨_, rfl⟩
          refine tw_iinc [(3, .int v44), (4, .null), (0, .ref x), (1, .ref ha_5), (2, .int (nI 6))] 4 dX5_areHousesSound_50 rfl (by rw [ev44]; rfl) (by decide) rfl ?_
          refine tw_goto 10 dX5_areHousesSound_53 (by decide) ?_
          have qv44 := tw_nI3 ev44
          rw [qv44]
          refine tw_lv [2, 3, 4, 0] rfl ?_
          exact ih33 (k31 + 1)  (by omega) (by omega)
        | some q43 =>
          have k45 := k27 _ _ k42
          refine tw_aald (v := .ref q43) 5 rfl rfl dX5_areHousesSound_17 f25 (vp_in_nI (by omega) (by decide)) (by rw [k42]; rfl) ?_
          refine tw_astore [(4, .ref q43), (0, .ref x), (1, .ref ha_5), (2, .int (nI 6)), (3, .int (nI k31))] dX5_areHousesSound_18 (by decide) rfl ?_
          refine tw_aload 0 dX5_areHousesSound_20 rfl ?_
          refine tw_ifnull dX5_areHousesSound_22 ?_
          refine tw_aload 0 dX5_areHousesSound_25 rfl ?_
          obtain ⟨e46, f47, n_48, ar_49, p_50, pl_51, go_52, rfl, k53, k54, k55⟩ := sp0.1 q43 3 k45 (by decide)
          refine tw_getN (v := .ref p_50) rfl in_6 1 dX5_areHousesSound_27 w_639 rfl (by decide) f47 rfl ?_
          obtain ⟨e56, f57, a_58, b_59, rfl⟩ := sp0.1 p_50 1 k53 (by decide)
          refine tw_bi (tw_callVN (M := mX5_areHousesSound) (pc := 30) okX3_isBelowZero dX5_areHousesSound_30 w_201 rfl f57 [] [] rfl rfl ⟨by decide, by decide⟩ (Nat.le_of_ble_eq_true rfl) (c_X3_isBelowZero d g τ h sp0.1 p_50 k53) 0 0 (Nat.le_of_ble_eq_true rfl) (Nat.le_of_ble_eq_true rfl)) (fun r62 h61 q60 => ?_) (fun E h1 q => q.elim)
          obtain ⟨q60e, p63⟩ := q60
          rw [q60e]
          refine tw_if_ne 48 dX5_areHousesSound_33 (by decide) (fun c64 => ?_) (fun c64 => ?_)
          · refine tw_iconst (v := 0) dX5_areHousesSound_48 (by decide) ?_
            exact tw_zret dX5_areHousesSound_49 rfl rfl (Or.inl ⟨_, rfl, ⟨rfl, (by unfold tw_01; decide)⟩⟩)
          · refine tw_aload 0 dX5_areHousesSound_36 rfl ?_
            refine tw_aload_n 1 dX5_areHousesSound_38 rfl rfl ?_
            refine tw_get (v := .int td_3) rfl in_9 0 dX5_areHousesSound_39 w_140 rfl (by decide) f2 rfl ?_
            refine tw_bi (tw_callVN (M := mX5_areHousesSound) (pc := 42) okX2_isLateOn dX5_areHousesSound_42 w_214 rfl f47 [.int td_3] [] rfl rfl ⟨by decide, by decide⟩ (Nat.le_of_ble_eq_true rfl) (c_X2_isLateOn d g τ h sp0.1 q43 k45 td_3) 0 0 (Nat.le_of_ble_eq_true rfl) (Nat.le_of_ble_eq_true rfl)) (fun r67 h66 q65 => ?_) (fun E h1 q => q.elim)
            obtain ⟨q65e, p68⟩ := q65
            rw [q65e]
            refine tw_if_eq 50 dX5_areHousesSound_45 (by decide) (fun c69 => ?_) (fun c69 => ?_)
            · obtain ⟨v70, ev70⟩ : ∃ y : Int32, y = (nI k31) + 1 := ⟨_, rfl⟩
              refine tw_iinc [(3, .int v70), (4, .ref q43), (0, .ref x), (1, .ref ha_5), (2, .int (nI 6))] 4 dX5_areHousesSound_50 rfl (by rw [ev70]; rfl) (by decide) rfl ?_
              refine tw_goto 10 dX5_areHousesSound_53 (by decide) ?_
              have qv70 := tw_nI3 ev70
              rw [qv70]
              refine tw_lv [2, 3, 4, 0] rfl ?_
              exact ih33 (k31 + 1)  (by omega) (by omega)
            · refine tw_iconst (v := 0) dX5_areHousesSound_48 (by decide) ?_
              exact tw_zret dX5_areHousesSound_49 rfl rfl (Or.inl ⟨_, rfl, ⟨rfl, (by unfold tw_01; decide)⟩⟩)
  refine tw_lv [3, 2, 1, 0] rfl ?_
  exact L34 (6 + 1) 0  (by omega) (by omega)

set_option maxHeartbeats 4000000 in
set_option maxRecDepth 100000 in
theorem c_X5_hasSameRoads (d : tw_D) (g : tw_G) (τ : tw_K) (h : tw_H) (hw : tw_wt d g τ h) (a : Nat) (ka : τ a = 2) (b : Nat) (kb : τ b = 2) : tw_Ct d mX5_hasSameRoads 0 0 [.ref a, .ref b] h (tw_qi (fun r h1 => h1 = h ∧ tw_01 r) tw_nx) := by
  refine tw_of (by decide +kernel) (Nat.le_of_ble_eq_true rfl) ?_
  show tw_W d mX5_hasSameRoads _ 0 [(0, .ref a), (1, .ref b)] [] h 0 0
  have sp0 := tw_sp.rf hw
  refine tw_aload_n 0 dX5_hasSameRoads_0 rfl rfl ?_
  refine tw_aload_n 1 dX5_hasSameRoads_1 rfl rfl ?_
  obtain ⟨e1, f2, n_3, r_4, c_5, go_6, so_7, v_8, rd_9, rf_10, t_11, rfl, k12, k13, k14, k15, k16, k17, k18, k19, k20⟩ := sp0.1 b 2 kb (by decide)
  refine tw_getN (v := .int n_3) rfl in_4 0 dX5_hasSameRoads_2 w_502 rfl (by decide) f2 rfl ?_
  obtain ⟨e21, f22, n_23, r_24, c_25, go_26, so_27, v_28, rd_29, rf_30, t_31, rfl, k32, k33, k34, k35, k36, k37, k38, k39, k40⟩ := sp0.1 a 2 ka (by decide)
  refine tw_bi (tw_callVN (M := mX5_hasSameRoads) (pc := 5) okX0_daysTo dX5_hasSameRoads_5 w_226 rfl f22 [.int n_3] [] rfl rfl ⟨by decide, by decide⟩ (Nat.le_of_ble_eq_true rfl) (c_X0_daysTo d g τ h sp0.1 a ka n_3) 0 0 (Nat.le_of_ble_eq_true rfl) (Nat.le_of_ble_eq_true rfl)) (fun r43 h42 q41 => ?_) (fun E h1 q => q.elim)
  rw [q41]
  refine tw_aload_n 1 dX5_hasSameRoads_8 rfl rfl ?_
  refine tw_aload_n 0 dX5_hasSameRoads_9 rfl rfl ?_
  refine tw_getN (v := .int n_23) rfl in_4 0 dX5_hasSameRoads_10 w_502 rfl (by decide) f22 rfl ?_
  refine tw_bi (tw_callVN (M := mX5_hasSameRoads) (pc := 13) okX0_daysTo dX5_hasSameRoads_13 w_226 rfl f2 [.int n_23] [.int r43] rfl rfl ⟨by decide, by decide⟩ (Nat.le_of_ble_eq_true rfl) (c_X0_daysTo d g τ h sp0.1 b kb n_23) 0 0 (Nat.le_of_ble_eq_true rfl) (Nat.le_of_ble_eq_true rfl)) (fun r46 h45 q44 => ?_) (fun E h1 q => q.elim)
  rw [q44]
  refine tw_icmp_ne 42 dX5_hasSameRoads_16 (by decide) (fun c47 => ?_) (fun c47 => ?_)
  · refine tw_iconst (v := 0) dX5_hasSameRoads_42 (by decide) ?_
    exact tw_zret dX5_hasSameRoads_43 rfl rfl (Or.inl ⟨_, rfl, ⟨rfl, (by unfold tw_01; decide)⟩⟩)
  · refine tw_aload_n 0 dX5_hasSameRoads_19 rfl rfl ?_
    refine tw_aload_n 1 dX5_hasSameRoads_20 rfl rfl ?_
    refine tw_getN (v := .int n_3) rfl in_4 0 dX5_hasSameRoads_21 w_502 rfl (by decide) f2 rfl ?_
    refine tw_bi (tw_callVN (M := mX5_hasSameRoads) (pc := 24) okX0_freightTo dX5_hasSameRoads_24 w_231 rfl f22 [.int n_3] [] rfl rfl ⟨by decide, by decide⟩ (Nat.le_of_ble_eq_true rfl) (c_X0_freightTo d g τ h sp0.1 a ka n_3) 0 0 (Nat.le_of_ble_eq_true rfl) (Nat.le_of_ble_eq_true rfl)) (fun r50 h49 q48 => ?_) (fun E h1 q => q.elim)
    rw [q48]
    refine tw_aload_n 1 dX5_hasSameRoads_27 rfl rfl ?_
    refine tw_aload_n 0 dX5_hasSameRoads_28 rfl rfl ?_
    refine tw_getN (v := .int n_23) rfl in_4 0 dX5_hasSameRoads_29 w_502 rfl (by decide) f22 rfl ?_
    refine tw_bi (tw_callVN (M := mX5_hasSameRoads) (pc := 32) okX0_freightTo dX5_hasSameRoads_32 w_231 rfl f2 [.int n_23] [.int r50] rfl rfl ⟨by decide, by decide⟩ (Nat.le_of_ble_eq_true rfl) (c_X0_freightTo d g τ h sp0.1 b kb n_23) 0 0 (Nat.le_of_ble_eq_true rfl) (Nat.le_of_ble_eq_true rfl)) (fun r53 h52 q51 => ?_) (fun E h1 q => q.elim)
    rw [q51]
    refine tw_icmp_ne 42 dX5_hasSameRoads_35 (by decide) (fun c54 => ?_) (fun c54 => ?_)
    · refine tw_iconst (v := 0) dX5_hasSameRoads_42 (by decide) ?_
      exact tw_zret dX5_hasSameRoads_43 rfl rfl (Or.inl ⟨_, rfl, ⟨rfl, (by unfold tw_01; decide)⟩⟩)
    · refine tw_iconst (v := 1) dX5_hasSameRoads_38 (by decide) ?_
      refine tw_goto 43 dX5_hasSameRoads_39 (by decide) ?_
      exact tw_zret dX5_hasSameRoads_43 rfl rfl (Or.inl ⟨_, rfl, ⟨rfl, (by unfold tw_01; decide)⟩⟩)

set_option maxHeartbeats 4000000 in
set_option maxRecDepth 100000 in
theorem c_X5_areRoadsTheSame (d : tw_D) (g : tw_G) (τ : tw_K) (h : tw_H) (hw : tw_wt d g τ h) (x : Nat) (kx : τ x = 11) : tw_Ct d mX5_areRoadsTheSame 0 0 [.ref x] h (tw_qi (fun r h1 => h1 = h ∧ tw_01 r) tw_nx) := by
  refine tw_of (by decide +kernel) (Nat.le_of_ble_eq_true rfl) ?_
  show tw_W d mX5_areRoadsTheSame _ 0 [(0, .ref x)] [] h 0 0
  have sp0 := tw_sp.rf hw
  refine tw_aload_n 0 dX5_areRoadsTheSame_0 rfl rfl ?_
  obtain ⟨e1, f2, td_3, ca_4, ha_5, da_6, c1_7, c2_8, c3_9, c4_10, rfl, k11, k12, k13, k14, k15, k16, k17, k18, k19, k20, k21, k22, k23⟩ := sp0.1 x 11 kx (by decide)
  refine tw_get (v := .ref ca_4) rfl in_9 2 dX5_areRoadsTheSame_1 w_142 rfl (by decide) f2 rfl ?_
  refine tw_astore_n [(1, .ref ca_4), (0, .ref x)] dX5_areRoadsTheSame_4 rfl (by decide) rfl ?_
  refine tw_aload_n 0 dX5_areRoadsTheSame_5 rfl rfl ?_
  obtain ⟨e24, f25, F26, rfl, k27, pn28, pb29, px30, pf31⟩ := sp0.1 ca_4 8 k11 (by decide)
  refine tw_alen (v := nI 4) 4 rfl dX5_areRoadsTheSame_6 f25 rfl ?_
  refine tw_istore_n [(2, .int (nI 4)), (1, .ref ca_4), (0, .ref x)] dX5_areRoadsTheSame_7 rfl (by decide) rfl ?_
  refine tw_iconst (v := 0) dX5_areRoadsTheSame_8 (by decide) ?_
  refine tw_istore_n [(3, .int 0), (2, .int (nI 4)), (1, .ref ca_4), (0, .ref x)] dX5_areRoadsTheSame_9 rfl (by decide) rfl ?_
  have L35 : ∀ (r33 k32 : Nat), 4 + 1 ≤ k32 + r33 → k32 ≤ 4 → tw_W d mX5_areRoadsTheSame (tw_qi (fun r h1 => h1 = h ∧ tw_01 r) tw_nx) 10 [(0, .ref x), (1, .ref ca_4), (2, .int (nI 4)), (3, .int (nI k32))] [] h 0 0 := by
    intro r33
    induction r33 with
    | zero => intro k32  hk39 hk40; exact absurd hk39 (by omega)
    | succ r33 ih34 =>
      intro k32  hk39 hk40
      refine tw_iload_n 3 dX5_areRoadsTheSame_10 rfl rfl ?_
      refine tw_iload_n 2 dX5_areRoadsTheSame_11 rfl rfl ?_
      refine tw_icmp_ge 82 dX5_areRoadsTheSame_12 (by decide) (fun c41 => ?_) (fun c41 => ?_)
      · refine tw_iconst (v := 1) dX5_areRoadsTheSame_82 (by decide) ?_
        exact tw_zret dX5_areRoadsTheSame_83 rfl rfl (Or.inl ⟨_, rfl, ⟨rfl, (by unfold tw_01; decide)⟩⟩)
      · have kl42 := tw_klt (N := 4) c41 hk40 (by decide)
        refine tw_aload_n 1 dX5_areRoadsTheSame_15 rfl rfl ?_
        refine tw_iload_n 3 dX5_areRoadsTheSame_16 rfl rfl ?_
        cases k43 : F26 ((nI k32)).toNatClampNeg with
        | none =>
          refine tw_aald (v := .null) 4 rfl rfl dX5_areRoadsTheSame_17 f25 (vp_in_nI (by omega) (by decide)) (by rw [k43]; rfl) ?_
          refine tw_astoreN [(4, .null), (0, .ref x), (1, .ref ca_4), (2, .int (nI 4)), (3, .int (nI k32))] dX5_areRoadsTheSame_18 (by decide) rfl ?_
          refine tw_aload_n 1 dX5_areRoadsTheSame_20 rfl rfl ?_
          refine tw_get (v := .ref ca_4) rfl in_9 2 dX5_areRoadsTheSame_21 w_142 rfl (by decide) f2 rfl ?_
          refine tw_astore [(5, .ref ca_4), (4, .null), (0, .ref x), (1, .ref ca_4), (2, .int (nI 4)), (3, .int (nI k32))] dX5_areRoadsTheSame_24 (by decide) rfl ?_
          refine tw_aload 0 dX5_areRoadsTheSame_26 rfl ?_
          refine tw_alen (v := nI 4) 4 rfl dX5_areRoadsTheSame_28 f25 rfl ?_
          refine tw_istore [(6, .int (nI 4)), (5, .ref ca_4), (4, .null), (0, .ref x), (1, .ref ca_4), (2, .int (nI 4)), (3, .int (nI k32))] dX5_areRoadsTheSame_29 (by decide) rfl ?_
          refine tw_iconst (v := 0) dX5_areRoadsTheSame_31 (by decide) ?_
          refine tw_istore [(7, .int 0), (6, .int (nI 4)), (5, .ref ca_4), (4, .null), (0, .ref x), (1, .ref ca_4), (2, .int (nI 4)), (3, .int (nI k32))] dX5_areRoadsTheSame_32 (by decide) rfl ?_
          have L48 : ∀ (r46 k45 : Nat), 4 + 1 ≤ k45 + r46 → k45 ≤ 4 → tw_W d mX5_areRoadsTheSame (tw_qi (fun r h1 => h1 = h ∧ tw_01 r) tw_nx) 34 [(0, .ref x), (1, .ref ca_4), (2, .int (nI 4)), (3, .int (nI k32)), (4, .null), (5, .ref ca_4), (6, .int (nI 4)), (7, .int (nI k45))] [] h 0 0 := by
            intro r46
            induction r46 with
            | zero => intro k45  hk52 hk53; exact absurd hk52 (by omega)
            | succ r46 ih47 =>
              intro k45  hk52 hk53
              refine tw_iload 7 dX5_areRoadsTheSame_34 rfl ?_
              refine tw_iload 6 dX5_areRoadsTheSame_36 rfl ?_
              refine tw_icmp_ge 76 dX5_areRoadsTheSame_38 (by decide) (fun c54 => ?_) (fun c54 => ?_)
              · obtain ⟨v55, ev55⟩ : ∃ y : Int32, y = (nI k32) + 1 := ⟨_, rfl⟩
                refine tw_iinc [(3, .int v55), (0, .ref x), (1, .ref ca_4), (2, .int (nI 4)), (4, .null), (5, .ref ca_4), (6, .int (nI 4)), (7, .int (nI k45))] 3 dX5_areRoadsTheSame_76 rfl (by rw [ev55]; rfl) (by decide) rfl ?_
                refine tw_goto 10 dX5_areRoadsTheSame_79 (by decide) ?_
                have qv55 := tw_nI3 ev55
                rw [qv55]
                refine tw_lv [1, 2, 3, 0] rfl ?_
                exact ih34 (k32 + 1)  (by omega) (by omega)
              · have kl56 := tw_klt (N := 4) c54 hk53 (by decide)
                refine tw_aload 5 dX5_areRoadsTheSame_41 rfl ?_
                refine tw_iload 7 dX5_areRoadsTheSame_43 rfl ?_
                cases k57 : F26 ((nI k45)).toNatClampNeg with
                | none =>
                  refine tw_aald (v := .null) 4 rfl rfl dX5_areRoadsTheSame_45 f25 (vp_in_nI (by omega) (by decide)) (by rw [k57]; rfl) ?_
                  refine tw_astoreN [(8, .null), (0, .ref x), (1, .ref ca_4), (2, .int (nI 4)), (3, .int (nI k32)), (4, .null), (5, .ref ca_4), (6, .int (nI 4)), (7, .int (nI k45))] dX5_areRoadsTheSame_46 (by decide) rfl ?_
                  refine tw_aloadN 5 dX5_areRoadsTheSame_48 rfl ?_
                  refine tw_ifnullN 70 dX5_areRoadsTheSame_50 (by decide) ?_
                  obtain ⟨v59, ev59⟩ : ∃ y : Int32, y = (nI k45) + 1 := ⟨_, rfl⟩
                  refine tw_iinc [(7, .int v59), (8, .null), (0, .ref x), (1, .ref ca_4), (2, .int (nI 4)), (3, .int (nI k32)), (4, .null), (5, .ref ca_4), (6, .int (nI 4))] 8 dX5_areRoadsTheSame_70 rfl (by rw [ev59]; rfl) (by decide) rfl ?_
                  refine tw_goto 34 dX5_areRoadsTheSame_73 (by decide) ?_
                  have qv59 := tw_nI3 ev59
                  rw [qv59]
                  refine tw_lv [2, 3, 4, 5, 6, 7, 8, 0] rfl ?_
                  exact ih47 (k45 + 1)  (by omega) (by omega)
                | some q58 =>
                  have k60 := k27 _ _ k57
                  refine tw_aald (v := .ref q58) 4 rfl rfl dX5_areRoadsTheSame_45 f25 (vp_in_nI (by omega) (by decide)) (by rw [k57]; rfl) ?_
                  refine tw_astore [(8, .ref q58), (0, .ref x), (1, .ref ca_4), (2, .int (nI 4)), (3, .int (nI k32)), (4, .null), (5, .ref ca_4), (6, .int (nI 4)), (7, .int (nI k45))] dX5_areRoadsTheSame_46 (by decide) rfl ?_
                  refine tw_aloadN 5 dX5_areRoadsTheSame_48 rfl ?_
                  refine tw_ifnullN 70 dX5_areRoadsTheSame_50 (by decide) ?_
                  obtain ⟨v61, ev61⟩ : ∃ y : Int32, y = (nI k45) + 1 := ⟨_, rfl⟩
                  refine tw_iinc [(7, .int v61), (8, .ref q58), (0, .ref x), (1, .ref ca_4), (2, .int (nI 4)), (3, .int (nI k32)), (4, .null), (5, .ref ca_4), (6, .int (nI 4))] 8 dX5_areRoadsTheSame_70 rfl (by rw [ev61]; rfl) (by decide) rfl ?_
                  refine tw_goto 34 dX5_areRoadsTheSame_73 (by decide) ?_
                  have qv61 := tw_nI3 ev61
                  rw [qv61]
                  refine tw_lv [2, 3, 4, 5, 6, 7, 8, 0] rfl ?_
                  exact ih47 (k45 + 1)  (by omega) (by omega)
          refine tw_lv [4, 5, 6, 7, 3, 2, 1, 0] rfl ?_
          exact L48 (4 + 1) 0  (by omega) (by omega)
        | some q44 =>
          have k62 := k27 _ _ k43
          refine tw_aald (v := .ref q44) 4 rfl rfl dX5_areRoadsTheSame_17 f25 (vp_in_nI (by omega) (by decide)) (by rw [k43]; rfl) ?_
          refine tw_astore [(4, .ref q44), (0, .ref x), (1, .ref ca_4), (2, .int (nI 4)), (3, .int (nI k32))] dX5_areRoadsTheSame_18 (by decide) rfl ?_
          refine tw_aload_n 1 dX5_areRoadsTheSame_20 rfl rfl ?_
          refine tw_get (v := .ref ca_4) rfl in_9 2 dX5_areRoadsTheSame_21 w_142 rfl (by decide) f2 rfl ?_
          refine tw_astore [(5, .ref ca_4), (4, .ref q44), (0, .ref x), (1, .ref ca_4), (2, .int (nI 4)), (3, .int (nI k32))] dX5_areRoadsTheSame_24 (by decide) rfl ?_
          refine tw_aload 0 dX5_areRoadsTheSame_26 rfl ?_
          refine tw_alen (v := nI 4) 4 rfl dX5_areRoadsTheSame_28 f25 rfl ?_
          refine tw_istore [(6, .int (nI 4)), (5, .ref ca_4), (4, .ref q44), (0, .ref x), (1, .ref ca_4), (2, .int (nI 4)), (3, .int (nI k32))] dX5_areRoadsTheSame_29 (by decide) rfl ?_
          refine tw_iconst (v := 0) dX5_areRoadsTheSame_31 (by decide) ?_
          refine tw_istore [(7, .int 0), (6, .int (nI 4)), (5, .ref ca_4), (4, .ref q44), (0, .ref x), (1, .ref ca_4), (2, .int (nI 4)), (3, .int (nI k32))] dX5_areRoadsTheSame_32 (by decide) rfl ?_
          have L66 : ∀ (r64 k63 : Nat), 4 + 1 ≤ k63 + r64 → k63 ≤ 4 → tw_W d mX5_areRoadsTheSame (tw_qi (fun r h1 => h1 = h ∧ tw_01 r) tw_nx) 34 [(0, .ref x), (1, .ref ca_4), (2, .int (nI 4)), (3, .int (nI k32)), (4, .ref q44), (5, .ref ca_4), (6, .int (nI 4)), (7, .int (nI k63))] [] h 0 0 := by
            intro r64
            induction r64 with
            | zero => intro k63  hk70 hk71; exact absurd hk70 (by omega)
            | succ r64 ih65 =>
              intro k63  hk70 hk71
              refine tw_iload 7 dX5_areRoadsTheSame_34 rfl ?_
              refine tw_iload 6 dX5_areRoadsTheSame_36 rfl ?_
              refine tw_icmp_ge 76 dX5_areRoadsTheSame_38 (by decide) (fun c72 => ?_) (fun c72 => ?_)
              · obtain ⟨v73, ev73⟩ : ∃ y : Int32, y = (nI k32) + 1 := ⟨_, rfl⟩
                refine tw_iinc [(3, .int v73), (0, .ref x), (1, .ref ca_4), (2, .int (nI 4)), (4, .ref q44), (5, .ref ca_4), (6, .int (nI 4)), (7, .int (nI k63))] 3 dX5_areRoadsTheSame_76 rfl (by rw [ev73]; rfl) (by decide) rfl ?_
                refine tw_goto 10 dX5_areRoadsTheSame_79 (by decide) ?_
                have qv73 := tw_nI3 ev73
                rw [qv73]
                refine tw_lv [1, 2, 3, 0] rfl ?_
                exact ih34 (k32 + 1)  (by omega) (by omega)
              · have kl74 := tw_klt (N := 4) c72 hk71 (by decide)
                refine tw_aload 5 dX5_areRoadsTheSame_41 rfl ?_
                refine tw_iload 7 dX5_areRoadsTheSame_43 rfl ?_
                cases k75 : F26 ((nI k63)).toNatClampNeg with
                | none =>
                  refine tw_aald (v := .null) 4 rfl rfl dX5_areRoadsTheSame_45 f25 (vp_in_nI (by omega) (by decide)) (by rw [k75]; rfl) ?_
                  refine tw_astoreN [(8, .null), (0, .ref x), (1, .ref ca_4), (2, .int (nI 4)), (3, .int (nI k32)), (4, .ref q44), (5, .ref ca_4), (6, .int (nI 4)), (7, .int (nI k63))] dX5_areRoadsTheSame_46 (by decide) rfl ?_
                  refine tw_aload 5 dX5_areRoadsTheSame_48 rfl ?_
                  refine tw_ifnull dX5_areRoadsTheSame_50 ?_
                  refine tw_aloadN 0 dX5_areRoadsTheSame_53 rfl ?_
                  refine tw_ifnullN 70 dX5_areRoadsTheSame_55 (by decide) ?_
                  obtain ⟨v77, ev77⟩ : ∃ y : Int32, y = (nI k63) + 1 := ⟨_, rfl⟩
                  refine tw_iinc [(7, .int v77), (8, .null), (0, .ref x), (1, .ref ca_4), (2, .int (nI 4)), (3, .int (nI k32)), (4, .ref q44), (5, .ref ca_4), (6, .int (nI 4))] 8 dX5_areRoadsTheSame_70 rfl (by rw [ev77]; rfl) (by decide) rfl ?_
                  refine tw_goto 34 dX5_areRoadsTheSame_73 (by decide) ?_
                  have qv77 := tw_nI3 ev77
                  rw [qv77]
                  refine tw_lv [2, 3, 4, 5, 6, 7, 8, 0] rfl ?_
                  exact ih65 (k63 + 1)  (by omega) (by omega)
                | some q76 =>
                  have k78 := k27 _ _ k75
                  refine tw_aald (v := .ref q76) 4 rfl rfl dX5_areRoadsTheSame_45 f25 (vp_in_nI (by omega) (by decide)) (by rw [k75]; rfl) ?_
                  refine tw_astore [(8, .ref q76), (0, .ref x), (1, .ref ca_4), (2, .int (nI 4)), (3, .int (nI k32)), (4, .ref q44), (5, .ref ca_4), (6, .int (nI 4)), (7, .int (nI k63))] dX5_areRoadsTheSame_46 (by decide) rfl ?_
                  refine tw_aload 5 dX5_areRoadsTheSame_48 rfl ?_
                  refine tw_ifnull dX5_areRoadsTheSame_50 ?_
                  refine tw_aload 0 dX5_areRoadsTheSame_53 rfl ?_
                  refine tw_ifnull dX5_areRoadsTheSame_55 ?_
                  refine tw_aload 5 dX5_areRoadsTheSame_58 rfl ?_
                  refine tw_aload 0 dX5_areRoadsTheSame_60 rfl ?_
                  refine tw_bi (tw_callS (M := mX5_areRoadsTheSame) (pc := 62) okX5_hasSameRoads dX5_areRoadsTheSame_62 w_223 [.ref q44, .ref q76] [] rfl rfl ⟨by decide, by decide⟩ (Nat.le_of_ble_eq_true rfl) (c_X5_hasSameRoads d g τ h sp0.1 q44 k62 q76 k78) 0 0 (Nat.le_of_ble_eq_true rfl) (Nat.le_of_ble_eq_true rfl)) (fun r81 h80 q79 => ?_) (fun E h1 q => q.elim)
                  obtain ⟨q79e, p82⟩ := q79
                  rw [q79e]
                  refine tw_if_ne 70 dX5_areRoadsTheSame_65 (by decide) (fun c83 => ?_) (fun c83 => ?_)
                  · obtain ⟨v84, ev84⟩ : ∃ y : Int32, y = (nI k63) + 1 := ⟨_, rfl⟩
                    refine tw_iinc [(7, .int v84), (8, .ref q76), (0, .ref x), (1, .ref ca_4), (2, .int (nI 4)), (3, .int (nI k32)), (4, .ref q44), (5, .ref ca_4), (6, .int (nI 4))] 8 dX5_areRoadsTheSame_70 rfl (by rw [ev84]; rfl) (by decide) rfl ?_
                    refine tw_goto 34 dX5_areRoadsTheSame_73 (by decide) ?_
                    have qv84 := tw_nI3 ev84
                    rw [qv84]
                    refine tw_lv [2, 3, 4, 5, 6, 7, 8, 0] rfl ?_
                    exact ih65 (k63 + 1)  (by omega) (by omega)
                  · refine tw_iconst (v := 0) dX5_areRoadsTheSame_68 (by decide) ?_
                    exact tw_zret dX5_areRoadsTheSame_69 rfl rfl (Or.inl ⟨_, rfl, ⟨rfl, (by unfold tw_01; decide)⟩⟩)
          refine tw_lv [4, 5, 6, 7, 3, 2, 1, 0] rfl ?_
          exact L66 (4 + 1) 0  (by omega) (by omega)
  refine tw_lv [3, 2, 1, 0] rfl ?_
  exact L35 (4 + 1) 0  (by omega) (by omega)

set_option maxHeartbeats 4000000 in
set_option maxRecDepth 100000 in
theorem c_X5_isSound (d : tw_D) (g : tw_G) (τ : tw_K) (h : tw_H) (hw : tw_wt d g τ h) (x : Nat) (kx : τ x = 11) : tw_Ct d mX5_isSound 0 0 [.ref x] h (tw_qi (fun r h1 => h1 = h ∧ tw_01 r) tw_nx) := by
  refine tw_of (by decide +kernel) (Nat.le_of_ble_eq_true rfl) ?_
  show tw_W d mX5_isSound _ 0 [(0, .ref x)] [] h 0 0
  have sp0 := tw_sp.rf hw
  refine tw_aload_n 0 dX5_isSound_0 rfl rfl ?_
  refine tw_iconst (v := 0) dX5_isSound_1 (by decide) ?_
  obtain ⟨e1, f2, td_3, ca_4, ha_5, da_6, c1_7, c2_8, c3_9, c4_10, rfl, k11, k12, k13, k14, k15, k16, k17, k18, k19, k20, k21, k22, k23⟩ := sp0.1 x 11 kx (by decide)
  refine tw_bi (tw_callV (M := mX5_isSound) (pc := 2) okX5_isKept dX5_isSound_2 w_181 rfl f2 [.int 0] [] rfl rfl ⟨by decide, by decide⟩ (Nat.le_of_ble_eq_true rfl) (c_X5_isKept d g τ h sp0.1 x kx 0) 0 0 (Nat.le_of_ble_eq_true rfl) (Nat.le_of_ble_eq_true rfl)) (fun r26 h25 q24 => ?_) (fun E h1 q => q.elim)
  obtain ⟨q24e, p27⟩ := q24
  rw [q24e]
  refine tw_if_eq 41 dX5_isSound_5 (by decide) (fun c28 => ?_) (fun c28 => ?_)
  · refine tw_iconst (v := 0) dX5_isSound_41 (by decide) ?_
    exact tw_zret dX5_isSound_42 rfl rfl (Or.inl ⟨_, rfl, ⟨rfl, (by unfold tw_01; decide)⟩⟩)
  · refine tw_aload_n 0 dX5_isSound_8 rfl rfl ?_
    refine tw_iconst (v := 1) dX5_isSound_9 (by decide) ?_
    refine tw_bi (tw_callV (M := mX5_isSound) (pc := 10) okX5_isKept dX5_isSound_10 w_181 rfl f2 [.int 1] [] rfl rfl ⟨by decide, by decide⟩ (Nat.le_of_ble_eq_true rfl) (c_X5_isKept d g τ h sp0.1 x kx 1) 0 0 (Nat.le_of_ble_eq_true rfl) (Nat.le_of_ble_eq_true rfl)) (fun r31 h30 q29 => ?_) (fun E h1 q => q.elim)
    obtain ⟨q29e, p32⟩ := q29
    rw [q29e]
    refine tw_if_eq 41 dX5_isSound_13 (by decide) (fun c33 => ?_) (fun c33 => ?_)
    · refine tw_iconst (v := 0) dX5_isSound_41 (by decide) ?_
      exact tw_zret dX5_isSound_42 rfl rfl (Or.inl ⟨_, rfl, ⟨rfl, (by unfold tw_01; decide)⟩⟩)
    · refine tw_aload_n 0 dX5_isSound_16 rfl rfl ?_
      refine tw_bi (tw_callV (M := mX5_isSound) (pc := 17) okX5_areCountriesSound dX5_isSound_17 w_197 rfl f2 [] [] rfl rfl ⟨by decide, by decide⟩ (Nat.le_of_ble_eq_true rfl) (c_X5_areCountriesSound d g τ h sp0.1 x kx) 0 0 (Nat.le_of_ble_eq_true rfl) (Nat.le_of_ble_eq_true rfl)) (fun r36 h35 q34 => ?_) (fun E h1 q => q.elim)
      obtain ⟨q34e, p37⟩ := q34
      rw [q34e]
      refine tw_if_eq 41 dX5_isSound_20 (by decide) (fun c38 => ?_) (fun c38 => ?_)
      · refine tw_iconst (v := 0) dX5_isSound_41 (by decide) ?_
        exact tw_zret dX5_isSound_42 rfl rfl (Or.inl ⟨_, rfl, ⟨rfl, (by unfold tw_01; decide)⟩⟩)
      · refine tw_aload_n 0 dX5_isSound_23 rfl rfl ?_
        refine tw_bi (tw_callV (M := mX5_isSound) (pc := 24) okX5_areHousesSound dX5_isSound_24 w_210 rfl f2 [] [] rfl rfl ⟨by decide, by decide⟩ (Nat.le_of_ble_eq_true rfl) (c_X5_areHousesSound d g τ h sp0.1 x kx) 0 0 (Nat.le_of_ble_eq_true rfl) (Nat.le_of_ble_eq_true rfl)) (fun r41 h40 q39 => ?_) (fun E h1 q => q.elim)
        obtain ⟨q39e, p42⟩ := q39
        rw [q39e]
        refine tw_if_eq 41 dX5_isSound_27 (by decide) (fun c43 => ?_) (fun c43 => ?_)
        · refine tw_iconst (v := 0) dX5_isSound_41 (by decide) ?_
          exact tw_zret dX5_isSound_42 rfl rfl (Or.inl ⟨_, rfl, ⟨rfl, (by unfold tw_01; decide)⟩⟩)
        · refine tw_aload_n 0 dX5_isSound_30 rfl rfl ?_
          refine tw_bi (tw_callV (M := mX5_isSound) (pc := 31) okX5_areRoadsTheSame dX5_isSound_31 w_219 rfl f2 [] [] rfl rfl ⟨by decide, by decide⟩ (Nat.le_of_ble_eq_true rfl) (c_X5_areRoadsTheSame d g τ h sp0.1 x kx) 0 0 (Nat.le_of_ble_eq_true rfl) (Nat.le_of_ble_eq_true rfl)) (fun r46 h45 q44 => ?_) (fun E h1 q => q.elim)
          obtain ⟨q44e, p47⟩ := q44
          rw [q44e]
          refine tw_if_eq 41 dX5_isSound_34 (by decide) (fun c48 => ?_) (fun c48 => ?_)
          · refine tw_iconst (v := 0) dX5_isSound_41 (by decide) ?_
            exact tw_zret dX5_isSound_42 rfl rfl (Or.inl ⟨_, rfl, ⟨rfl, (by unfold tw_01; decide)⟩⟩)
          · refine tw_iconst (v := 1) dX5_isSound_37 (by decide) ?_
            refine tw_goto 42 dX5_isSound_38 (by decide) ?_
            exact tw_zret dX5_isSound_42 rfl rfl (Or.inl ⟨_, rfl, ⟨rfl, (by unfold tw_01; decide)⟩⟩)

set_option maxHeartbeats 4000000 in
set_option maxRecDepth 100000 in
theorem c_X5_digestWorld (d : tw_D) (g : tw_G) (τ : tw_K) (h : tw_H) (hw : tw_wt d g τ h) (x : Nat) (kx : τ x = 11) (v : Int64) (m : Int32) : tw_Ct d mX5_digestWorld 0 0 [.ref x, .long v, .int m] h (tw_ql (fun r h1 => h1 = h) tw_nx) := by
  refine tw_of (by decide +kernel) (Nat.le_of_ble_eq_true rfl) ?_
  show tw_W d mX5_digestWorld _ 0 [(0, .ref x), (1, .long v), (3, .int m)] [] h 0 0
  have sp0 := tw_sp.rf hw
  refine tw_lload_n 1 dX5_digestWorld_0 rfl rfl ?_
  refine tw_lstore [(4, .long v), (0, .ref x), (1, .long v), (3, .int m)] dX5_digestWorld_1 (by decide) rfl ?_
  refine tw_iconst (v := 0) dX5_digestWorld_3 (by decide) ?_
  refine tw_istore [(6, .int 0), (4, .long v), (0, .ref x), (1, .long v), (3, .int m)] dX5_digestWorld_4 (by decide) rfl ?_
  have L5 : ∀ (r3 k2 : Nat) (x1 : Int64), 6 + 1 ≤ k2 + r3 → k2 ≤ 6 → tw_W d mX5_digestWorld (tw_ql (fun r h1 => h1 = h) tw_nx) 6 [(0, .ref x), (1, .long v), (3, .int m), (4, .long x1), (6, .int (nI k2))] [] h 0 0 := by
    intro r3
    induction r3 with
    | zero => intro k2 x1 hk9 hk10; exact absurd hk9 (by omega)
    | succ r3 ih4 =>
      intro k2 x1 hk9 hk10
      refine tw_iload 4 dX5_digestWorld_6 rfl ?_
      refine tw_bipush (v := 6) dX5_digestWorld_8 (by decide) ?_
      refine tw_icmp_ge 36 dX5_digestWorld_10 (by decide) (fun c11 => ?_) (fun c11 => ?_)
      · refine tw_lload 3 dX5_digestWorld_36 rfl ?_
        exact tw_lret dX5_digestWorld_38 rfl (Or.inl ⟨_, rfl, rfl⟩)
      · have kl12 := tw_klt (N := 6) c11 hk10 (by decide)
        refine tw_lload 3 dX5_digestWorld_13 rfl ?_
        refine tw_ldc2 (v := 31) dX5_digestWorld_15 w_240 ?_
        refine tw_lmul dX5_digestWorld_18 ?_
        refine tw_nml (fun v13 ev13 => ?_)
        refine tw_aload_n 0 dX5_digestWorld_19 rfl rfl ?_
        refine tw_iload_n 2 dX5_digestWorld_20 rfl rfl ?_
        refine tw_iload 4 dX5_digestWorld_21 rfl ?_
        obtain ⟨e14, f15, td_16, ca_17, ha_18, da_19, c1_20, c2_21, c3_22, c4_23, rfl, k24, k25, k26, k27, k28, k29, k30, k31, k32, k33, k34, k35, k36⟩ := sp0.1 x 11 kx (by decide)
        refine tw_bi (tw_callV (M := mX5_digestWorld) (pc := 23) okX5_worldFact dX5_digestWorld_23 w_245 rfl f15 [.int m, .int (nI k2)] [.long v13] rfl rfl ⟨by decide, by decide⟩ (Nat.le_of_ble_eq_true rfl) (c_X5_worldFact d g τ h sp0.1 x kx m (nI k2)) 0 0 (Nat.le_of_ble_eq_true rfl) (Nat.le_of_ble_eq_true rfl)) (fun r39 h38 q37 => ?_) (fun E h1 q => q.elim)
        rw [q37]
        refine tw_i2l dX5_digestWorld_26 ?_
        refine tw_nml (fun v40 ev40 => ?_)
        refine tw_ladd dX5_digestWorld_27 ?_
        refine tw_nml (fun v41 ev41 => ?_)
        refine tw_lstore [(4, .long v41), (0, .ref x), (1, .long v), (3, .int m), (6, .int (nI k2))] dX5_digestWorld_28 (by decide) rfl ?_
        obtain ⟨v42, ev42⟩ : ∃ y : Int32, y = (nI k2) + 1 := ⟨_, rfl⟩
        refine tw_iinc [(6, .int v42), (4, .long v41), (0, .ref x), (1, .long v), (3, .int m)] 4 dX5_digestWorld_30 rfl (by rw [ev42]; rfl) (by decide) rfl ?_
        refine tw_goto 6 dX5_digestWorld_33 (by decide) ?_
        have qv42 := tw_nI3 ev42
        rw [qv42]
        refine tw_lv [2, 3, 4, 1, 0] rfl ?_
        exact ih4 (k2 + 1) v41 (by omega) (by omega)
  refine tw_lv [2, 3, 4, 1, 0] rfl ?_
  exact L5 (6 + 1) 0 v (by omega) (by omega)

set_option maxHeartbeats 4000000 in
set_option maxRecDepth 100000 in
theorem c_X5_digestCountry (d : tw_D) (g : tw_G) (τ : tw_K) (h : tw_H) (hw : tw_wt d g τ h) (x : Nat) (kx : τ x = 11) (v : Int64) (c : Nat) (kc : τ c = 2) : tw_Ct d mX5_digestCountry 0 0 [.ref x, .long v, .ref c] h (tw_ql (fun r h1 => h1 = h) tw_nx) := by
  refine tw_of (by decide +kernel) (Nat.le_of_ble_eq_true rfl) ?_
  show tw_W d mX5_digestCountry _ 0 [(0, .ref x), (1, .long v), (3, .ref c)] [] h 0 0
  have sp0 := tw_sp.rf hw
  refine tw_lload_n 1 dX5_digestCountry_0 rfl rfl ?_
  refine tw_lstore [(4, .long v), (0, .ref x), (1, .long v), (3, .ref c)] dX5_digestCountry_1 (by decide) rfl ?_
  refine tw_iconst (v := 0) dX5_digestCountry_3 (by decide) ?_
  refine tw_istore [(6, .int 0), (4, .long v), (0, .ref x), (1, .long v), (3, .ref c)] dX5_digestCountry_4 (by decide) rfl ?_
  have L5 : ∀ (r3 k2 : Nat) (x1 : Int64), 9 + 1 ≤ k2 + r3 → k2 ≤ 9 → tw_W d mX5_digestCountry (tw_ql (fun r h1 => h1 = h) tw_nx) 6 [(0, .ref x), (1, .long v), (3, .ref c), (4, .long x1), (6, .int (nI k2))] [] h 0 0 := by
    intro r3
    induction r3 with
    | zero => intro k2 x1 hk9 hk10; exact absurd hk9 (by omega)
    | succ r3 ih4 =>
      intro k2 x1 hk9 hk10
      refine tw_iload 4 dX5_digestCountry_6 rfl ?_
      refine tw_bipush (v := 9) dX5_digestCountry_8 (by decide) ?_
      refine tw_icmp_ge 36 dX5_digestCountry_10 (by decide) (fun c11 => ?_) (fun c11 => ?_)
      · refine tw_lload 3 dX5_digestCountry_36 rfl ?_
        refine tw_ldc2 (v := 31) dX5_digestCountry_38 w_240 ?_
        refine tw_lmul dX5_digestCountry_41 ?_
        refine tw_nml (fun v12 ev12 => ?_)
        refine tw_aload_n 2 dX5_digestCountry_42 rfl rfl ?_
        obtain ⟨e13, f14, n_15, r_16, c_17, go_18, so_19, v_20, rd_21, rf_22, t_23, rfl, k24, k25, k26, k27, k28, k29, k30, k31, k32⟩ := sp0.1 c 2 kc (by decide)
        refine tw_getN (v := .ref t_23) rfl in_4 8 dX5_digestCountry_43 w_514 rfl (by decide) f14 rfl ?_
        refine tw_bipush (v := 37) dX5_digestCountry_46 (by decide) ?_
        obtain ⟨e33, f34, m_35, rfl, k36, k37⟩ := sp0.1 t_23 5 k27 (by decide)
        refine tw_bi (tw_callVN (M := mX5_digestCountry) (pc := 48) okX4_fewestFor dX5_digestCountry_48 w_285 rfl f34 [.int 37] [.long v12] rfl rfl ⟨by decide, by decide⟩ (Nat.le_of_ble_eq_true rfl) (c_X4_fewestFor d g τ h sp0.1 t_23 k27 37) 0 0 (Nat.le_of_ble_eq_true rfl) (Nat.le_of_ble_eq_true rfl)) (fun r40 h39 q38 => ?_) (fun E h1 q => q.elim)
        rw [q38]
        refine tw_i2l dX5_digestCountry_51 ?_
        refine tw_nml (fun v41 ev41 => ?_)
        refine tw_ladd dX5_digestCountry_52 ?_
        refine tw_nml (fun v42 ev42 => ?_)
        refine tw_lstore [(4, .long v42), (0, .ref x), (1, .long v), (3, .ref c), (6, .int (nI k2))] dX5_digestCountry_53 (by decide) rfl ?_
        refine tw_lload 0 dX5_digestCountry_55 rfl ?_
        refine tw_ldc2 (v := 31) dX5_digestCountry_57 w_240 ?_
        refine tw_lmul dX5_digestCountry_60 ?_
        refine tw_nml (fun v43 ev43 => ?_)
        refine tw_aload_n 1 dX5_digestCountry_61 rfl rfl ?_
        refine tw_aload_n 3 dX5_digestCountry_62 rfl rfl ?_
        refine tw_iconst (v := 0) dX5_digestCountry_63 (by decide) ?_
        refine tw_sipush (v := 1000) dX5_digestCountry_64 (by decide) ?_
        obtain ⟨e44, f45, td_46, ca_47, ha_48, da_49, c1_50, c2_51, c3_52, c4_53, rfl, k54, k55, k56, k57, k58, k59, k60, k61, k62, k63, k64, k65, k66⟩ := sp0.1 x 11 kx (by decide)
        refine tw_bi (tw_callV (M := mX5_digestCountry) (pc := 67) okX5_bestOver dX5_digestCountry_67 w_292 rfl f45 [.ref c, .int 0, .int 1000] [.long v43] rfl rfl ⟨by decide, by decide⟩ (Nat.le_of_ble_eq_true rfl) (c_X5_bestOver d g τ h sp0.1 x kx c kc 0 1000) 0 0 (Nat.le_of_ble_eq_true rfl) (Nat.le_of_ble_eq_true rfl)) (fun r69 h68 q67 => ?_) (fun E h1 q => q.elim)
        rw [q67]
        refine tw_i2l dX5_digestCountry_70 ?_
        refine tw_nml (fun v70 ev70 => ?_)
        refine tw_ladd dX5_digestCountry_71 ?_
        refine tw_nml (fun v71 ev71 => ?_)
        refine tw_lstore [(4, .long v71), (0, .ref x), (1, .long v), (3, .ref c), (6, .int (nI k2))] dX5_digestCountry_72 (by decide) rfl ?_
        refine tw_lload 0 dX5_digestCountry_74 rfl ?_
        refine tw_ldc2 (v := 31) dX5_digestCountry_76 w_240 ?_
        refine tw_lmul dX5_digestCountry_79 ?_
        refine tw_nml (fun v72 ev72 => ?_)
        refine tw_aload_n 1 dX5_digestCountry_80 rfl rfl ?_
        refine tw_aload_n 3 dX5_digestCountry_81 rfl rfl ?_
        refine tw_iconst (v := 1) dX5_digestCountry_82 (by decide) ?_
        refine tw_sipush (v := 1000) dX5_digestCountry_83 (by decide) ?_
        refine tw_bi (tw_callV (M := mX5_digestCountry) (pc := 86) okX5_bestOver dX5_digestCountry_86 w_292 rfl f45 [.ref c, .int 1, .int 1000] [.long v72] rfl rfl ⟨by decide, by decide⟩ (Nat.le_of_ble_eq_true rfl) (c_X5_bestOver d g τ h sp0.1 x kx c kc 1 1000) 0 0 (Nat.le_of_ble_eq_true rfl) (Nat.le_of_ble_eq_true rfl)) (fun r75 h74 q73 => ?_) (fun E h1 q => q.elim)
        rw [q73]
        refine tw_i2l dX5_digestCountry_89 ?_
        refine tw_nml (fun v76 ev76 => ?_)
        refine tw_ladd dX5_digestCountry_90 ?_
        refine tw_nml (fun v77 ev77 => ?_)
        refine tw_lstore [(4, .long v77), (0, .ref x), (1, .long v), (3, .ref c), (6, .int (nI k2))] dX5_digestCountry_91 (by decide) rfl ?_
        refine tw_lload 0 dX5_digestCountry_93 rfl ?_
        refine tw_ldc2 (v := 31) dX5_digestCountry_95 w_240 ?_
        refine tw_lmul dX5_digestCountry_98 ?_
        refine tw_nml (fun v78 ev78 => ?_)
        refine tw_aload_n 1 dX5_digestCountry_99 rfl rfl ?_
        refine tw_aload_n 3 dX5_digestCountry_100 rfl rfl ?_
        refine tw_getN (v := .ref v_20) rfl in_4 3 dX5_digestCountry_101 w_508 rfl (by decide) f14 rfl ?_
        refine tw_iconst (v := 0) dX5_digestCountry_104 (by decide) ?_
        refine tw_bipush (v := 10) dX5_digestCountry_105 (by decide) ?_
        refine tw_bi (tw_callV (M := mX5_digestCountry) (pc := 107) okX5_firstDayShort dX5_digestCountry_107 w_321 rfl f45 [.ref v_20, .int 0, .int 10] [.long v78] rfl rfl ⟨by decide, by decide⟩ (Nat.le_of_ble_eq_true rfl) (c_X5_firstDayShort d g τ h sp0.1 x kx v_20 k24 0 10) 0 0 (Nat.le_of_ble_eq_true rfl) (Nat.le_of_ble_eq_true rfl)) (fun r81 h80 q79 => ?_) (fun E h1 q => q.elim)
        rw [q79]
        refine tw_i2l dX5_digestCountry_110 ?_
        refine tw_nml (fun v82 ev82 => ?_)
        refine tw_ladd dX5_digestCountry_111 ?_
        refine tw_nml (fun v83 ev83 => ?_)
        refine tw_lstore [(4, .long v83), (0, .ref x), (1, .long v), (3, .ref c), (6, .int (nI k2))] dX5_digestCountry_112 (by decide) rfl ?_
        refine tw_lload 0 dX5_digestCountry_114 rfl ?_
        refine tw_ldc2 (v := 31) dX5_digestCountry_116 w_240 ?_
        refine tw_lmul dX5_digestCountry_119 ?_
        refine tw_nml (fun v84 ev84 => ?_)
        refine tw_aload_n 1 dX5_digestCountry_120 rfl rfl ?_
        refine tw_aload_n 3 dX5_digestCountry_121 rfl rfl ?_
        refine tw_getN (v := .ref v_20) rfl in_4 3 dX5_digestCountry_122 w_508 rfl (by decide) f14 rfl ?_
        refine tw_iconst (v := 1) dX5_digestCountry_125 (by decide) ?_
        refine tw_bipush (v := 10) dX5_digestCountry_126 (by decide) ?_
        refine tw_bi (tw_callV (M := mX5_digestCountry) (pc := 128) okX5_firstDayShort dX5_digestCountry_128 w_321 rfl f45 [.ref v_20, .int 1, .int 10] [.long v84] rfl rfl ⟨by decide, by decide⟩ (Nat.le_of_ble_eq_true rfl) (c_X5_firstDayShort d g τ h sp0.1 x kx v_20 k24 1 10) 0 0 (Nat.le_of_ble_eq_true rfl) (Nat.le_of_ble_eq_true rfl)) (fun r87 h86 q85 => ?_) (fun E h1 q => q.elim)
        rw [q85]
        refine tw_i2l dX5_digestCountry_131 ?_
        refine tw_nml (fun v88 ev88 => ?_)
        refine tw_ladd dX5_digestCountry_132 ?_
        refine tw_nml (fun v89 ev89 => ?_)
        refine tw_lstore [(4, .long v89), (0, .ref x), (1, .long v), (3, .ref c), (6, .int (nI k2))] dX5_digestCountry_133 (by decide) rfl ?_
        refine tw_lload 0 dX5_digestCountry_135 rfl ?_
        exact tw_lret dX5_digestCountry_137 rfl (Or.inl ⟨_, rfl, rfl⟩)
      · have kl90 := tw_klt (N := 9) c11 hk10 (by decide)
        refine tw_lload 3 dX5_digestCountry_13 rfl ?_
        refine tw_ldc2 (v := 31) dX5_digestCountry_15 w_240 ?_
        refine tw_lmul dX5_digestCountry_18 ?_
        refine tw_nml (fun v91 ev91 => ?_)
        refine tw_aload_n 0 dX5_digestCountry_19 rfl rfl ?_
        refine tw_aload_n 2 dX5_digestCountry_20 rfl rfl ?_
        refine tw_iload 4 dX5_digestCountry_21 rfl ?_
        obtain ⟨e92, f93, td_94, ca_95, ha_96, da_97, c1_98, c2_99, c3_100, c4_101, rfl, k102, k103, k104, k105, k106, k107, k108, k109, k110, k111, k112, k113, k114⟩ := sp0.1 x 11 kx (by decide)
        refine tw_bi (tw_callV (M := mX5_digestCountry) (pc := 23) okX5_countryFact dX5_digestCountry_23 w_253 rfl f93 [.ref c, .int (nI k2)] [.long v91] rfl rfl ⟨by decide, by decide⟩ (Nat.le_of_ble_eq_true rfl) (c_X5_countryFact d g τ h sp0.1 x kx c kc (nI k2)) 0 0 (Nat.le_of_ble_eq_true rfl) (Nat.le_of_ble_eq_true rfl)) (fun r117 h116 q115 => ?_) (fun E h1 q => q.elim)
        rw [q115]
        refine tw_i2l dX5_digestCountry_26 ?_
        refine tw_nml (fun v118 ev118 => ?_)
        refine tw_ladd dX5_digestCountry_27 ?_
        refine tw_nml (fun v119 ev119 => ?_)
        refine tw_lstore [(4, .long v119), (0, .ref x), (1, .long v), (3, .ref c), (6, .int (nI k2))] dX5_digestCountry_28 (by decide) rfl ?_
        obtain ⟨v120, ev120⟩ : ∃ y : Int32, y = (nI k2) + 1 := ⟨_, rfl⟩
        refine tw_iinc [(6, .int v120), (4, .long v119), (0, .ref x), (1, .long v), (3, .ref c)] 4 dX5_digestCountry_30 rfl (by rw [ev120]; rfl) (by decide) rfl ?_
        refine tw_goto 6 dX5_digestCountry_33 (by decide) ?_
        have qv120 := tw_nI3 ev120
        rw [qv120]
        refine tw_lv [2, 3, 4, 1, 0] rfl ?_
        exact ih4 (k2 + 1) v119 (by omega) (by omega)
  refine tw_lv [2, 3, 4, 1, 0] rfl ?_
  exact L5 (9 + 1) 0 v (by omega) (by omega)

set_option maxHeartbeats 4000000 in
set_option maxRecDepth 100000 in
theorem c_X5_digestHouse (d : tw_D) (g : tw_G) (τ : tw_K) (h : tw_H) (hw : tw_wt d g τ h) (x : Nat) (kx : τ x = 11) (v : Int64) (c : Nat) (kc : τ c = 3) : tw_Ct d mX5_digestHouse 0 0 [.ref x, .long v, .ref c] h (tw_ql (fun r h1 => h1 = h) tw_nx) := by
  refine tw_of (by decide +kernel) (Nat.le_of_ble_eq_true rfl) ?_
  show tw_W d mX5_digestHouse _ 0 [(0, .ref x), (1, .long v), (3, .ref c)] [] h 0 0
  have sp0 := tw_sp.rf hw
  refine tw_lload_n 1 dX5_digestHouse_0 rfl rfl ?_
  refine tw_lstore [(4, .long v), (0, .ref x), (1, .long v), (3, .ref c)] dX5_digestHouse_1 (by decide) rfl ?_
  refine tw_iconst (v := 0) dX5_digestHouse_3 (by decide) ?_
  refine tw_istore [(6, .int 0), (4, .long v), (0, .ref x), (1, .long v), (3, .ref c)] dX5_digestHouse_4 (by decide) rfl ?_
  have L5 : ∀ (r3 k2 : Nat) (x1 : Int64), 8 + 1 ≤ k2 + r3 → k2 ≤ 8 → tw_W d mX5_digestHouse (tw_ql (fun r h1 => h1 = h) tw_nx) 6 [(0, .ref x), (1, .long v), (3, .ref c), (4, .long x1), (6, .int (nI k2))] [] h 0 0 := by
    intro r3
    induction r3 with
    | zero => intro k2 x1 hk9 hk10; exact absurd hk9 (by omega)
    | succ r3 ih4 =>
      intro k2 x1 hk9 hk10
      refine tw_iload 4 dX5_digestHouse_6 rfl ?_
      refine tw_bipush (v := 8) dX5_digestHouse_8 (by decide) ?_
      refine tw_icmp_ge 36 dX5_digestHouse_10 (by decide) (fun c11 => ?_) (fun c11 => ?_)
      · refine tw_lload 3 dX5_digestHouse_36 rfl ?_
        exact tw_lret dX5_digestHouse_38 rfl (Or.inl ⟨_, rfl, rfl⟩)
      · have kl12 := tw_klt (N := 8) c11 hk10 (by decide)
        refine tw_lload 3 dX5_digestHouse_13 rfl ?_
        refine tw_ldc2 (v := 31) dX5_digestHouse_15 w_240 ?_
        refine tw_lmul dX5_digestHouse_18 ?_
        refine tw_nml (fun v13 ev13 => ?_)
        refine tw_aload_n 0 dX5_digestHouse_19 rfl rfl ?_
        refine tw_aload_n 2 dX5_digestHouse_20 rfl rfl ?_
        refine tw_iload 4 dX5_digestHouse_21 rfl ?_
        obtain ⟨e14, f15, td_16, ca_17, ha_18, da_19, c1_20, c2_21, c3_22, c4_23, rfl, k24, k25, k26, k27, k28, k29, k30, k31, k32, k33, k34, k35, k36⟩ := sp0.1 x 11 kx (by decide)
        refine tw_bi (tw_callV (M := mX5_digestHouse) (pc := 23) okX5_houseFact dX5_digestHouse_23 w_332 rfl f15 [.ref c, .int (nI k2)] [.long v13] rfl rfl ⟨by decide, by decide⟩ (Nat.le_of_ble_eq_true rfl) (c_X5_houseFact d g τ h sp0.1 x kx c kc (nI k2)) 0 0 (Nat.le_of_ble_eq_true rfl) (Nat.le_of_ble_eq_true rfl)) (fun r39 h38 q37 => ?_) (fun E h1 q => q.elim)
        rw [q37]
        refine tw_i2l dX5_digestHouse_26 ?_
        refine tw_nml (fun v40 ev40 => ?_)
        refine tw_ladd dX5_digestHouse_27 ?_
        refine tw_nml (fun v41 ev41 => ?_)
        refine tw_lstore [(4, .long v41), (0, .ref x), (1, .long v), (3, .ref c), (6, .int (nI k2))] dX5_digestHouse_28 (by decide) rfl ?_
        obtain ⟨v42, ev42⟩ : ∃ y : Int32, y = (nI k2) + 1 := ⟨_, rfl⟩
        refine tw_iinc [(6, .int v42), (4, .long v41), (0, .ref x), (1, .long v), (3, .ref c)] 4 dX5_digestHouse_30 rfl (by rw [ev42]; rfl) (by decide) rfl ?_
        refine tw_goto 6 dX5_digestHouse_33 (by decide) ?_
        have qv42 := tw_nI3 ev42
        rw [qv42]
        refine tw_lv [2, 3, 4, 1, 0] rfl ?_
        exact ih4 (k2 + 1) v41 (by omega) (by omega)
  refine tw_lv [2, 3, 4, 1, 0] rfl ?_
  exact L5 (8 + 1) 0 v (by omega) (by omega)

set_option maxHeartbeats 4000000 in
set_option maxRecDepth 100000 in
theorem c_X5_digestDebt (d : tw_D) (g : tw_G) (τ : tw_K) (h : tw_H) (hw : tw_wt d g τ h) (x : Nat) (kx : τ x = 11) (v : Int64) (c : Nat) (kc : τ c = 4) : tw_Ct d mX5_digestDebt 0 0 [.ref x, .long v, .ref c] h (tw_ql (fun r h1 => h1 = h) tw_nx) := by
  refine tw_of (by decide +kernel) (Nat.le_of_ble_eq_true rfl) ?_
  show tw_W d mX5_digestDebt _ 0 [(0, .ref x), (1, .long v), (3, .ref c)] [] h 0 0
  have sp0 := tw_sp.rf hw
  refine tw_lload_n 1 dX5_digestDebt_0 rfl rfl ?_
  refine tw_lstore [(4, .long v), (0, .ref x), (1, .long v), (3, .ref c)] dX5_digestDebt_1 (by decide) rfl ?_
  refine tw_iconst (v := 4) dX5_digestDebt_3 (by decide) ?_
  refine tw_istore [(6, .int 4), (4, .long v), (0, .ref x), (1, .long v), (3, .ref c)] dX5_digestDebt_4 (by decide) rfl ?_
  have L5 : ∀ (r3 : Nat) (x1 : Int64) (x2 : Int32), ((7 : Int32).toInt - x2.toInt).toNat < r3 → tw_W d mX5_digestDebt (tw_ql (fun r h1 => h1 = h) tw_nx) 6 [(0, .ref x), (1, .long v), (3, .ref c), (4, .long x1), (6, .int x2)] [] h 0 0 := by
    intro r3
    induction r3 with
    | zero => intro x1 x2 hk9; exact absurd hk9 (Nat.not_lt_zero _)
    | succ r3 ih4 =>
      intro x1 x2 hk9
      refine tw_iload 4 dX5_digestDebt_6 rfl ?_
      refine tw_bipush (v := 7) dX5_digestDebt_8 (by decide) ?_
      refine tw_icmp_ge 36 dX5_digestDebt_10 (by decide) (fun c11 => ?_) (fun c11 => ?_)
      · refine tw_lload 3 dX5_digestDebt_36 rfl ?_
        exact tw_lret dX5_digestDebt_38 rfl (Or.inl ⟨_, rfl, rfl⟩)
      · refine tw_lload 3 dX5_digestDebt_13 rfl ?_
        refine tw_ldc2 (v := 31) dX5_digestDebt_15 w_240 ?_
        refine tw_lmul dX5_digestDebt_18 ?_
        refine tw_nml (fun v12 ev12 => ?_)
        refine tw_aload_n 0 dX5_digestDebt_19 rfl rfl ?_
        refine tw_aload_n 2 dX5_digestDebt_20 rfl rfl ?_
        refine tw_iload 4 dX5_digestDebt_21 rfl ?_
        obtain ⟨e13, f14, td_15, ca_16, ha_17, da_18, c1_19, c2_20, c3_21, c4_22, rfl, k23, k24, k25, k26, k27, k28, k29, k30, k31, k32, k33, k34, k35⟩ := sp0.1 x 11 kx (by decide)
        refine tw_bi (tw_callV (M := mX5_digestDebt) (pc := 23) okX5_debtFact dX5_digestDebt_23 w_351 rfl f14 [.ref c, .int x2] [.long v12] rfl rfl ⟨by decide, by decide⟩ (Nat.le_of_ble_eq_true rfl) (c_X5_debtFact d g τ h sp0.1 x kx c kc x2) 0 0 (Nat.le_of_ble_eq_true rfl) (Nat.le_of_ble_eq_true rfl)) (fun r38 h37 q36 => ?_) (fun E h1 q => q.elim)
        rw [q36]
        refine tw_i2l dX5_digestDebt_26 ?_
        refine tw_nml (fun v39 ev39 => ?_)
        refine tw_ladd dX5_digestDebt_27 ?_
        refine tw_nml (fun v40 ev40 => ?_)
        refine tw_lstore [(4, .long v40), (0, .ref x), (1, .long v), (3, .ref c), (6, .int x2)] dX5_digestDebt_28 (by decide) rfl ?_
        obtain ⟨v41, ev41⟩ : ∃ y : Int32, y = x2 + 1 := ⟨_, rfl⟩
        refine tw_iinc [(6, .int v41), (4, .long v40), (0, .ref x), (1, .long v), (3, .ref c)] 4 dX5_digestDebt_30 rfl (by rw [ev41]; rfl) (by decide) rfl ?_
        refine tw_goto 6 dX5_digestDebt_33 (by decide) ?_
        refine tw_lv [2, 3, 4, 1, 0] rfl ?_
        exact ih4 v40 v41 (tw_mup ev41 c11 hk9)
  refine tw_lv [2, 3, 4, 1, 0] rfl ?_
  exact L5 _ v 4 (Nat.lt_succ_self _)

set_option maxHeartbeats 4000000 in
set_option maxRecDepth 100000 in
theorem c_X5_digest (d : tw_D) (g : tw_G) (τ : tw_K) (h : tw_H) (hw : tw_wt d g τ h) (x : Nat) (kx : τ x = 11) : tw_Ct d mX5_digest 0 0 [.ref x] h (tw_ql (fun r h1 => h1 = h) tw_nx) := by
  refine tw_of (by decide +kernel) (Nat.le_of_ble_eq_true rfl) ?_
  show tw_W d mX5_digest _ 0 [(0, .ref x)] [] h 0 0
  have sp0 := tw_sp.rf hw
  refine tw_ldc2 (v := 5573) dX5_digest_0 w_239 ?_
  refine tw_lstore_n [(1, .long 5573), (0, .ref x)] dX5_digest_3 rfl (by decide) rfl ?_
  refine tw_lload_n 0 dX5_digest_4 rfl rfl ?_
  refine tw_ldc2 (v := 31) dX5_digest_5 w_240 ?_
  refine tw_lmul dX5_digest_8 ?_
  refine tw_nml (fun v1 ev1 => ?_)
  refine tw_aload_n 1 dX5_digest_9 rfl rfl ?_
  obtain ⟨e2, f3, td_4, ca_5, ha_6, da_7, c1_8, c2_9, c3_10, c4_11, rfl, k12, k13, k14, k15, k16, k17, k18, k19, k20, k21, k22, k23, k24⟩ := sp0.1 x 11 kx (by decide)
  refine tw_get (v := .int td_4) rfl in_9 0 dX5_digest_10 w_140 rfl (by decide) f3 rfl ?_
  refine tw_i2l dX5_digest_13 ?_
  refine tw_nml (fun v25 ev25 => ?_)
  refine tw_ladd dX5_digest_14 ?_
  refine tw_nml (fun v26 ev26 => ?_)
  refine tw_lstore_n [(1, .long v26), (0, .ref x)] dX5_digest_15 rfl (by decide) rfl ?_
  refine tw_lload_n 0 dX5_digest_16 rfl rfl ?_
  refine tw_ldc2 (v := 31) dX5_digest_17 w_240 ?_
  refine tw_lmul dX5_digest_20 ?_
  refine tw_nml (fun v27 ev27 => ?_)
  refine tw_aload_n 1 dX5_digest_21 rfl rfl ?_
  refine tw_get (v := .int (g.1 0)) rfl in_9 1 dX5_digest_22 w_141 rfl (by decide) f3 rfl ?_
  refine tw_i2l dX5_digest_25 ?_
  refine tw_nml (fun v28 ev28 => ?_)
  refine tw_ladd dX5_digest_26 ?_
  refine tw_nml (fun v29 ev29 => ?_)
  refine tw_lstore_n [(1, .long v29), (0, .ref x)] dX5_digest_27 rfl (by decide) rfl ?_
  refine tw_aload_n 1 dX5_digest_28 rfl rfl ?_
  refine tw_lload_n 0 dX5_digest_29 rfl rfl ?_
  refine tw_iconst (v := 0) dX5_digest_30 (by decide) ?_
  refine tw_bl (tw_callV (M := mX5_digest) (pc := 31) okX5_digestWorld dX5_digest_31 w_241 rfl f3 [.long v29, .int 0] [] rfl rfl ⟨by decide, by decide⟩ (Nat.le_of_ble_eq_true rfl) (c_X5_digestWorld d g τ h sp0.1 x kx v29 0) 0 0 (Nat.le_of_ble_eq_true rfl) (Nat.le_of_ble_eq_true rfl)) (fun r32 h31 q30 => ?_) (fun E h1 q => q.elim)
  rw [q30]
  refine tw_lstore_n [(1, .long r32), (0, .ref x)] dX5_digest_34 rfl (by decide) rfl ?_
  refine tw_aload_n 1 dX5_digest_35 rfl rfl ?_
  refine tw_lload_n 0 dX5_digest_36 rfl rfl ?_
  refine tw_iconst (v := 1) dX5_digest_37 (by decide) ?_
  refine tw_bl (tw_callV (M := mX5_digest) (pc := 38) okX5_digestWorld dX5_digest_38 w_241 rfl f3 [.long r32, .int 1] [] rfl rfl ⟨by decide, by decide⟩ (Nat.le_of_ble_eq_true rfl) (c_X5_digestWorld d g τ h sp0.1 x kx r32 1) 0 0 (Nat.le_of_ble_eq_true rfl) (Nat.le_of_ble_eq_true rfl)) (fun r35 h34 q33 => ?_) (fun E h1 q => q.elim)
  rw [q33]
  refine tw_lstore_n [(1, .long r35), (0, .ref x)] dX5_digest_41 rfl (by decide) rfl ?_
  refine tw_aload_n 1 dX5_digest_42 rfl rfl ?_
  refine tw_get (v := .ref ca_5) rfl in_9 2 dX5_digest_43 w_142 rfl (by decide) f3 rfl ?_
  refine tw_astore_n [(3, .ref ca_5), (1, .long r35), (0, .ref x)] dX5_digest_46 rfl (by decide) rfl ?_
  refine tw_aload_n 0 dX5_digest_47 rfl rfl ?_
  obtain ⟨e36, f37, F38, rfl, k39, pn40, pb41, px42, pf43⟩ := sp0.1 ca_5 8 k12 (by decide)
  refine tw_alen (v := nI 4) 4 rfl dX5_digest_48 f37 rfl ?_
  refine tw_istore [(4, .int (nI 4)), (3, .ref ca_5), (1, .long r35), (0, .ref x)] dX5_digest_49 (by decide) rfl ?_
  refine tw_iconst (v := 0) dX5_digest_51 (by decide) ?_
  refine tw_istore [(5, .int 0), (4, .int (nI 4)), (3, .ref ca_5), (1, .long r35), (0, .ref x)] dX5_digest_52 (by decide) rfl ?_
  have L48 : ∀ (r46 k45 : Nat) (x44 : Int64), 4 + 1 ≤ k45 + r46 → k45 ≤ 4 → tw_W d mX5_digest (tw_ql (fun r h1 => h1 = h) tw_nx) 54 [(0, .ref x), (1, .long x44), (3, .ref ca_5), (4, .int (nI 4)), (5, .int (nI k45))] [] h 0 0 := by
    intro r46
    induction r46 with
    | zero => intro k45 x44 hk52 hk53; exact absurd hk52 (by omega)
    | succ r46 ih47 =>
      intro k45 x44 hk52 hk53
      refine tw_iload 4 dX5_digest_54 rfl ?_
      refine tw_iload 3 dX5_digest_56 rfl ?_
      refine tw_icmp_ge 86 dX5_digest_58 (by decide) (fun c54 => ?_) (fun c54 => ?_)
      · refine tw_aload_n 0 dX5_digest_86 rfl rfl ?_
        refine tw_get (v := .ref ha_6) rfl in_9 4 dX5_digest_87 w_144 rfl (by decide) f3 rfl ?_
        refine tw_astore_n [(3, .ref ha_6), (0, .ref x), (1, .long x44), (4, .int (nI 4)), (5, .int (nI k45))] dX5_digest_90 rfl (by decide) rfl ?_
        refine tw_aload_n 0 dX5_digest_91 rfl rfl ?_
        obtain ⟨e55, f56, F57, rfl, k58, pn59, pb60, px61⟩ := sp0.1 ha_6 9 k13 (by decide)
        refine tw_alen (v := nI 6) 5 rfl dX5_digest_92 f56 rfl ?_
        refine tw_istore [(4, .int (nI 6)), (3, .ref ha_6), (0, .ref x), (1, .long x44), (5, .int (nI k45))] dX5_digest_93 (by decide) rfl ?_
        refine tw_iconst (v := 0) dX5_digest_95 (by decide) ?_
        refine tw_istore [(5, .int 0), (4, .int (nI 6)), (3, .ref ha_6), (0, .ref x), (1, .long x44)] dX5_digest_96 (by decide) rfl ?_
        have L66 : ∀ (r64 k63 : Nat) (x62 : Int64), 6 + 1 ≤ k63 + r64 → k63 ≤ 6 → tw_W d mX5_digest (tw_ql (fun r h1 => h1 = h) tw_nx) 98 [(0, .ref x), (1, .long x62), (3, .ref ha_6), (4, .int (nI 6)), (5, .int (nI k63))] [] h 0 0 := by
          intro r64
          induction r64 with
          | zero => intro k63 x62 hk70 hk71; exact absurd hk70 (by omega)
          | succ r64 ih65 =>
            intro k63 x62 hk70 hk71
            refine tw_iload 4 dX5_digest_98 rfl ?_
            refine tw_iload 3 dX5_digest_100 rfl ?_
            refine tw_icmp_ge 130 dX5_digest_102 (by decide) (fun c72 => ?_) (fun c72 => ?_)
            · refine tw_aload_n 0 dX5_digest_130 rfl rfl ?_
              refine tw_get (v := .ref da_7) rfl in_9 6 dX5_digest_131 w_146 rfl (by decide) f3 rfl ?_
              refine tw_astore_n [(3, .ref da_7), (0, .ref x), (1, .long x62), (4, .int (nI 6)), (5, .int (nI k63))] dX5_digest_134 rfl (by decide) rfl ?_
              refine tw_aload_n 0 dX5_digest_135 rfl rfl ?_
              obtain ⟨e73, f74, F75, rfl, k76, pn77, pb78, px79⟩ := sp0.1 da_7 10 k14 (by decide)
              refine tw_alen (v := nI 10) 6 rfl dX5_digest_136 f74 rfl ?_
              refine tw_istore [(4, .int (nI 10)), (3, .ref da_7), (0, .ref x), (1, .long x62), (5, .int (nI k63))] dX5_digest_137 (by decide) rfl ?_
              refine tw_iconst (v := 0) dX5_digest_139 (by decide) ?_
              refine tw_istore [(5, .int 0), (4, .int (nI 10)), (3, .ref da_7), (0, .ref x), (1, .long x62)] dX5_digest_140 (by decide) rfl ?_
              have L84 : ∀ (r82 k81 : Nat) (x80 : Int64), 10 + 1 ≤ k81 + r82 → k81 ≤ 10 → tw_W d mX5_digest (tw_ql (fun r h1 => h1 = h) tw_nx) 142 [(0, .ref x), (1, .long x80), (3, .ref da_7), (4, .int (nI 10)), (5, .int (nI k81))] [] h 0 0 := by
                intro r82
                induction r82 with
                | zero => intro k81 x80 hk88 hk89; exact absurd hk88 (by omega)
                | succ r82 ih83 =>
                  intro k81 x80 hk88 hk89
                  refine tw_iload 4 dX5_digest_142 rfl ?_
                  refine tw_iload 3 dX5_digest_144 rfl ?_
                  refine tw_icmp_ge 174 dX5_digest_146 (by decide) (fun c90 => ?_) (fun c90 => ?_)
                  · refine tw_lload_n 1 dX5_digest_174 rfl rfl ?_
                    refine tw_ldc2 (v := 31) dX5_digest_175 w_240 ?_
                    refine tw_lmul dX5_digest_178 ?_
                    refine tw_nml (fun v91 ev91 => ?_)
                    refine tw_aload_n 0 dX5_digest_179 rfl rfl ?_
                    refine tw_sipush (v := 1000) dX5_digest_180 (by decide) ?_
                    refine tw_bi (tw_callV (M := mX5_digest) (pc := 183) okX5_isRest dX5_digest_183 w_369 rfl f3 [.int 1000] [.long v91] rfl rfl ⟨by decide, by decide⟩ (Nat.le_of_ble_eq_true rfl) (c_X5_isRest d g τ h sp0.1 x kx 1000) 0 0 (Nat.le_of_ble_eq_true rfl) (Nat.le_of_ble_eq_true rfl)) (fun r94 h93 q92 => ?_) (fun E h1 q => q.elim)
                    obtain ⟨q92e, p95⟩ := q92
                    rw [q92e]
                    refine tw_if_eq 193 dX5_digest_186 (by decide) (fun c96 => ?_) (fun c96 => ?_)
                    · refine tw_iconst (v := 0) dX5_digest_193 (by decide) ?_
                      refine tw_i2l dX5_digest_194 ?_
                      refine tw_nml (fun v97 ev97 => ?_)
                      refine tw_ladd dX5_digest_195 ?_
                      refine tw_nml (fun v98 ev98 => ?_)
                      refine tw_lstore_n [(1, .long v98), (0, .ref x), (3, .ref da_7), (4, .int (nI 10)), (5, .int (nI k81))] dX5_digest_196 rfl (by decide) rfl ?_
                      refine tw_lload_n 0 dX5_digest_197 rfl rfl ?_
                      refine tw_ldc2 (v := 31) dX5_digest_198 w_240 ?_
                      refine tw_lmul dX5_digest_201 ?_
                      refine tw_nml (fun v99 ev99 => ?_)
                      refine tw_aload_n 1 dX5_digest_202 rfl rfl ?_
                      refine tw_bi (tw_callV (M := mX5_digest) (pc := 203) okX5_isSound dX5_digest_203 w_373 rfl f3 [] [.long v99] rfl rfl ⟨by decide, by decide⟩ (Nat.le_of_ble_eq_true rfl) (c_X5_isSound d g τ h sp0.1 x kx) 0 0 (Nat.le_of_ble_eq_true rfl) (Nat.le_of_ble_eq_true rfl)) (fun r102 h101 q100 => ?_) (fun E h1 q => q.elim)
                      obtain ⟨q100e, p103⟩ := q100
                      rw [q100e]
                      refine tw_if_eq 213 dX5_digest_206 (by decide) (fun c104 => ?_) (fun c104 => ?_)
                      · refine tw_iconst (v := 0) dX5_digest_213 (by decide) ?_
                        refine tw_i2l dX5_digest_214 ?_
                        refine tw_nml (fun v105 ev105 => ?_)
                        refine tw_ladd dX5_digest_215 ?_
                        refine tw_nml (fun v106 ev106 => ?_)
                        refine tw_lstore_n [(1, .long v106), (0, .ref x), (3, .ref da_7), (4, .int (nI 10)), (5, .int (nI k81))] dX5_digest_216 rfl (by decide) rfl ?_
                        refine tw_lload_n 0 dX5_digest_217 rfl rfl ?_
                        exact tw_lret dX5_digest_218 rfl (Or.inl ⟨_, rfl, rfl⟩)
                      · refine tw_iconst (v := 1) dX5_digest_209 (by decide) ?_
                        refine tw_goto 214 dX5_digest_210 (by decide) ?_
                        refine tw_i2l dX5_digest_214 ?_
                        refine tw_nml (fun v107 ev107 => ?_)
                        refine tw_ladd dX5_digest_215 ?_
                        refine tw_nml (fun v108 ev108 => ?_)
                        refine tw_lstore_n [(1, .long v108), (0, .ref x), (3, .ref da_7), (4, .int (nI 10)), (5, .int (nI k81))] dX5_digest_216 rfl (by decide) rfl ?_
                        refine tw_lload_n 0 dX5_digest_217 rfl rfl ?_
                        exact tw_lret dX5_digest_218 rfl (Or.inl ⟨_, rfl, rfl⟩)
                    · refine tw_iconst (v := 1) dX5_digest_189 (by decide) ?_
                      refine tw_goto 194 dX5_digest_190 (by decide) ?_
                      refine tw_i2l dX5_digest_194 ?_
                      refine tw_nml (fun v109 ev109 => ?_)
                      refine tw_ladd dX5_digest_195 ?_
                      refine tw_nml (fun v110 ev110 => ?_)
                      refine tw_lstore_n [(1, .long v110), (0, .ref x), (3, .ref da_7), (4, .int (nI 10)), (5, .int (nI k81))] dX5_digest_196 rfl (by decide) rfl ?_
                      refine tw_lload_n 0 dX5_digest_197 rfl rfl ?_
                      refine tw_ldc2 (v := 31) dX5_digest_198 w_240 ?_
                      refine tw_lmul dX5_digest_201 ?_
                      refine tw_nml (fun v111 ev111 => ?_)
                      refine tw_aload_n 1 dX5_digest_202 rfl rfl ?_
                      refine tw_bi (tw_callV (M := mX5_digest) (pc := 203) okX5_isSound dX5_digest_203 w_373 rfl f3 [] [.long v111] rfl rfl ⟨by decide, by decide⟩ (Nat.le_of_ble_eq_true rfl) (c_X5_isSound d g τ h sp0.1 x kx) 0 0 (Nat.le_of_ble_eq_true rfl) (Nat.le_of_ble_eq_true rfl)) (fun r114 h113 q112 => ?_) (fun E h1 q => q.elim)
                      obtain ⟨q112e, p115⟩ := q112
                      rw [q112e]
                      refine tw_if_eq 213 dX5_digest_206 (by decide) (fun c116 => ?_) (fun c116 => ?_)
                      · refine tw_iconst (v := 0) dX5_digest_213 (by decide) ?_
                        refine tw_i2l dX5_digest_214 ?_
                        refine tw_nml (fun v117 ev117 => ?_)
                        refine tw_ladd dX5_digest_215 ?_
                        refine tw_nml (fun v118 ev118 => ?_)
                        refine tw_lstore_n [(1, .long v118), (0, .ref x), (3, .ref da_7), (4, .int (nI 10)), (5, .int (nI k81))] dX5_digest_216 rfl (by decide) rfl ?_
                        refine tw_lload_n 0 dX5_digest_217 rfl rfl ?_
                        exact tw_lret dX5_digest_218 rfl (Or.inl ⟨_, rfl, rfl⟩)
                      · refine tw_iconst (v := 1) dX5_digest_209 (by decide) ?_
                        refine tw_goto 214 dX5_digest_210 (by decide) ?_
                        refine tw_i2l dX5_digest_214 ?_
                        refine tw_nml (fun v119 ev119 => ?_)
                        refine tw_ladd dX5_digest_215 ?_
                        refine tw_nml (fun v120 ev120 => ?_)
                        refine tw_lstore_n [(1, .long v120), (0, .ref x), (3, .ref da_7), (4, .int (nI 10)), (5, .int (nI k81))] dX5_digest_216 rfl (by decide) rfl ?_
                        refine tw_lload_n 0 dX5_digest_217 rfl rfl ?_
                        exact tw_lret dX5_digest_218 rfl (Or.inl ⟨_, rfl, rfl⟩)
                  · have kl121 := tw_klt (N := 10) c90 hk89 (by decide)
                    refine tw_aload_n 2 dX5_digest_149 rfl rfl ?_
                    refine tw_iload 4 dX5_digest_150 rfl ?_
                    cases k122 : F75 ((nI k81)).toNatClampNeg with
                    | none =>
                      refine tw_aald (v := .null) 6 rfl rfl dX5_digest_152 f74 (vp_in_nI (by omega) (by decide)) (by rw [k122]; rfl) ?_
                      refine tw_astoreN [(6, .null), (0, .ref x), (1, .long x80), (3, .ref da_7), (4, .int (nI 10)), (5, .int (nI k81))] dX5_digest_153 (by decide) rfl ?_
                      refine tw_aloadN 0 dX5_digest_155 rfl ?_
                      refine tw_ifnullN 168 dX5_digest_157 (by decide) ?_
                      obtain ⟨v124, ev124⟩ : ∃ y : Int32, y = (nI k81) + 1 := ⟨_, rfl⟩
                      refine tw_iinc [(5, .int v124), (6, .null), (0, .ref x), (1, .long x80), (3, .ref da_7), (4, .int (nI 10))] 5 dX5_digest_168 rfl (by rw [ev124]; rfl) (by decide) rfl ?_
                      refine tw_goto 142 dX5_digest_171 (by decide) ?_
                      have qv124 := tw_nI3 ev124
                      rw [qv124]
                      refine tw_lv [2, 3, 4, 5, 0] rfl ?_
                      exact ih83 (k81 + 1) x80 (by omega) (by omega)
                    | some q123 =>
                      have k125 := k76 _ _ k122
                      refine tw_aald (v := .ref q123) 6 rfl rfl dX5_digest_152 f74 (vp_in_nI (by omega) (by decide)) (by rw [k122]; rfl) ?_
                      refine tw_astore [(6, .ref q123), (0, .ref x), (1, .long x80), (3, .ref da_7), (4, .int (nI 10)), (5, .int (nI k81))] dX5_digest_153 (by decide) rfl ?_
                      refine tw_aload 0 dX5_digest_155 rfl ?_
                      refine tw_ifnull dX5_digest_157 ?_
                      refine tw_aload_n 1 dX5_digest_160 rfl rfl ?_
                      refine tw_lload_n 2 dX5_digest_161 rfl rfl ?_
                      refine tw_aload 0 dX5_digest_162 rfl ?_
                      refine tw_bl (tw_callV (M := mX5_digest) (pc := 164) okX5_digestDebt dX5_digest_164 w_347 rfl f3 [.long x80, .ref q123] [] rfl rfl ⟨by decide, by decide⟩ (Nat.le_of_ble_eq_true rfl) (c_X5_digestDebt d g τ h sp0.1 x kx x80 q123 k125) 0 0 (Nat.le_of_ble_eq_true rfl) (Nat.le_of_ble_eq_true rfl)) (fun r128 h127 q126 => ?_) (fun E h1 q => q.elim)
                      rw [q126]
                      refine tw_lstore_n [(1, .long r128), (6, .ref q123), (0, .ref x), (3, .ref da_7), (4, .int (nI 10)), (5, .int (nI k81))] dX5_digest_167 rfl (by decide) rfl ?_
                      obtain ⟨v129, ev129⟩ : ∃ y : Int32, y = (nI k81) + 1 := ⟨_, rfl⟩
                      refine tw_iinc [(5, .int v129), (1, .long r128), (6, .ref q123), (0, .ref x), (3, .ref da_7), (4, .int (nI 10))] 5 dX5_digest_168 rfl (by rw [ev129]; rfl) (by decide) rfl ?_
                      refine tw_goto 142 dX5_digest_171 (by decide) ?_
                      have qv129 := tw_nI3 ev129
                      rw [qv129]
                      refine tw_lv [3, 1, 4, 5, 0] rfl ?_
                      exact ih83 (k81 + 1) r128 (by omega) (by omega)
              refine tw_lv [3, 4, 2, 1, 0] rfl ?_
              exact L84 (10 + 1) 0 x62 (by omega) (by omega)
            · have kl130 := tw_klt (N := 6) c72 hk71 (by decide)
              refine tw_aload_n 2 dX5_digest_105 rfl rfl ?_
              refine tw_iload 4 dX5_digest_106 rfl ?_
              cases k131 : F57 ((nI k63)).toNatClampNeg with
              | none =>
                refine tw_aald (v := .null) 5 rfl rfl dX5_digest_108 f56 (vp_in_nI (by omega) (by decide)) (by rw [k131]; rfl) ?_
                refine tw_astoreN [(6, .null), (0, .ref x), (1, .long x62), (3, .ref ha_6), (4, .int (nI 6)), (5, .int (nI k63))] dX5_digest_109 (by decide) rfl ?_
                refine tw_aloadN 0 dX5_digest_111 rfl ?_
                refine tw_ifnullN 124 dX5_digest_113 (by decide) ?_
                obtain ⟨v133, ev133⟩ : ∃ y : Int32, y = (nI k63) + 1 := ⟨_, rfl⟩
                refine tw_iinc [(5, .int v133), (6, .null), (0, .ref x), (1, .long x62), (3, .ref ha_6), (4, .int (nI 6))] 5 dX5_digest_124 rfl (by rw [ev133]; rfl) (by decide) rfl ?_
                refine tw_goto 98 dX5_digest_127 (by decide) ?_
                have qv133 := tw_nI3 ev133
                rw [qv133]
                refine tw_lv [2, 3, 4, 5, 0] rfl ?_
                exact ih65 (k63 + 1) x62 (by omega) (by omega)
              | some q132 =>
                have k134 := k58 _ _ k131
                refine tw_aald (v := .ref q132) 5 rfl rfl dX5_digest_108 f56 (vp_in_nI (by omega) (by decide)) (by rw [k131]; rfl) ?_
                refine tw_astore [(6, .ref q132), (0, .ref x), (1, .long x62), (3, .ref ha_6), (4, .int (nI 6)), (5, .int (nI k63))] dX5_digest_109 (by decide) rfl ?_
                refine tw_aload 0 dX5_digest_111 rfl ?_
                refine tw_ifnull dX5_digest_113 ?_
                refine tw_aload_n 1 dX5_digest_116 rfl rfl ?_
                refine tw_lload_n 2 dX5_digest_117 rfl rfl ?_
                refine tw_aload 0 dX5_digest_118 rfl ?_
                refine tw_bl (tw_callV (M := mX5_digest) (pc := 120) okX5_digestHouse dX5_digest_120 w_328 rfl f3 [.long x62, .ref q132] [] rfl rfl ⟨by decide, by decide⟩ (Nat.le_of_ble_eq_true rfl) (c_X5_digestHouse d g τ h sp0.1 x kx x62 q132 k134) 0 0 (Nat.le_of_ble_eq_true rfl) (Nat.le_of_ble_eq_true rfl)) (fun r137 h136 q135 => ?_) (fun E h1 q => q.elim)
                rw [q135]
                refine tw_lstore_n [(1, .long r137), (6, .ref q132), (0, .ref x), (3, .ref ha_6), (4, .int (nI 6)), (5, .int (nI k63))] dX5_digest_123 rfl (by decide) rfl ?_
                obtain ⟨v138, ev138⟩ : ∃ y : Int32, y = (nI k63) + 1 := ⟨_, rfl⟩
                refine tw_iinc [(5, .int v138), (1, .long r137), (6, .ref q132), (0, .ref x), (3, .ref ha_6), (4, .int (nI 6))] 5 dX5_digest_124 rfl (by rw [ev138]; rfl) (by decide) rfl ?_
                refine tw_goto 98 dX5_digest_127 (by decide) ?_
                have qv138 := tw_nI3 ev138
                rw [qv138]
                refine tw_lv [3, 1, 4, 5, 0] rfl ?_
                exact ih65 (k63 + 1) r137 (by omega) (by omega)
        refine tw_lv [3, 4, 2, 1, 0] rfl ?_
        exact L66 (6 + 1) 0 x44 (by omega) (by omega)
      · have kl139 := tw_klt (N := 4) c54 hk53 (by decide)
        refine tw_aload_n 2 dX5_digest_61 rfl rfl ?_
        refine tw_iload 4 dX5_digest_62 rfl ?_
        cases k140 : F38 ((nI k45)).toNatClampNeg with
        | none =>
          refine tw_aald (v := .null) 4 rfl rfl dX5_digest_64 f37 (vp_in_nI (by omega) (by decide)) (by rw [k140]; rfl) ?_
          refine tw_astoreN [(6, .null), (0, .ref x), (1, .long x44), (3, .ref ca_5), (4, .int (nI 4)), (5, .int (nI k45))] dX5_digest_65 (by decide) rfl ?_
          refine tw_aloadN 0 dX5_digest_67 rfl ?_
          refine tw_ifnullN 80 dX5_digest_69 (by decide) ?_
          obtain ⟨v142, ev142⟩ : ∃ y : Int32, y = (nI k45) + 1 := ⟨_, rfl⟩
          refine tw_iinc [(5, .int v142), (6, .null), (0, .ref x), (1, .long x44), (3, .ref ca_5), (4, .int (nI 4))] 5 dX5_digest_80 rfl (by rw [ev142]; rfl) (by decide) rfl ?_
          refine tw_goto 54 dX5_digest_83 (by decide) ?_
          have qv142 := tw_nI3 ev142
          rw [qv142]
          refine tw_lv [2, 3, 4, 5, 0] rfl ?_
          exact ih47 (k45 + 1) x44 (by omega) (by omega)
        | some q141 =>
          have k143 := k39 _ _ k140
          refine tw_aald (v := .ref q141) 4 rfl rfl dX5_digest_64 f37 (vp_in_nI (by omega) (by decide)) (by rw [k140]; rfl) ?_
          refine tw_astore [(6, .ref q141), (0, .ref x), (1, .long x44), (3, .ref ca_5), (4, .int (nI 4)), (5, .int (nI k45))] dX5_digest_65 (by decide) rfl ?_
          refine tw_aload 0 dX5_digest_67 rfl ?_
          refine tw_ifnull dX5_digest_69 ?_
          refine tw_aload_n 1 dX5_digest_72 rfl rfl ?_
          refine tw_lload_n 2 dX5_digest_73 rfl rfl ?_
          refine tw_aload 0 dX5_digest_74 rfl ?_
          refine tw_bl (tw_callV (M := mX5_digest) (pc := 76) okX5_digestCountry dX5_digest_76 w_249 rfl f3 [.long x44, .ref q141] [] rfl rfl ⟨by decide, by decide⟩ (Nat.le_of_ble_eq_true rfl) (c_X5_digestCountry d g τ h sp0.1 x kx x44 q141 k143) 0 0 (Nat.le_of_ble_eq_true rfl) (Nat.le_of_ble_eq_true rfl)) (fun r146 h145 q144 => ?_) (fun E h1 q => q.elim)
          rw [q144]
          refine tw_lstore_n [(1, .long r146), (6, .ref q141), (0, .ref x), (3, .ref ca_5), (4, .int (nI 4)), (5, .int (nI k45))] dX5_digest_79 rfl (by decide) rfl ?_
          obtain ⟨v147, ev147⟩ : ∃ y : Int32, y = (nI k45) + 1 := ⟨_, rfl⟩
          refine tw_iinc [(5, .int v147), (1, .long r146), (6, .ref q141), (0, .ref x), (3, .ref ca_5), (4, .int (nI 4))] 5 dX5_digest_80 rfl (by rw [ev147]; rfl) (by decide) rfl ?_
          refine tw_goto 54 dX5_digest_83 (by decide) ?_
          have qv147 := tw_nI3 ev147
          rw [qv147]
          refine tw_lv [3, 1, 4, 5, 0] rfl ?_
          exact ih47 (k45 + 1) r146 (by omega) (by omega)
  refine tw_lv [4, 3, 2, 1, 0] rfl ?_
  exact L48 (4 + 1) 0 r35 (by omega) (by omega)

set_option maxHeartbeats 4000000 in
set_option maxRecDepth 100000 in
theorem c_X5_coins (d : tw_D) (g : tw_G) (τ : tw_K) (h : tw_H) (hw : tw_wt d g τ h) (x : Nat) (kx : τ x = 11) (n : Int32) (am : Int32) : tw_Ct d mX5_coins 20 120 [.ref x, .int n, .int am] h (tw_qi (fun r h1 => h1 = h) (fun E h1 => (E = tw_IOE ∨ E = tw_IAE) ∧ h1 = h)) := by
  refine tw_of (by decide +kernel) (Nat.le_of_ble_eq_true rfl) ?_
  show tw_W d mX5_coins _ 0 [(0, .ref x), (1, .int n), (2, .int am)] [] h 20 120
  have sp0 := tw_sp.rf hw
  refine tw_aload_n 0 dX5_coins_0 rfl rfl ?_
  refine tw_iload_n 1 dX5_coins_1 rfl rfl ?_
  obtain ⟨e1, f2, td_3, ca_4, ha_5, da_6, c1_7, c2_8, c3_9, c4_10, rfl, k11, k12, k13, k14, k15, k16, k17, k18, k19, k20, k21, k22, k23⟩ := sp0.1 x 11 kx (by decide)
  refine tw_br (tw_callV (M := mX5_coins) (pc := 2) okX5_countryAt dX5_coins_2 w_546 rfl f2 [.int n] [] rfl rfl ⟨by decide, by decide⟩ (Nat.le_of_ble_eq_true rfl) (c_X5_countryAt d g τ h sp0.1 x kx n) 19 114 (Nat.le_of_ble_eq_true rfl) (Nat.le_of_ble_eq_true rfl)) (fun r26 h25 q24 => ?_) (fun E h1 q => Or.inr ⟨E, rfl, (Or.inl q.1), q.2⟩)
  obtain ⟨q24e, p27⟩ := q24
  rw [q24e]
  obtain ⟨e28, f29, n_30, r_31, c_32, go_33, so_34, v_35, rd_36, rf_37, t_38, rfl, k39, k40, k41, k42, k43, k44, k45, k46, k47⟩ := sp0.1 r26 2 p27 (by decide)
  refine tw_getN (v := .ref t_38) rfl in_4 8 dX5_coins_5 w_514 rfl (by decide) f29 rfl ?_
  refine tw_astore_n [(3, .ref t_38), (0, .ref x), (1, .int n), (2, .int am)] dX5_coins_8 rfl (by decide) rfl ?_
  refine tw_iload_n 3 dX5_coins_9 rfl rfl ?_
  refine tw_iconst (v := 1) dX5_coins_10 (by decide) ?_
  refine tw_sipush (v := 400) dX5_coins_11 (by decide) ?_
  refine tw_bv (tw_callS (M := mX5_coins) (pc := 14) okX5_needRange dX5_coins_14 w_399 [.int am, .int 1, .int 400] [] rfl rfl ⟨by decide, by decide⟩ (Nat.le_of_ble_eq_true rfl) (c_X5_needRange d g τ h sp0.1 am 1 400) 18 108 (Nat.le_of_ble_eq_true rfl) (Nat.le_of_ble_eq_true rfl)) (fun h49 q48 => ?_) (fun E h1 q => Or.inr ⟨E, rfl, (Or.inr (q.1)), q.2⟩)
  obtain ⟨q48e, p51⟩ := q48
  rw [q48e]
  refine tw_aload_n 0 dX5_coins_17 rfl rfl ?_
  refine tw_iload_n 3 dX5_coins_18 rfl rfl ?_
  obtain ⟨e52, f53, m_54, rfl, k55, k56⟩ := sp0.1 t_38 5 k42 (by decide)
  refine tw_bi (tw_callVN (M := mX5_coins) (pc := 19) okX4_fewestFor dX5_coins_19 w_285 rfl f53 [.int am] [] rfl rfl ⟨by decide, by decide⟩ (Nat.le_of_ble_eq_true rfl) (c_X4_fewestFor d g τ h sp0.1 t_38 k42 am) 18 108 (Nat.le_of_ble_eq_true rfl) (Nat.le_of_ble_eq_true rfl)) (fun r59 h58 q57 => ?_) (fun E h1 q => q.elim)
  rw [q57]
  exact tw_iret dX5_coins_22 rfl (Or.inl ⟨_, rfl, rfl⟩)

set_option maxHeartbeats 4000000 in
set_option maxRecDepth 100000 in
theorem c_X5_mine (d : tw_D) (g : tw_G) (τ : tw_K) (h : tw_H) (hw : tw_wt d g τ h) (x : Nat) (kx : τ x = 11) (a : Int32) (m : Int32) (gr : Int32) : tw_Ct d mX5_mine 20 120 [.ref x, .int a, .int m, .int gr] h (tw_qi (fun r h1 => tw_sp d τ h g τ h1) (fun E h1 => (E = tw_IOE ∨ E = tw_IAE ∨ E = tw_ISE) ∧ ∃ τ1, tw_sp d τ h g τ1 h1)) := by
  refine tw_of (by decide +kernel) (Nat.le_of_ble_eq_true rfl) ?_
  show tw_W d mX5_mine _ 0 [(0, .ref x), (1, .int a), (2, .int m), (3, .int gr)] [] h 20 120
  have sp0 := tw_sp.rf hw
  refine tw_aload_n 0 dX5_mine_0 rfl rfl ?_
  refine tw_iload_n 1 dX5_mine_1 rfl rfl ?_
  obtain ⟨e1, f2, td_3, ca_4, ha_5, da_6, c1_7, c2_8, c3_9, c4_10, rfl, k11, k12, k13, k14, k15, k16, k17, k18, k19, k20, k21, k22, k23⟩ := sp0.1 x 11 kx (by decide)
  refine tw_br (tw_callV (M := mX5_mine) (pc := 2) okX5_countryAt dX5_mine_2 w_546 rfl f2 [.int a] [] rfl rfl ⟨by decide, by decide⟩ (Nat.le_of_ble_eq_true rfl) (c_X5_countryAt d g τ h sp0.1 x kx a) 19 114 (Nat.le_of_ble_eq_true rfl) (Nat.le_of_ble_eq_true rfl)) (fun r26 h25 q24 => ?_) (fun E h1 q => Or.inr ⟨E, rfl, (Or.inl q.1), ⟨τ, by rw [q.2]; exact sp0⟩⟩)
  obtain ⟨q24e, p27⟩ := q24
  rw [q24e]
  obtain ⟨e28, f29, n_30, r_31, c_32, go_33, so_34, v_35, rd_36, rf_37, t_38, rfl, k39, k40, k41, k42, k43, k44, k45, k46, k47⟩ := sp0.1 r26 2 p27 (by decide)
  refine tw_getN (v := .ref v_35) rfl in_4 3 dX5_mine_5 w_508 rfl (by decide) f29 rfl ?_
  refine tw_astore [(4, .ref v_35), (0, .ref x), (1, .int a), (2, .int m), (3, .int gr)] dX5_mine_8 (by decide) rfl ?_
  refine tw_iload_n 3 dX5_mine_10 rfl rfl ?_
  refine tw_bv (tw_callS (M := mX5_mine) (pc := 11) okX5_needMetal dX5_mine_11 w_573 [.int m] [] rfl rfl ⟨by decide, by decide⟩ (Nat.le_of_ble_eq_true rfl) (c_X5_needMetal d g τ h sp0.1 m) 18 108 (Nat.le_of_ble_eq_true rfl) (Nat.le_of_ble_eq_true rfl)) (fun h49 q48 => ?_) (fun E h1 q => Or.inr ⟨E, rfl, (Or.inr (Or.inl q.1)), ⟨τ, by rw [q.2]; exact sp0⟩⟩)
  obtain ⟨q48e, p51⟩ := q48
  rw [q48e]
  refine tw_iload_n 4 dX5_mine_14 rfl rfl ?_
  refine tw_iconst (v := 1) dX5_mine_15 (by decide) ?_
  refine tw_ldc (v := 99999) dX5_mine_16 w_470 ?_
  refine tw_bv (tw_callS (M := mX5_mine) (pc := 18) okX5_needRange dX5_mine_18 w_399 [.int gr, .int 1, .int 99999] [] rfl rfl ⟨by decide, by decide⟩ (Nat.le_of_ble_eq_true rfl) (c_X5_needRange d g τ h sp0.1 gr 1 99999) 17 102 (Nat.le_of_ble_eq_true rfl) (Nat.le_of_ble_eq_true rfl)) (fun h53 q52 => ?_) (fun E h1 q => Or.inr ⟨E, rfl, (Or.inr (Or.inl q.1)), ⟨τ, by rw [q.2]; exact sp0⟩⟩)
  obtain ⟨q52e, p55⟩ := q52
  rw [q52e]
  refine tw_aload 0 dX5_mine_21 rfl ?_
  refine tw_iload_n 3 dX5_mine_23 rfl rfl ?_
  obtain ⟨e56, f57, a_58, b_59, rfl⟩ := sp0.1 v_35 1 k39 (by decide)
  refine tw_bi (tw_callVN (M := mX5_mine) (pc := 24) okX3_of dX5_mine_24 w_189 rfl f57 [.int m] [] rfl rfl ⟨by decide, by decide⟩ (Nat.le_of_ble_eq_true rfl) (c_X3_of d g τ h sp0.1 v_35 k39 m) 17 102 (Nat.le_of_ble_eq_true rfl) (Nat.le_of_ble_eq_true rfl)) (fun r62 h61 q60 => ?_) (fun E h1 q => q.elim)
  rw [q60]
  refine tw_ldc (v := 999999) dX5_mine_27 w_614 ?_
  refine tw_iload_n 4 dX5_mine_29 rfl rfl ?_
  refine tw_isub dX5_mine_30 ?_
  refine tw_nmi (fun v63 ev63 => ?_)
  refine tw_icmp_le 44 dX5_mine_31 (by decide) (fun c64 => ?_) (fun c64 => ?_)
  · refine tw_aload 0 dX5_mine_44 rfl ?_
    refine tw_iload_n 3 dX5_mine_46 rfl rfl ?_
    refine tw_iload_n 4 dX5_mine_47 rfl rfl ?_
    refine tw_bv (tw_callVN (M := mX5_mine) (pc := 48) okX3_add dX5_mine_48 w_534 rfl f57 [.int m, .int gr] [] rfl rfl ⟨by decide, by decide⟩ (Nat.le_of_ble_eq_true rfl) (c_X3_add d g τ h sp0.1 v_35 k39 m gr) 17 102 (Nat.le_of_ble_eq_true rfl) (Nat.le_of_ble_eq_true rfl)) (fun h66 q65 => ?_) (fun E h1 q => q.elim)
    have q65s := q65
    have sp68 := sp0.tr q65s
    refine tw_aload_n 1 dX5_mine_51 rfl rfl ?_
    obtain ⟨e70, f71, td_72, ca_73, ha_74, da_75, c1_76, c2_77, c3_78, c4_79, rfl, k80, k81, k82, k83, k84, k85, k86, k87, k88, k89, k90, k91, k92⟩ := sp68.1 x 11 kx (by decide)
    refine tw_get (v := .ref c4_79) rfl in_9 11 dX5_mine_52 w_151 rfl (by decide) f71 rfl ?_
    refine tw_iload_n 3 dX5_mine_55 rfl rfl ?_
    refine tw_iload_n 4 dX5_mine_56 rfl rfl ?_
    obtain ⟨e93, f94, a_95, b_96, rfl⟩ := sp68.1 c4_79 1 k86 (by decide)
    refine tw_bv (tw_callVN (M := mX5_mine) (pc := 57) okX3_add dX5_mine_57 w_534 rfl f94 [.int m, .int gr] [] rfl rfl ⟨by decide, by decide⟩ (Nat.le_of_ble_eq_true rfl) (c_X3_add d g τ h66 sp68.1 c4_79 k86 m gr) 17 102 (Nat.le_of_ble_eq_true rfl) (Nat.le_of_ble_eq_true rfl)) (fun h98 q97 => ?_) (fun E h1 q => q.elim)
    have q97s := q97
    have sp100 := sp68.tr q97s
    refine tw_aload 0 dX5_mine_60 rfl ?_
    refine tw_iload_n 3 dX5_mine_62 rfl rfl ?_
    obtain ⟨e102, f103, a_104, b_105, rfl⟩ := sp100.1 v_35 1 k39 (by decide)
    refine tw_bi (tw_callVN (M := mX5_mine) (pc := 63) okX3_of dX5_mine_63 w_189 rfl f103 [.int m] [] rfl rfl ⟨by decide, by decide⟩ (Nat.le_of_ble_eq_true rfl) (c_X3_of d g τ h98 sp100.1 v_35 k39 m) 17 102 (Nat.le_of_ble_eq_true rfl) (Nat.le_of_ble_eq_true rfl)) (fun r108 h107 q106 => ?_) (fun E h1 q => q.elim)
    rw [q106]
    exact tw_iret dX5_mine_66 rfl (Or.inl ⟨_, rfl, sp100⟩)
  · exact tw_throwS (i := 5) (by decide +kernel) w_471 w_88 rfl at_ISE dX5_mine_34 dX5_mine_37 dX5_mine_38 dX5_mine_40 dX5_mine_43 ⟨by decide, Nat.le_of_ble_eq_true rfl⟩ (Nat.le_of_ble_eq_true rfl) (Nat.le_of_ble_eq_true rfl) (Or.inr ⟨_, rfl, (Or.inr (Or.inr (rfl))), _, sp0⟩)

set_option maxHeartbeats 4000000 in
set_option maxRecDepth 100000 in
theorem c_X5_use (d : tw_D) (g : tw_G) (τ : tw_K) (h : tw_H) (hw : tw_wt d g τ h) (x : Nat) (kx : τ x = 11) (a : Int32) (m : Int32) (gr : Int32) : tw_Ct d mX5_use 20 120 [.ref x, .int a, .int m, .int gr] h (tw_qi (fun r h1 => tw_sp d τ h g τ h1) (fun E h1 => (E = tw_IOE ∨ E = tw_IAE ∨ E = tw_ISE) ∧ ∃ τ1, tw_sp d τ h g τ1 h1)) := by
  refine tw_of (by decide +kernel) (Nat.le_of_ble_eq_true rfl) ?_
  show tw_W d mX5_use _ 0 [(0, .ref x), (1, .int a), (2, .int m), (3, .int gr)] [] h 20 120
  have sp0 := tw_sp.rf hw
  refine tw_aload_n 0 dX5_use_0 rfl rfl ?_
  refine tw_iload_n 1 dX5_use_1 rfl rfl ?_
  obtain ⟨e1, f2, td_3, ca_4, ha_5, da_6, c1_7, c2_8, c3_9, c4_10, rfl, k11, k12, k13, k14, k15, k16, k17, k18, k19, k20, k21, k22, k23⟩ := sp0.1 x 11 kx (by decide)
  refine tw_br (tw_callV (M := mX5_use) (pc := 2) okX5_countryAt dX5_use_2 w_546 rfl f2 [.int a] [] rfl rfl ⟨by decide, by decide⟩ (Nat.le_of_ble_eq_true rfl) (c_X5_countryAt d g τ h sp0.1 x kx a) 19 114 (Nat.le_of_ble_eq_true rfl) (Nat.le_of_ble_eq_true rfl)) (fun r26 h25 q24 => ?_) (fun E h1 q => Or.inr ⟨E, rfl, (Or.inl q.1), ⟨τ, by rw [q.2]; exact sp0⟩⟩)
  obtain ⟨q24e, p27⟩ := q24
  rw [q24e]
  obtain ⟨e28, f29, n_30, r_31, c_32, go_33, so_34, v_35, rd_36, rf_37, t_38, rfl, k39, k40, k41, k42, k43, k44, k45, k46, k47⟩ := sp0.1 r26 2 p27 (by decide)
  refine tw_getN (v := .ref v_35) rfl in_4 3 dX5_use_5 w_508 rfl (by decide) f29 rfl ?_
  refine tw_astore [(4, .ref v_35), (0, .ref x), (1, .int a), (2, .int m), (3, .int gr)] dX5_use_8 (by decide) rfl ?_
  refine tw_iload_n 3 dX5_use_10 rfl rfl ?_
  refine tw_bv (tw_callS (M := mX5_use) (pc := 11) okX5_needMetal dX5_use_11 w_573 [.int m] [] rfl rfl ⟨by decide, by decide⟩ (Nat.le_of_ble_eq_true rfl) (c_X5_needMetal d g τ h sp0.1 m) 18 108 (Nat.le_of_ble_eq_true rfl) (Nat.le_of_ble_eq_true rfl)) (fun h49 q48 => ?_) (fun E h1 q => Or.inr ⟨E, rfl, (Or.inr (Or.inl q.1)), ⟨τ, by rw [q.2]; exact sp0⟩⟩)
  obtain ⟨q48e, p51⟩ := q48
  rw [q48e]
  refine tw_iload_n 4 dX5_use_14 rfl rfl ?_
  refine tw_iconst (v := 1) dX5_use_15 (by decide) ?_
  refine tw_ldc (v := 99999) dX5_use_16 w_470 ?_
  refine tw_bv (tw_callS (M := mX5_use) (pc := 18) okX5_needRange dX5_use_18 w_399 [.int gr, .int 1, .int 99999] [] rfl rfl ⟨by decide, by decide⟩ (Nat.le_of_ble_eq_true rfl) (c_X5_needRange d g τ h sp0.1 gr 1 99999) 17 102 (Nat.le_of_ble_eq_true rfl) (Nat.le_of_ble_eq_true rfl)) (fun h53 q52 => ?_) (fun E h1 q => Or.inr ⟨E, rfl, (Or.inr (Or.inl q.1)), ⟨τ, by rw [q.2]; exact sp0⟩⟩)
  obtain ⟨q52e, p55⟩ := q52
  rw [q52e]
  refine tw_aload 0 dX5_use_21 rfl ?_
  refine tw_iload_n 3 dX5_use_23 rfl rfl ?_
  obtain ⟨e56, f57, a_58, b_59, rfl⟩ := sp0.1 v_35 1 k39 (by decide)
  refine tw_bi (tw_callVN (M := mX5_use) (pc := 24) okX3_of dX5_use_24 w_189 rfl f57 [.int m] [] rfl rfl ⟨by decide, by decide⟩ (Nat.le_of_ble_eq_true rfl) (c_X3_of d g τ h sp0.1 v_35 k39 m) 17 102 (Nat.le_of_ble_eq_true rfl) (Nat.le_of_ble_eq_true rfl)) (fun r62 h61 q60 => ?_) (fun E h1 q => q.elim)
  rw [q60]
  refine tw_iload_n 4 dX5_use_27 rfl rfl ?_
  refine tw_icmp_ge 41 dX5_use_28 (by decide) (fun c63 => ?_) (fun c63 => ?_)
  · refine tw_aload 0 dX5_use_41 rfl ?_
    refine tw_iload_n 3 dX5_use_43 rfl rfl ?_
    refine tw_iload_n 4 dX5_use_44 rfl rfl ?_
    refine tw_ineg dX5_use_45 ?_
    refine tw_nmi (fun v64 ev64 => ?_)
    refine tw_bv (tw_callVN (M := mX5_use) (pc := 46) okX3_add dX5_use_46 w_534 rfl f57 [.int m, .int v64] [] rfl rfl ⟨by decide, by decide⟩ (Nat.le_of_ble_eq_true rfl) (c_X3_add d g τ h sp0.1 v_35 k39 m v64) 17 102 (Nat.le_of_ble_eq_true rfl) (Nat.le_of_ble_eq_true rfl)) (fun h66 q65 => ?_) (fun E h1 q => q.elim)
    have q65s := q65
    have sp68 := sp0.tr q65s
    refine tw_aload_n 1 dX5_use_49 rfl rfl ?_
    obtain ⟨e70, f71, td_72, ca_73, ha_74, da_75, c1_76, c2_77, c3_78, c4_79, rfl, k80, k81, k82, k83, k84, k85, k86, k87, k88, k89, k90, k91, k92⟩ := sp68.1 x 11 kx (by decide)
    refine tw_get (v := .ref c2_77) rfl in_9 9 dX5_use_50 w_149 rfl (by decide) f71 rfl ?_
    refine tw_iload_n 3 dX5_use_53 rfl rfl ?_
    refine tw_iload_n 4 dX5_use_54 rfl rfl ?_
    obtain ⟨e93, f94, a_95, b_96, rfl⟩ := sp68.1 c2_77 1 k84 (by decide)
    refine tw_bv (tw_callVN (M := mX5_use) (pc := 55) okX3_add dX5_use_55 w_534 rfl f94 [.int m, .int gr] [] rfl rfl ⟨by decide, by decide⟩ (Nat.le_of_ble_eq_true rfl) (c_X3_add d g τ h66 sp68.1 c2_77 k84 m gr) 17 102 (Nat.le_of_ble_eq_true rfl) (Nat.le_of_ble_eq_true rfl)) (fun h98 q97 => ?_) (fun E h1 q => q.elim)
    have q97s := q97
    have sp100 := sp68.tr q97s
    refine tw_aload 0 dX5_use_58 rfl ?_
    refine tw_iload_n 3 dX5_use_60 rfl rfl ?_
    obtain ⟨e102, f103, a_104, b_105, rfl⟩ := sp100.1 v_35 1 k39 (by decide)
    refine tw_bi (tw_callVN (M := mX5_use) (pc := 61) okX3_of dX5_use_61 w_189 rfl f103 [.int m] [] rfl rfl ⟨by decide, by decide⟩ (Nat.le_of_ble_eq_true rfl) (c_X3_of d g τ h98 sp100.1 v_35 k39 m) 17 102 (Nat.le_of_ble_eq_true rfl) (Nat.le_of_ble_eq_true rfl)) (fun r108 h107 q106 => ?_) (fun E h1 q => q.elim)
    rw [q106]
    exact tw_iret dX5_use_64 rfl (Or.inl ⟨_, rfl, sp100⟩)
  · exact tw_throwS (i := 6) (by decide +kernel) w_471 w_88 rfl at_ISE dX5_use_31 dX5_use_34 dX5_use_35 dX5_use_37 dX5_use_40 ⟨by decide, Nat.le_of_ble_eq_true rfl⟩ (Nat.le_of_ble_eq_true rfl) (Nat.le_of_ble_eq_true rfl) (Or.inr ⟨_, rfl, (Or.inr (Or.inr (rfl))), _, sp0⟩)

set_option maxHeartbeats 4000000 in
set_option maxRecDepth 100000 in
theorem c_X5_change (d : tw_D) (g : tw_G) (τ : tw_K) (h : tw_H) (hw : tw_wt d g τ h) (x : Nat) (kx : τ x = 11) (a : Int32) (m : Int32) (gr : Int32) : tw_Ct d mX5_change 20 120 [.ref x, .int a, .int m, .int gr] h (tw_qi (fun r h1 => tw_sp d τ h g τ h1) (fun E h1 => (E = tw_IOE ∨ E = tw_IAE ∨ E = tw_ISE) ∧ ∃ τ1, tw_sp d τ h g τ1 h1)) := by
  refine tw_of (by decide +kernel) (Nat.le_of_ble_eq_true rfl) ?_
  show tw_W d mX5_change _ 0 [(0, .ref x), (1, .int a), (2, .int m), (3, .int gr)] [] h 20 120
  have sp0 := tw_sp.rf hw
  refine tw_aload_n 0 dX5_change_0 rfl rfl ?_
  refine tw_iload_n 1 dX5_change_1 rfl rfl ?_
  obtain ⟨e1, f2, td_3, ca_4, ha_5, da_6, c1_7, c2_8, c3_9, c4_10, rfl, k11, k12, k13, k14, k15, k16, k17, k18, k19, k20, k21, k22, k23⟩ := sp0.1 x 11 kx (by decide)
  refine tw_br (tw_callV (M := mX5_change) (pc := 2) okX5_houseAt dX5_change_2 w_664 rfl f2 [.int a] [] rfl rfl ⟨by decide, by decide⟩ (Nat.le_of_ble_eq_true rfl) (c_X5_houseAt d g τ h sp0.1 x kx a) 19 114 (Nat.le_of_ble_eq_true rfl) (Nat.le_of_ble_eq_true rfl)) (fun r26 h25 q24 => ?_) (fun E h1 q => Or.inr ⟨E, rfl, (Or.inl q.1), ⟨τ, by rw [q.2]; exact sp0⟩⟩)
  obtain ⟨q24e, p27⟩ := q24
  rw [q24e]
  refine tw_astore [(4, .ref r26), (0, .ref x), (1, .int a), (2, .int m), (3, .int gr)] dX5_change_5 (by decide) rfl ?_
  refine tw_iload_n 3 dX5_change_7 rfl rfl ?_
  refine tw_bv (tw_callS (M := mX5_change) (pc := 8) okX5_needMetal dX5_change_8 w_573 [.int m] [] rfl rfl ⟨by decide, by decide⟩ (Nat.le_of_ble_eq_true rfl) (c_X5_needMetal d g τ h sp0.1 m) 18 108 (Nat.le_of_ble_eq_true rfl) (Nat.le_of_ble_eq_true rfl)) (fun h29 q28 => ?_) (fun E h1 q => Or.inr ⟨E, rfl, (Or.inr (Or.inl q.1)), ⟨τ, by rw [q.2]; exact sp0⟩⟩)
  obtain ⟨q28e, p31⟩ := q28
  rw [q28e]
  refine tw_iload_n 4 dX5_change_11 rfl rfl ?_
  refine tw_iconst (v := 1) dX5_change_12 (by decide) ?_
  refine tw_ldc (v := 99999) dX5_change_13 w_470 ?_
  refine tw_bv (tw_callS (M := mX5_change) (pc := 15) okX5_needRange dX5_change_15 w_399 [.int gr, .int 1, .int 99999] [] rfl rfl ⟨by decide, by decide⟩ (Nat.le_of_ble_eq_true rfl) (c_X5_needRange d g τ h sp0.1 gr 1 99999) 17 102 (Nat.le_of_ble_eq_true rfl) (Nat.le_of_ble_eq_true rfl)) (fun h33 q32 => ?_) (fun E h1 q => Or.inr ⟨E, rfl, (Or.inr (Or.inl q.1)), ⟨τ, by rw [q.2]; exact sp0⟩⟩)
  obtain ⟨q32e, p35⟩ := q32
  rw [q32e]
  refine tw_aload 0 dX5_change_18 rfl ?_
  obtain ⟨e36, f37, n_38, ar_39, p_40, pl_41, go_42, rfl, k43, k44, k45⟩ := sp0.1 r26 3 p27 (by decide)
  cases pl_41 with
  | none =>
    refine tw_getN (v := .null) rfl in_6 2 dX5_change_20 w_641 rfl (by decide) f37 rfl ?_
    refine tw_astoreN [(5, .null), (4, .ref r26), (0, .ref x), (1, .int a), (2, .int m), (3, .int gr)] dX5_change_23 (by decide) rfl ?_
    refine tw_aloadN 0 dX5_change_25 rfl ?_
    refine tw_ifnullN 43 dX5_change_27 (by decide) ?_
    exact tw_throwS (i := 9) (by decide +kernel) w_471 w_88 rfl at_ISE dX5_change_43 dX5_change_46 dX5_change_47 dX5_change_49 dX5_change_52 ⟨by decide, Nat.le_of_ble_eq_true rfl⟩ (Nat.le_of_ble_eq_true rfl) (Nat.le_of_ble_eq_true rfl) (Or.inr ⟨_, rfl, (Or.inr (Or.inr (rfl))), _, sp0⟩)
  | some q46 =>
    refine tw_getN (v := .ref q46) rfl in_6 2 dX5_change_20 w_641 rfl (by decide) f37 rfl ?_
    refine tw_astore [(5, .ref q46), (4, .ref r26), (0, .ref x), (1, .int a), (2, .int m), (3, .int gr)] dX5_change_23 (by decide) rfl ?_
    refine tw_aload 0 dX5_change_25 rfl ?_
    refine tw_ifnull dX5_change_27 ?_
    refine tw_aload 1 dX5_change_30 rfl ?_
    refine tw_getN (v := .ref p_40) rfl in_6 1 dX5_change_32 w_639 rfl (by decide) f37 rfl ?_
    refine tw_iload_n 4 dX5_change_35 rfl rfl ?_
    obtain ⟨e47, f48, a_49, b_50, rfl⟩ := sp0.1 p_40 1 k43 (by decide)
    refine tw_bi (tw_callVN (M := mX5_change) (pc := 36) okX3_of dX5_change_36 w_189 rfl f48 [.int m] [] rfl rfl ⟨by decide, by decide⟩ (Nat.le_of_ble_eq_true rfl) (c_X3_of d g τ h sp0.1 p_40 k43 m) 17 102 (Nat.le_of_ble_eq_true rfl) (Nat.le_of_ble_eq_true rfl)) (fun r53 h52 q51 => ?_) (fun E h1 q => q.elim)
    rw [q51]
    refine tw_iload_n 5 dX5_change_39 rfl rfl ?_
    refine tw_icmp_ge 53 dX5_change_40 (by decide) (fun c54 => ?_) (fun c54 => ?_)
    · refine tw_aload 0 dX5_change_53 rfl ?_
      refine tw_iload_n 4 dX5_change_55 rfl rfl ?_
      refine tw_iload_n 5 dX5_change_56 rfl rfl ?_
      obtain ⟨e55, f56, n_57, r_58, c_59, go_60, so_61, v_62, rd_63, rf_64, t_65, rfl, k66, k67, k68, k69, k70, k71, k72, k73, k74⟩ := sp0.1 q46 2 (k44 _ rfl) (by decide)
      refine tw_bi (tw_callVN (M := mX5_change) (pc := 57) okX0_minted dX5_change_57 w_299 rfl f56 [.int m, .int gr] [] rfl rfl ⟨by decide, by decide⟩ (Nat.le_of_ble_eq_true rfl) (c_X0_minted d g τ h sp0.1 q46 (k44 _ rfl) m gr) 17 102 (Nat.le_of_ble_eq_true rfl) (Nat.le_of_ble_eq_true rfl)) (fun r77 h76 q75 => ?_) (fun E h1 q => q.elim)
      rw [q75]
      refine tw_istore [(6, .int r77), (5, .ref q46), (4, .ref r26), (0, .ref x), (1, .int a), (2, .int m), (3, .int gr)] dX5_change_60 (by decide) rfl ?_
      refine tw_iload_n 5 dX5_change_62 rfl rfl ?_
      refine tw_bi (tw_callS (M := mX5_change) (pc := 63) okX5_otherMetal dX5_change_63 w_318 [.int m] [] rfl rfl ⟨by decide, by decide⟩ (Nat.le_of_ble_eq_true rfl) (c_X5_otherMetal d g τ h sp0.1 m) 17 102 (Nat.le_of_ble_eq_true rfl) (Nat.le_of_ble_eq_true rfl)) (fun r80 h79 q78 => ?_) (fun E h1 q => q.elim)
      obtain ⟨q78e, p81⟩ := q78
      rw [q78e]
      refine tw_istore [(7, .int r80), (6, .int r77), (5, .ref q46), (4, .ref r26), (0, .ref x), (1, .int a), (2, .int m), (3, .int gr)] dX5_change_66 (by decide) rfl ?_
      refine tw_aload 2 dX5_change_68 rfl ?_
      refine tw_iload_n 6 dX5_change_70 rfl rfl ?_
      refine tw_bi (tw_callVN (M := mX5_change) (pc := 71) okX0_isOpenFor dX5_change_71 w_577 rfl f56 [.int m] [] rfl rfl ⟨by decide, by decide⟩ (Nat.le_of_ble_eq_true rfl) (c_X0_isOpenFor d g τ h sp0.1 q46 (k44 _ rfl) m) 17 102 (Nat.le_of_ble_eq_true rfl) (Nat.le_of_ble_eq_true rfl)) (fun r84 h83 q82 => ?_) (fun E h1 q => q.elim)
      obtain ⟨q82e, p85⟩ := q82
      rw [q82e]
      refine tw_if_eq 92 dX5_change_74 (by decide) (fun c86 => ?_) (fun c86 => ?_)
      · exact tw_throwS (i := 10) (by decide +kernel) w_471 w_88 rfl at_ISE dX5_change_92 dX5_change_95 dX5_change_96 dX5_change_98 dX5_change_101 ⟨by decide, Nat.le_of_ble_eq_true rfl⟩ (Nat.le_of_ble_eq_true rfl) (Nat.le_of_ble_eq_true rfl) (Or.inr ⟨_, rfl, (Or.inr (Or.inr (rfl))), _, sp0⟩)
      · refine tw_aload 2 dX5_change_77 rfl ?_
        refine tw_getN (v := .ref v_62) rfl in_4 3 dX5_change_79 w_508 rfl (by decide) f56 rfl ?_
        refine tw_iload 0 dX5_change_82 rfl ?_
        obtain ⟨e87, f88, a_89, b_90, rfl⟩ := sp0.1 v_62 1 k66 (by decide)
        refine tw_bi (tw_callVN (M := mX5_change) (pc := 84) okX3_of dX5_change_84 w_189 rfl f88 [.int r80] [] rfl rfl ⟨by decide, by decide⟩ (Nat.le_of_ble_eq_true rfl) (c_X3_of d g τ h sp0.1 v_62 k66 r80) 17 102 (Nat.le_of_ble_eq_true rfl) (Nat.le_of_ble_eq_true rfl)) (fun r93 h92 q91 => ?_) (fun E h1 q => q.elim)
        rw [q91]
        refine tw_iload 1 dX5_change_87 rfl ?_
        refine tw_icmp_ge 102 dX5_change_89 (by decide) (fun c94 => ?_) (fun c94 => ?_)
        · refine tw_aload 3 dX5_change_102 rfl ?_
          refine tw_getN (v := .ref p_40) rfl in_6 1 dX5_change_104 w_639 rfl (by decide) f37 rfl ?_
          refine tw_iload_n 6 dX5_change_107 rfl rfl ?_
          refine tw_iload_n 7 dX5_change_108 rfl rfl ?_
          refine tw_ineg dX5_change_109 ?_
          refine tw_nmi (fun v95 ev95 => ?_)
          refine tw_bv (tw_callVN (M := mX5_change) (pc := 110) okX3_add dX5_change_110 w_534 rfl f48 [.int m, .int v95] [] rfl rfl ⟨by decide, by decide⟩ (Nat.le_of_ble_eq_true rfl) (c_X3_add d g τ h sp0.1 p_40 k43 m v95) 17 102 (Nat.le_of_ble_eq_true rfl) (Nat.le_of_ble_eq_true rfl)) (fun h97 q96 => ?_) (fun E h1 q => q.elim)
          have q96s := q96
          have sp99 := sp0.tr q96s
          refine tw_aload 2 dX5_change_113 rfl ?_
          obtain ⟨e101, f102, n_103, r_104, c_105, go_106, so_107, v_108, rd_109, rf_110, t_111, rfl, k112, k113, k114, k115, k116, k117, k118, k119, k120⟩ := sp99.1 q46 2 (k44 _ rfl) (by decide)
          refine tw_getN (v := .ref v_108) rfl in_4 3 dX5_change_115 w_508 rfl (by decide) f102 rfl ?_
          refine tw_iload_n 6 dX5_change_118 rfl rfl ?_
          refine tw_iload_n 7 dX5_change_119 rfl rfl ?_
          obtain ⟨e121, f122, a_123, b_124, rfl⟩ := sp99.1 v_108 1 k112 (by decide)
          refine tw_bv (tw_callVN (M := mX5_change) (pc := 120) okX3_add dX5_change_120 w_534 rfl f122 [.int m, .int gr] [] rfl rfl ⟨by decide, by decide⟩ (Nat.le_of_ble_eq_true rfl) (c_X3_add d g τ h97 sp99.1 v_108 k112 m gr) 17 102 (Nat.le_of_ble_eq_true rfl) (Nat.le_of_ble_eq_true rfl)) (fun h126 q125 => ?_) (fun E h1 q => q.elim)
          have q125s := q125
          have sp128 := sp99.tr q125s
          refine tw_aload 2 dX5_change_123 rfl ?_
          obtain ⟨e130, f131, n_132, r_133, c_134, go_135, so_136, v_137, rd_138, rf_139, t_140, rfl, k141, k142, k143, k144, k145, k146, k147, k148, k149⟩ := sp128.1 q46 2 (k44 _ rfl) (by decide)
          refine tw_getN (v := .ref v_137) rfl in_4 3 dX5_change_125 w_508 rfl (by decide) f131 rfl ?_
          refine tw_iload 0 dX5_change_128 rfl ?_
          refine tw_iload 1 dX5_change_130 rfl ?_
          refine tw_ineg dX5_change_132 ?_
          refine tw_nmi (fun v150 ev150 => ?_)
          obtain ⟨e151, f152, a_153, b_154, rfl⟩ := sp128.1 v_137 1 k141 (by decide)
          refine tw_bv (tw_callVN (M := mX5_change) (pc := 133) okX3_add dX5_change_133 w_534 rfl f152 [.int r80, .int v150] [] rfl rfl ⟨by decide, by decide⟩ (Nat.le_of_ble_eq_true rfl) (c_X3_add d g τ h126 sp128.1 v_137 k141 r80 v150) 17 102 (Nat.le_of_ble_eq_true rfl) (Nat.le_of_ble_eq_true rfl)) (fun h156 q155 => ?_) (fun E h1 q => q.elim)
          have q155s := q155
          have sp158 := sp128.tr q155s
          refine tw_aload 3 dX5_change_136 rfl ?_
          obtain ⟨e160, f161, n_162, ar_163, p_164, pl_165, go_166, rfl, k167, k168, k169⟩ := sp158.1 r26 3 p27 (by decide)
          refine tw_getN (v := .ref p_164) rfl in_6 1 dX5_change_138 w_639 rfl (by decide) f161 rfl ?_
          refine tw_iload 0 dX5_change_141 rfl ?_
          refine tw_iload 1 dX5_change_143 rfl ?_
          obtain ⟨e170, f171, a_172, b_173, rfl⟩ := sp158.1 p_164 1 k167 (by decide)
          refine tw_bv (tw_callVN (M := mX5_change) (pc := 145) okX3_add dX5_change_145 w_534 rfl f171 [.int r80, .int r77] [] rfl rfl ⟨by decide, by decide⟩ (Nat.le_of_ble_eq_true rfl) (c_X3_add d g τ h156 sp158.1 p_164 k167 r80 r77) 17 102 (Nat.le_of_ble_eq_true rfl) (Nat.le_of_ble_eq_true rfl)) (fun h175 q174 => ?_) (fun E h1 q => q.elim)
          have q174s := q174
          have sp177 := sp158.tr q174s
          refine tw_iload 1 dX5_change_148 rfl ?_
          exact tw_iret dX5_change_150 rfl (Or.inl ⟨_, rfl, sp177⟩)
        · exact tw_throwS (i := 10) (by decide +kernel) w_471 w_88 rfl at_ISE dX5_change_92 dX5_change_95 dX5_change_96 dX5_change_98 dX5_change_101 ⟨by decide, Nat.le_of_ble_eq_true rfl⟩ (Nat.le_of_ble_eq_true rfl) (Nat.le_of_ble_eq_true rfl) (Or.inr ⟨_, rfl, (Or.inr (Or.inr (rfl))), _, sp0⟩)
    · exact tw_throwS (i := 9) (by decide +kernel) w_471 w_88 rfl at_ISE dX5_change_43 dX5_change_46 dX5_change_47 dX5_change_49 dX5_change_52 ⟨by decide, Nat.le_of_ble_eq_true rfl⟩ (Nat.le_of_ble_eq_true rfl) (Nat.le_of_ble_eq_true rfl) (Or.inr ⟨_, rfl, (Or.inr (Or.inr (rfl))), _, sp0⟩)

set_option maxHeartbeats 4000000 in
set_option maxRecDepth 100000 in
theorem c_X5_payFreight (d : tw_D) (g : tw_G) (τ : tw_K) (h : tw_H) (hw : tw_wt d g τ h) (x : Nat) (kx : τ x = 11) (p : Nat) (kp : τ p = 1) (m : Int32) (fr : Int32) : tw_Ct d mX5_payFreight 0 0 [.ref x, .ref p, .int m, .int fr] h (tw_qv (fun h1 => tw_sp d τ h g τ h1) tw_nx) := by
  refine tw_of (by decide +kernel) (Nat.le_of_ble_eq_true rfl) ?_
  show tw_W d mX5_payFreight _ 0 [(0, .ref x), (1, .ref p), (2, .int m), (3, .int fr)] [] h 0 0
  have sp0 := tw_sp.rf hw
  refine tw_aload_n 1 dX5_payFreight_0 rfl rfl ?_
  refine tw_iload_n 2 dX5_payFreight_1 rfl rfl ?_
  obtain ⟨e1, f2, a_3, b_4, rfl⟩ := sp0.1 p 1 kp (by decide)
  refine tw_bi (tw_callVN (M := mX5_payFreight) (pc := 2) okX3_of dX5_payFreight_2 w_189 rfl f2 [.int m] [] rfl rfl ⟨by decide, by decide⟩ (Nat.le_of_ble_eq_true rfl) (c_X3_of d g τ h sp0.1 p kp m) 0 0 (Nat.le_of_ble_eq_true rfl) (Nat.le_of_ble_eq_true rfl)) (fun r7 h6 q5 => ?_) (fun E h1 q => q.elim)
  rw [q5]
  refine tw_iload_n 3 dX5_payFreight_5 rfl rfl ?_
  refine tw_bi (tw_callS (M := mX5_payFreight) (pc := 6) okX5_thousandthsRoundedUp dX5_payFreight_6 w_317 [.int r7, .int fr] [] rfl rfl ⟨by decide, by decide⟩ (Nat.le_of_ble_eq_true rfl) (c_X5_thousandthsRoundedUp d g τ h sp0.1 r7 fr) 0 0 (Nat.le_of_ble_eq_true rfl) (Nat.le_of_ble_eq_true rfl)) (fun r10 h9 q8 => ?_) (fun E h1 q => q.elim)
  rw [q8]
  refine tw_istore [(4, .int r10), (0, .ref x), (1, .ref p), (2, .int m), (3, .int fr)] dX5_payFreight_9 (by decide) rfl ?_
  refine tw_aload_n 2 dX5_payFreight_11 rfl rfl ?_
  refine tw_iload_n 3 dX5_payFreight_12 rfl rfl ?_
  refine tw_iload 0 dX5_payFreight_13 rfl ?_
  refine tw_ineg dX5_payFreight_15 ?_
  refine tw_nmi (fun v11 ev11 => ?_)
  refine tw_bv (tw_callVN (M := mX5_payFreight) (pc := 16) okX3_add dX5_payFreight_16 w_534 rfl f2 [.int m, .int v11] [] rfl rfl ⟨by decide, by decide⟩ (Nat.le_of_ble_eq_true rfl) (c_X3_add d g τ h sp0.1 p kp m v11) 0 0 (Nat.le_of_ble_eq_true rfl) (Nat.le_of_ble_eq_true rfl)) (fun h13 q12 => ?_) (fun E h1 q => q.elim)
  have q12s := q12
  have sp15 := sp0.tr q12s
  refine tw_aload_n 1 dX5_payFreight_19 rfl rfl ?_
  obtain ⟨e17, f18, td_19, ca_20, ha_21, da_22, c1_23, c2_24, c3_25, c4_26, rfl, k27, k28, k29, k30, k31, k32, k33, k34, k35, k36, k37, k38, k39⟩ := sp15.1 x 11 kx (by decide)
  refine tw_get (v := .ref c1_23) rfl in_9 8 dX5_payFreight_20 w_148 rfl (by decide) f18 rfl ?_
  refine tw_iload_n 3 dX5_payFreight_23 rfl rfl ?_
  refine tw_iload 0 dX5_payFreight_24 rfl ?_
  obtain ⟨e40, f41, a_42, b_43, rfl⟩ := sp15.1 c1_23 1 k30 (by decide)
  refine tw_bv (tw_callVN (M := mX5_payFreight) (pc := 26) okX3_add dX5_payFreight_26 w_534 rfl f41 [.int m, .int r10] [] rfl rfl ⟨by decide, by decide⟩ (Nat.le_of_ble_eq_true rfl) (c_X3_add d g τ h13 sp15.1 c1_23 k30 m r10) 0 0 (Nat.le_of_ble_eq_true rfl) (Nat.le_of_ble_eq_true rfl)) (fun h45 q44 => ?_) (fun E h1 q => q.elim)
  have q44s := q44
  have sp47 := sp15.tr q44s
  exact tw_vret dX5_payFreight_29 rfl (Or.inl ⟨rfl, sp47⟩)

set_option maxHeartbeats 4000000 in
set_option maxRecDepth 100000 in
theorem c_X5_send (d : tw_D) (g : tw_G) (τ : tw_K) (h : tw_H) (hw : tw_wt d g τ h) (x : Nat) (kx : τ x = 11) (a : Int32) (b : Int32) : tw_Ct d mX5_send 20 120 [.ref x, .int a, .int b] h (tw_qi (fun r h1 => tw_sp d τ h g τ h1) (fun E h1 => (E = tw_IOE ∨ E = tw_ISE) ∧ ∃ τ1, tw_sp d τ h g τ1 h1)) := by
  refine tw_of (by decide +kernel) (Nat.le_of_ble_eq_true rfl) ?_
  show tw_W d mX5_send _ 0 [(0, .ref x), (1, .int a), (2, .int b)] [] h 20 120
  have sp0 := tw_sp.rf hw
  refine tw_aload_n 0 dX5_send_0 rfl rfl ?_
  refine tw_iload_n 1 dX5_send_1 rfl rfl ?_
  obtain ⟨e1, f2, td_3, ca_4, ha_5, da_6, c1_7, c2_8, c3_9, c4_10, rfl, k11, k12, k13, k14, k15, k16, k17, k18, k19, k20, k21, k22, k23⟩ := sp0.1 x 11 kx (by decide)
  refine tw_br (tw_callV (M := mX5_send) (pc := 2) okX5_houseAt dX5_send_2 w_664 rfl f2 [.int a] [] rfl rfl ⟨by decide, by decide⟩ (Nat.le_of_ble_eq_true rfl) (c_X5_houseAt d g τ h sp0.1 x kx a) 19 114 (Nat.le_of_ble_eq_true rfl) (Nat.le_of_ble_eq_true rfl)) (fun r26 h25 q24 => ?_) (fun E h1 q => Or.inr ⟨E, rfl, (Or.inl q.1), ⟨τ, by rw [q.2]; exact sp0⟩⟩)
  obtain ⟨q24e, p27⟩ := q24
  rw [q24e]
  refine tw_astore_n [(3, .ref r26), (0, .ref x), (1, .int a), (2, .int b)] dX5_send_5 rfl (by decide) rfl ?_
  refine tw_aload_n 1 dX5_send_6 rfl rfl ?_
  refine tw_iload_n 3 dX5_send_7 rfl rfl ?_
  refine tw_br (tw_callV (M := mX5_send) (pc := 8) okX5_countryAt dX5_send_8 w_546 rfl f2 [.int b] [] rfl rfl ⟨by decide, by decide⟩ (Nat.le_of_ble_eq_true rfl) (c_X5_countryAt d g τ h sp0.1 x kx b) 18 108 (Nat.le_of_ble_eq_true rfl) (Nat.le_of_ble_eq_true rfl)) (fun r30 h29 q28 => ?_) (fun E h1 q => Or.inr ⟨E, rfl, (Or.inl q.1), ⟨τ, by rw [q.2]; exact sp0⟩⟩)
  obtain ⟨q28e, p31⟩ := q28
  rw [q28e]
  refine tw_astore [(4, .ref r30), (3, .ref r26), (0, .ref x), (1, .int a), (2, .int b)] dX5_send_11 (by decide) rfl ?_
  refine tw_aload_n 1 dX5_send_13 rfl rfl ?_
  obtain ⟨e32, f33, n_34, ar_35, p_36, pl_37, go_38, rfl, k39, k40, k41⟩ := sp0.1 r26 3 p27 (by decide)
  cases pl_37 with
  | none =>
    refine tw_getN (v := .null) rfl in_6 2 dX5_send_14 w_641 rfl (by decide) f33 rfl ?_
    refine tw_astoreN [(5, .null), (4, .ref r30), (3, .ref r26), (0, .ref x), (1, .int a), (2, .int b)] dX5_send_17 (by decide) rfl ?_
    refine tw_aloadN 0 dX5_send_19 rfl ?_
    refine tw_ifnullN 31 dX5_send_21 (by decide) ?_
    exact tw_throwS (i := 11) (by decide +kernel) w_471 w_88 rfl at_ISE dX5_send_31 dX5_send_34 dX5_send_35 dX5_send_37 dX5_send_40 ⟨by decide, Nat.le_of_ble_eq_true rfl⟩ (Nat.le_of_ble_eq_true rfl) (Nat.le_of_ble_eq_true rfl) (Or.inr ⟨_, rfl, (Or.inr (rfl)), _, sp0⟩)
  | some q42 =>
    refine tw_getN (v := .ref q42) rfl in_6 2 dX5_send_14 w_641 rfl (by decide) f33 rfl ?_
    refine tw_astore [(5, .ref q42), (4, .ref r30), (3, .ref r26), (0, .ref x), (1, .int a), (2, .int b)] dX5_send_17 (by decide) rfl ?_
    refine tw_aload 0 dX5_send_19 rfl ?_
    refine tw_ifnull dX5_send_21 ?_
    refine tw_aload 0 dX5_send_24 rfl ?_
    refine tw_aload 1 dX5_send_26 rfl ?_
    refine tw_acmp_ne (rx := (some q42)) (ry := (some r30)) 41 dX5_send_28 (by decide) (fun c43 => ?_) (fun c43 => ?_)
    · refine tw_aload_n 3 dX5_send_41 rfl rfl ?_
      refine tw_aload_n 2 dX5_send_42 rfl rfl ?_
      refine tw_getN (v := .ref p_36) rfl in_6 1 dX5_send_43 w_639 rfl (by decide) f33 rfl ?_
      refine tw_iconst (v := 0) dX5_send_46 (by decide) ?_
      refine tw_aload 0 dX5_send_47 rfl ?_
      refine tw_aload 1 dX5_send_49 rfl ?_
      obtain ⟨e44, f45, n_46, r_47, c_48, go_49, so_50, v_51, rd_52, rf_53, t_54, rfl, k55, k56, k57, k58, k59, k60, k61, k62, k63⟩ := sp0.1 r30 2 p31 (by decide)
      refine tw_getN (v := .int n_46) rfl in_4 0 dX5_send_51 w_502 rfl (by decide) f45 rfl ?_
      obtain ⟨e64, f65, n_66, r_67, c_68, go_69, so_70, v_71, rd_72, rf_73, t_74, rfl, k75, k76, k77, k78, k79, k80, k81, k82, k83⟩ := sp0.1 q42 2 (k40 _ rfl) (by decide)
      refine tw_bi (tw_callVN (M := mX5_send) (pc := 54) okX0_freightTo dX5_send_54 w_231 rfl f65 [.int n_46] [.int 0, .ref p_36, .ref x] rfl rfl ⟨by decide, by decide⟩ (Nat.le_of_ble_eq_true rfl) (c_X0_freightTo d g τ h sp0.1 q42 (k40 _ rfl) n_46) 18 108 (Nat.le_of_ble_eq_true rfl) (Nat.le_of_ble_eq_true rfl)) (fun r86 h85 q84 => ?_) (fun E h1 q => q.elim)
      rw [q84]
      refine tw_bv (tw_callV (M := mX5_send) (pc := 57) okX5_payFreight dX5_send_57 w_679 rfl f2 [.ref p_36, .int 0, .int r86] [] rfl rfl ⟨by decide, by decide⟩ (Nat.le_of_ble_eq_true rfl) (c_X5_payFreight d g τ h sp0.1 x kx p_36 k39 0 r86) 18 108 (Nat.le_of_ble_eq_true rfl) (Nat.le_of_ble_eq_true rfl)) (fun h88 q87 => ?_) (fun E h1 q => q.elim)
      have q87s := q87
      have sp90 := sp0.tr q87s
      refine tw_aload_n 3 dX5_send_60 rfl rfl ?_
      refine tw_aload_n 2 dX5_send_61 rfl rfl ?_
      obtain ⟨e92, f93, n_94, ar_95, p_96, pl_97, go_98, rfl, k99, k100, k101⟩ := sp90.1 r26 3 p27 (by decide)
      refine tw_getN (v := .ref p_96) rfl in_6 1 dX5_send_62 w_639 rfl (by decide) f93 rfl ?_
      refine tw_iconst (v := 1) dX5_send_65 (by decide) ?_
      refine tw_aload 0 dX5_send_66 rfl ?_
      refine tw_aload 1 dX5_send_68 rfl ?_
      obtain ⟨e102, f103, n_104, r_105, c_106, go_107, so_108, v_109, rd_110, rf_111, t_112, rfl, k113, k114, k115, k116, k117, k118, k119, k120, k121⟩ := sp90.1 r30 2 p31 (by decide)
      refine tw_getN (v := .int n_104) rfl in_4 0 dX5_send_70 w_502 rfl (by decide) f103 rfl ?_
      obtain ⟨e122, f123, n_124, r_125, c_126, go_127, so_128, v_129, rd_130, rf_131, t_132, rfl, k133, k134, k135, k136, k137, k138, k139, k140, k141⟩ := sp90.1 q42 2 (k40 _ rfl) (by decide)
      refine tw_bi (tw_callVN (M := mX5_send) (pc := 73) okX0_freightTo dX5_send_73 w_231 rfl f123 [.int n_104] [.int 1, .ref p_96, .ref x] rfl rfl ⟨by decide, by decide⟩ (Nat.le_of_ble_eq_true rfl) (c_X0_freightTo d g τ h88 sp90.1 q42 (k40 _ rfl) n_104) 18 108 (Nat.le_of_ble_eq_true rfl) (Nat.le_of_ble_eq_true rfl)) (fun r144 h143 q142 => ?_) (fun E h1 q => q.elim)
      rw [q142]
      obtain ⟨e145, f146, td_147, ca_148, ha_149, da_150, c1_151, c2_152, c3_153, c4_154, rfl, k155, k156, k157, k158, k159, k160, k161, k162, k163, k164, k165, k166, k167⟩ := sp90.1 x 11 kx (by decide)
      refine tw_bv (tw_callV (M := mX5_send) (pc := 76) okX5_payFreight dX5_send_76 w_679 rfl f146 [.ref p_96, .int 1, .int r144] [] rfl rfl ⟨by decide, by decide⟩ (Nat.le_of_ble_eq_true rfl) (c_X5_payFreight d g τ h88 sp90.1 x kx p_96 k99 1 r144) 18 108 (Nat.le_of_ble_eq_true rfl) (Nat.le_of_ble_eq_true rfl)) (fun h169 q168 => ?_) (fun E h1 q => q.elim)
      have q168s := q168
      have sp171 := sp90.tr q168s
      refine tw_aload_n 2 dX5_send_79 rfl rfl ?_
      refine tw_aload 1 dX5_send_80 rfl ?_
      refine tw_aload_n 3 dX5_send_82 rfl rfl ?_
      obtain ⟨e173, f174, td_175, ca_176, ha_177, da_178, c1_179, c2_180, c3_181, c4_182, rfl, k183, k184, k185, k186, k187, k188, k189, k190, k191, k192, k193, k194, k195⟩ := sp171.1 x 11 kx (by decide)
      refine tw_get (v := .int td_175) rfl in_9 0 dX5_send_83 w_140 rfl (by decide) f174 rfl ?_
      refine tw_aload 0 dX5_send_86 rfl ?_
      refine tw_aload 1 dX5_send_88 rfl ?_
      obtain ⟨e196, f197, n_198, r_199, c_200, go_201, so_202, v_203, rd_204, rf_205, t_206, rfl, k207, k208, k209, k210, k211, k212, k213, k214, k215⟩ := sp171.1 r30 2 p31 (by decide)
      refine tw_getN (v := .int n_198) rfl in_4 0 dX5_send_90 w_502 rfl (by decide) f197 rfl ?_
      obtain ⟨e216, f217, n_218, r_219, c_220, go_221, so_222, v_223, rd_224, rf_225, t_226, rfl, k227, k228, k229, k230, k231, k232, k233, k234, k235⟩ := sp171.1 q42 2 (k40 _ rfl) (by decide)
      refine tw_bi (tw_callVN (M := mX5_send) (pc := 93) okX0_daysTo dX5_send_93 w_226 rfl f217 [.int n_198] [.int td_175, .ref r30, .ref r26] rfl rfl ⟨by decide, by decide⟩ (Nat.le_of_ble_eq_true rfl) (c_X0_daysTo d g τ h169 sp171.1 q42 (k40 _ rfl) n_198) 18 108 (Nat.le_of_ble_eq_true rfl) (Nat.le_of_ble_eq_true rfl)) (fun r238 h237 q236 => ?_) (fun E h1 q => q.elim)
      rw [q236]
      refine tw_iadd dX5_send_96 ?_
      refine tw_nmi (fun v239 ev239 => ?_)
      obtain ⟨e240, f241, n_242, ar_243, p_244, pl_245, go_246, rfl, k247, k248, k249⟩ := sp171.1 r26 3 p27 (by decide)
      refine tw_bv (tw_callVN (M := mX5_send) (pc := 97) okX2_leaveFor dX5_send_97 w_683 rfl f241 [.ref r30, .int v239] [] rfl rfl ⟨by decide, by decide⟩ (Nat.le_of_ble_eq_true rfl) (c_X2_leaveFor d g τ h169 sp171.1 r26 p27 r30 p31 v239) 18 108 (Nat.le_of_ble_eq_true rfl) (Nat.le_of_ble_eq_true rfl)) (fun h251 q250 => ?_) (fun E h1 q => q.elim)
      have q250s := q250
      have sp253 := sp171.tr q250s
      refine tw_aload_n 2 dX5_send_100 rfl rfl ?_
      obtain ⟨e255, f256, n_257, ar_258, p_259, pl_260, go_261, rfl, k262, k263, k264⟩ := sp253.1 r26 3 p27 (by decide)
      refine tw_getN (v := .int ar_258) rfl in_6 4 dX5_send_101 w_645 rfl (by decide) f256 rfl ?_
      exact tw_iret dX5_send_104 rfl (Or.inl ⟨_, rfl, sp253⟩)
    · exact tw_throwS (i := 11) (by decide +kernel) w_471 w_88 rfl at_ISE dX5_send_31 dX5_send_34 dX5_send_35 dX5_send_37 dX5_send_40 ⟨by decide, Nat.le_of_ble_eq_true rfl⟩ (Nat.le_of_ble_eq_true rfl) (Nat.le_of_ble_eq_true rfl) (Or.inr ⟨_, rfl, (Or.inr (rfl)), _, sp0⟩)

set_option maxHeartbeats 4000000 in
set_option maxRecDepth 100000 in
theorem c_X5_wearVaults (d : tw_D) (g : tw_G) (τ : tw_K) (h : tw_H) (hw : tw_wt d g τ h) (x : Nat) (kx : τ x = 11) : tw_Ct d mX5_wearVaults 0 0 [.ref x] h (tw_qv (fun h1 => ∃ τ1, tw_sp d τ h g τ1 h1) tw_nx) := by
  refine tw_of (by decide +kernel) (Nat.le_of_ble_eq_true rfl) ?_
  show tw_W d mX5_wearVaults _ 0 [(0, .ref x)] [] h 0 0
  have sp0 := tw_sp.rf hw
  refine tw_aload_n 0 dX5_wearVaults_0 rfl rfl ?_
  obtain ⟨e1, f2, td_3, ca_4, ha_5, da_6, c1_7, c2_8, c3_9, c4_10, rfl, k11, k12, k13, k14, k15, k16, k17, k18, k19, k20, k21, k22, k23⟩ := sp0.1 x 11 kx (by decide)
  refine tw_get (v := .ref ca_4) rfl in_9 2 dX5_wearVaults_1 w_142 rfl (by decide) f2 rfl ?_
  refine tw_astore_n [(1, .ref ca_4), (0, .ref x)] dX5_wearVaults_4 rfl (by decide) rfl ?_
  refine tw_aload_n 0 dX5_wearVaults_5 rfl rfl ?_
  obtain ⟨e24, f25, F26, rfl, k27, pn28, pb29, px30, pf31⟩ := sp0.1 ca_4 8 k11 (by decide)
  refine tw_alen (v := nI 4) 4 rfl dX5_wearVaults_6 f25 rfl ?_
  refine tw_istore_n [(2, .int (nI 4)), (1, .ref ca_4), (0, .ref x)] dX5_wearVaults_7 rfl (by decide) rfl ?_
  refine tw_iconst (v := 0) dX5_wearVaults_8 (by decide) ?_
  refine tw_istore_n [(3, .int 0), (2, .int (nI 4)), (1, .ref ca_4), (0, .ref x)] dX5_wearVaults_9 rfl (by decide) rfl ?_
  have L35 : ∀ (r33 k32 : Nat) (τ36 : tw_K) (h37 : tw_H) (sp38 : tw_sp d τ h g τ36 h37), 4 + 1 ≤ k32 + r33 → k32 ≤ 4 → tw_W d mX5_wearVaults (tw_qv (fun h1 => ∃ τ1, tw_sp d τ h g τ1 h1) tw_nx) 10 [(0, .ref x), (1, .ref ca_4), (2, .int (nI 4)), (3, .int (nI k32))] [] h37 0 0 := by
    intro r33
    induction r33 with
    | zero => intro k32  τ36 h37 sp38 hk39 hk40; exact absurd hk39 (by omega)
    | succ r33 ih34 =>
      intro k32  τ36 h37 sp38 hk39 hk40
      refine tw_iload_n 3 dX5_wearVaults_10 rfl rfl ?_
      refine tw_iload_n 2 dX5_wearVaults_11 rfl rfl ?_
      refine tw_icmp_ge 67 dX5_wearVaults_12 (by decide) (fun c41 => ?_) (fun c41 => ?_)
      · exact tw_vret dX5_wearVaults_67 rfl (Or.inl ⟨rfl, ⟨_, (sp0.tr sp38)⟩⟩)
      · have kl42 := tw_klt (N := 4) c41 hk40 (by decide)
        refine tw_aload_n 1 dX5_wearVaults_15 rfl rfl ?_
        refine tw_iload_n 3 dX5_wearVaults_16 rfl rfl ?_
        obtain ⟨e43, f44, F45, rfl, k46, pn47, pb48, px49, pf50⟩ := sp38.1 ca_4 8 (sp38.2.1.k k11 (by decide)) (by decide)
        cases k51 : F45 ((nI k32)).toNatClampNeg with
        | none =>
          refine tw_aald (v := .null) 4 rfl rfl dX5_wearVaults_17 f44 (vp_in_nI (by omega) (by decide)) (by rw [k51]; rfl) ?_
          refine tw_astoreN [(4, .null), (0, .ref x), (1, .ref ca_4), (2, .int (nI 4)), (3, .int (nI k32))] dX5_wearVaults_18 (by decide) rfl ?_
          refine tw_aloadN 0 dX5_wearVaults_20 rfl ?_
          refine tw_ifnullN 61 dX5_wearVaults_22 (by decide) ?_
          obtain ⟨v53, ev53⟩ : ∃ y : Int32, y = (nI k32) + 1 := ⟨_, rfl⟩
          refine tw_iinc [(3, .int v53), (4, .null), (0, .ref x), (1, .ref ca_4), (2, .int (nI 4))] 4 dX5_wearVaults_61 rfl (by rw [ev53]; rfl) (by decide) rfl ?_
          refine tw_goto 10 dX5_wearVaults_64 (by decide) ?_
          have qv53 := tw_nI3 ev53
          rw [qv53]
          refine tw_lv [2, 3, 4, 0] rfl ?_
          exact ih34 (k32 + 1)  _ _ sp38 (by omega) (by omega)
        | some q52 =>
          have k54 := k46 _ _ k51
          refine tw_aald (v := .ref q52) 4 rfl rfl dX5_wearVaults_17 f44 (vp_in_nI (by omega) (by decide)) (by rw [k51]; rfl) ?_
          refine tw_astore [(4, .ref q52), (0, .ref x), (1, .ref ca_4), (2, .int (nI 4)), (3, .int (nI k32))] dX5_wearVaults_18 (by decide) rfl ?_
          refine tw_aload 0 dX5_wearVaults_20 rfl ?_
          refine tw_ifnull dX5_wearVaults_22 ?_
          refine tw_aload 0 dX5_wearVaults_25 rfl ?_
          obtain ⟨e55, f56, n_57, r_58, c_59, go_60, so_61, v_62, rd_63, rf_64, t_65, rfl, k66, k67, k68, k69, k70, k71, k72, k73, k74⟩ := sp38.1 q52 2 k54 (by decide)
          refine tw_getN (v := .ref v_62) rfl in_4 3 dX5_wearVaults_27 w_508 rfl (by decide) f56 rfl ?_
          obtain ⟨e75, f76, a_77, b_78, rfl⟩ := sp38.1 v_62 1 k66 (by decide)
          refine tw_getN (v := .int b_78) rfl in_7 1 dX5_wearVaults_30 w_134 rfl (by decide) f76 rfl ?_
          refine tw_sipush (v := 10000) dX5_wearVaults_33 (by decide) ?_
          refine tw_idiv dX5_wearVaults_36 (by decide) ?_
          refine tw_nmi (fun v79 ev79 => ?_)
          refine tw_istore [(5, .int v79), (4, .ref q52), (0, .ref x), (1, .ref ca_4), (2, .int (nI 4)), (3, .int (nI k32))] dX5_wearVaults_37 (by decide) rfl ?_
          refine tw_aload 1 dX5_wearVaults_39 rfl ?_
          refine tw_getN (v := .ref v_62) rfl in_4 3 dX5_wearVaults_41 w_508 rfl (by decide) f56 rfl ?_
          refine tw_iconst (v := 1) dX5_wearVaults_44 (by decide) ?_
          refine tw_iload 0 dX5_wearVaults_45 rfl ?_
          refine tw_ineg dX5_wearVaults_47 ?_
          refine tw_nmi (fun v80 ev80 => ?_)
          refine tw_bv (tw_callVN (M := mX5_wearVaults) (pc := 48) okX3_add dX5_wearVaults_48 w_534 rfl f76 [.int 1, .int v80] [] rfl rfl ⟨by decide, by decide⟩ (Nat.le_of_ble_eq_true rfl) (c_X3_add d g τ36 h37 sp38.1 v_62 k66 1 v80) 0 0 (Nat.le_of_ble_eq_true rfl) (Nat.le_of_ble_eq_true rfl)) (fun h82 q81 => ?_) (fun E h1 q => q.elim)
          have q81s := q81
          have sp84 := sp38.tr q81s
          refine tw_aload_n 2 dX5_wearVaults_51 rfl rfl ?_
          obtain ⟨e86, f87, td_88, ca_89, ha_90, da_91, c1_92, c2_93, c3_94, c4_95, rfl, k96, k97, k98, k99, k100, k101, k102, k103, k104, k105, k106, k107, k108⟩ := sp84.1 x 11 (sp38.2.1.k kx (by decide)) (by decide)
          refine tw_get (v := .ref c3_94) rfl in_9 10 dX5_wearVaults_52 w_150 rfl (by decide) f87 rfl ?_
          refine tw_iconst (v := 1) dX5_wearVaults_55 (by decide) ?_
          refine tw_iload 0 dX5_wearVaults_56 rfl ?_
          obtain ⟨e109, f110, a_111, b_112, rfl⟩ := sp84.1 c3_94 1 k101 (by decide)
          refine tw_bv (tw_callVN (M := mX5_wearVaults) (pc := 58) okX3_add dX5_wearVaults_58 w_534 rfl f110 [.int 1, .int v79] [] rfl rfl ⟨by decide, by decide⟩ (Nat.le_of_ble_eq_true rfl) (c_X3_add d g τ36 h82 sp84.1 c3_94 k101 1 v79) 0 0 (Nat.le_of_ble_eq_true rfl) (Nat.le_of_ble_eq_true rfl)) (fun h114 q113 => ?_) (fun E h1 q => q.elim)
          have q113s := q113
          have sp116 := sp84.tr q113s
          obtain ⟨v118, ev118⟩ : ∃ y : Int32, y = (nI k32) + 1 := ⟨_, rfl⟩
          refine tw_iinc [(3, .int v118), (5, .int v79), (4, .ref q52), (0, .ref x), (1, .ref ca_4), (2, .int (nI 4))] 5 dX5_wearVaults_61 rfl (by rw [ev118]; rfl) (by decide) rfl ?_
          refine tw_goto 10 dX5_wearVaults_64 (by decide) ?_
          have qv118 := tw_nI3 ev118
          rw [qv118]
          refine tw_lv [3, 4, 5, 0] rfl ?_
          exact ih34 (k32 + 1)  _ _ sp116 (by omega) (by omega)
  refine tw_lv [3, 2, 1, 0] rfl ?_
  exact L35 (4 + 1) 0  _ _ (tw_sp.rf sp0.1) (by omega) (by omega)

set_option maxHeartbeats 4000000 in
set_option maxRecDepth 100000 in
theorem c_X5_settle (d : tw_D) (g : tw_G) (τ : tw_K) (h : tw_H) (hw : tw_wt d g τ h) (x : Nat) (kx : τ x = 11) (a : Int32) (m : Int32) : tw_Ct d mX5_settle 20 120 [.ref x, .int a, .int m] h (tw_qi (fun r h1 => tw_sp d τ h g τ h1) (fun E h1 => (E = tw_IOE ∨ E = tw_IAE ∨ E = tw_ISE) ∧ ∃ τ1, tw_sp d τ h g τ1 h1)) := by
  refine tw_of (by decide +kernel) (Nat.le_of_ble_eq_true rfl) ?_
  show tw_W d mX5_settle _ 0 [(0, .ref x), (1, .int a), (2, .int m)] [] h 20 120
  have sp0 := tw_sp.rf hw
  refine tw_aload_n 0 dX5_settle_0 rfl rfl ?_
  refine tw_iload_n 1 dX5_settle_1 rfl rfl ?_
  obtain ⟨e1, f2, td_3, ca_4, ha_5, da_6, c1_7, c2_8, c3_9, c4_10, rfl, k11, k12, k13, k14, k15, k16, k17, k18, k19, k20, k21, k22, k23⟩ := sp0.1 x 11 kx (by decide)
  refine tw_br (tw_callV (M := mX5_settle) (pc := 2) okX5_debtAt dX5_settle_2 w_747 rfl f2 [.int a] [] rfl rfl ⟨by decide, by decide⟩ (Nat.le_of_ble_eq_true rfl) (c_X5_debtAt d g τ h sp0.1 x kx a) 19 114 (Nat.le_of_ble_eq_true rfl) (Nat.le_of_ble_eq_true rfl)) (fun r26 h25 q24 => ?_) (fun E h1 q => Or.inr ⟨E, rfl, (Or.inl q.1), ⟨τ, by rw [q.2]; exact sp0⟩⟩)
  obtain ⟨q24e, p27⟩ := q24
  rw [q24e]
  refine tw_astore_n [(3, .ref r26), (0, .ref x), (1, .int a), (2, .int m)] dX5_settle_5 rfl (by decide) rfl ?_
  refine tw_iload_n 3 dX5_settle_6 rfl rfl ?_
  refine tw_bv (tw_callS (M := mX5_settle) (pc := 7) okX5_needMetal dX5_settle_7 w_573 [.int m] [] rfl rfl ⟨by decide, by decide⟩ (Nat.le_of_ble_eq_true rfl) (c_X5_needMetal d g τ h sp0.1 m) 18 108 (Nat.le_of_ble_eq_true rfl) (Nat.le_of_ble_eq_true rfl)) (fun h29 q28 => ?_) (fun E h1 q => Or.inr ⟨E, rfl, (Or.inr (Or.inl q.1)), ⟨τ, by rw [q.2]; exact sp0⟩⟩)
  obtain ⟨q28e, p31⟩ := q28
  rw [q28e]
  refine tw_aload_n 0 dX5_settle_10 rfl rfl ?_
  obtain ⟨e32, f33, v_34, dy_35, pd_36, a_37, b_38, rfl, k39, k40, k41⟩ := sp0.1 r26 4 p27 (by decide)
  refine tw_getN (v := .ref a_37) rfl in_5 0 dX5_settle_11 w_720 rfl (by decide) f33 rfl ?_
  obtain ⟨e42, f43, n_44, ar_45, p_46, pl_47, go_48, rfl, k49, k50, k51⟩ := sp0.1 a_37 3 k39 (by decide)
  cases pl_47 with
  | none =>
    refine tw_getN (v := .null) rfl in_6 2 dX5_settle_14 w_641 rfl (by decide) f43 rfl ?_
    refine tw_astoreN [(4, .null), (3, .ref r26), (0, .ref x), (1, .int a), (2, .int m)] dX5_settle_17 (by decide) rfl ?_
    refine tw_aload_n 1 dX5_settle_19 rfl rfl ?_
    refine tw_getN (v := .int pd_36) rfl in_5 4 dX5_settle_20 w_728 rfl (by decide) f33 rfl ?_
    refine tw_if_ne 41 dX5_settle_23 (by decide) (fun c53 => ?_) (fun c53 => ?_)
    · exact tw_throwS (i := 15) (by decide +kernel) w_471 w_88 rfl at_ISE dX5_settle_41 dX5_settle_44 dX5_settle_45 dX5_settle_47 dX5_settle_50 ⟨by decide, Nat.le_of_ble_eq_true rfl⟩ (Nat.le_of_ble_eq_true rfl) (Nat.le_of_ble_eq_true rfl) (Or.inr ⟨_, rfl, (Or.inr (Or.inr (rfl))), _, sp0⟩)
    · refine tw_aloadN 0 dX5_settle_26 rfl ?_
      refine tw_ifnullN 41 dX5_settle_28 (by decide) ?_
      exact tw_throwS (i := 15) (by decide +kernel) w_471 w_88 rfl at_ISE dX5_settle_41 dX5_settle_44 dX5_settle_45 dX5_settle_47 dX5_settle_50 ⟨by decide, Nat.le_of_ble_eq_true rfl⟩ (Nat.le_of_ble_eq_true rfl) (Nat.le_of_ble_eq_true rfl) (Or.inr ⟨_, rfl, (Or.inr (Or.inr (rfl))), _, sp0⟩)
  | some q52 =>
    refine tw_getN (v := .ref q52) rfl in_6 2 dX5_settle_14 w_641 rfl (by decide) f43 rfl ?_
    refine tw_astore [(4, .ref q52), (3, .ref r26), (0, .ref x), (1, .int a), (2, .int m)] dX5_settle_17 (by decide) rfl ?_
    refine tw_aload_n 1 dX5_settle_19 rfl rfl ?_
    refine tw_getN (v := .int pd_36) rfl in_5 4 dX5_settle_20 w_728 rfl (by decide) f33 rfl ?_
    refine tw_if_ne 41 dX5_settle_23 (by decide) (fun c54 => ?_) (fun c54 => ?_)
    · exact tw_throwS (i := 15) (by decide +kernel) w_471 w_88 rfl at_ISE dX5_settle_41 dX5_settle_44 dX5_settle_45 dX5_settle_47 dX5_settle_50 ⟨by decide, Nat.le_of_ble_eq_true rfl⟩ (Nat.le_of_ble_eq_true rfl) (Nat.le_of_ble_eq_true rfl) (Or.inr ⟨_, rfl, (Or.inr (Or.inr (rfl))), _, sp0⟩)
    · refine tw_aload 0 dX5_settle_26 rfl ?_
      refine tw_ifnull dX5_settle_28 ?_
      refine tw_aload_n 1 dX5_settle_31 rfl rfl ?_
      refine tw_getN (v := .ref b_38) rfl in_5 1 dX5_settle_32 w_722 rfl (by decide) f33 rfl ?_
      obtain ⟨e55, f56, n_57, ar_58, p_59, pl_60, go_61, rfl, k62, k63, k64⟩ := sp0.1 b_38 3 k40 (by decide)
      cases pl_60 with
      | none =>
        refine tw_getN (v := .null) rfl in_6 2 dX5_settle_35 w_641 rfl (by decide) f56 rfl ?_
        refine tw_ifnonnullN dX5_settle_38 ?_
        exact tw_throwS (i := 15) (by decide +kernel) w_471 w_88 rfl at_ISE dX5_settle_41 dX5_settle_44 dX5_settle_45 dX5_settle_47 dX5_settle_50 ⟨by decide, Nat.le_of_ble_eq_true rfl⟩ (Nat.le_of_ble_eq_true rfl) (Nat.le_of_ble_eq_true rfl) (Or.inr ⟨_, rfl, (Or.inr (Or.inr (rfl))), _, sp0⟩)
      | some q65 =>
        refine tw_getN (v := .ref q65) rfl in_6 2 dX5_settle_35 w_641 rfl (by decide) f56 rfl ?_
        refine tw_ifnonnull 51 dX5_settle_38 (by decide) ?_
        refine tw_aload_n 1 dX5_settle_51 rfl rfl ?_
        refine tw_aload_n 2 dX5_settle_52 rfl rfl ?_
        refine tw_get (v := .int td_3) rfl in_9 0 dX5_settle_53 w_140 rfl (by decide) f2 rfl ?_
        refine tw_bi (tw_callVN (M := mX5_settle) (pc := 56) okX1_dueOn dX5_settle_56 w_355 rfl f33 [.int td_3] [] rfl rfl ⟨by decide, by decide⟩ (Nat.le_of_ble_eq_true rfl) (c_X1_dueOn d g τ h sp0.1 r26 p27 td_3) 18 108 (Nat.le_of_ble_eq_true rfl) (Nat.le_of_ble_eq_true rfl)) (fun r68 h67 q66 => ?_) (fun E h1 q => q.elim)
        rw [q66]
        refine tw_istore [(5, .int r68), (4, .ref q52), (3, .ref r26), (0, .ref x), (1, .int a), (2, .int m)] dX5_settle_59 (by decide) rfl ?_
        refine tw_iload_n 5 dX5_settle_61 rfl rfl ?_
        refine tw_if_ne 75 dX5_settle_62 (by decide) (fun c69 => ?_) (fun c69 => ?_)
        · refine tw_iload 0 dX5_settle_75 rfl ?_
          refine tw_istore [(6, .int r68), (5, .int r68), (4, .ref q52), (3, .ref r26), (0, .ref x), (1, .int a), (2, .int m)] dX5_settle_77 (by decide) rfl ?_
          refine tw_aload_n 3 dX5_settle_79 rfl rfl ?_
          refine tw_getN (v := .ref a_37) rfl in_5 0 dX5_settle_80 w_720 rfl (by decide) f33 rfl ?_
          refine tw_getN (v := .ref p_46) rfl in_6 1 dX5_settle_83 w_639 rfl (by decide) f43 rfl ?_
          refine tw_iload_n 6 dX5_settle_86 rfl rfl ?_
          obtain ⟨e70, f71, a_72, b_73, rfl⟩ := sp0.1 p_46 1 k49 (by decide)
          refine tw_bi (tw_callVN (M := mX5_settle) (pc := 87) okX3_of dX5_settle_87 w_189 rfl f71 [.int m] [] rfl rfl ⟨by decide, by decide⟩ (Nat.le_of_ble_eq_true rfl) (c_X3_of d g τ h sp0.1 p_46 k49 m) 18 108 (Nat.le_of_ble_eq_true rfl) (Nat.le_of_ble_eq_true rfl)) (fun r76 h75 q74 => ?_) (fun E h1 q => q.elim)
          rw [q74]
          refine tw_iload 0 dX5_settle_90 rfl ?_
          refine tw_icmp_ge 105 dX5_settle_92 (by decide) (fun c77 => ?_) (fun c77 => ?_)
          · refine tw_aload_n 3 dX5_settle_105 rfl rfl ?_
            refine tw_getN (v := .ref a_37) rfl in_5 0 dX5_settle_106 w_720 rfl (by decide) f33 rfl ?_
            refine tw_getN (v := .ref p_46) rfl in_6 1 dX5_settle_109 w_639 rfl (by decide) f43 rfl ?_
            refine tw_iload_n 6 dX5_settle_112 rfl rfl ?_
            refine tw_iload 0 dX5_settle_113 rfl ?_
            refine tw_ineg dX5_settle_115 ?_
            refine tw_nmi (fun v78 ev78 => ?_)
            refine tw_bv (tw_callVN (M := mX5_settle) (pc := 116) okX3_add dX5_settle_116 w_534 rfl f71 [.int m, .int v78] [] rfl rfl ⟨by decide, by decide⟩ (Nat.le_of_ble_eq_true rfl) (c_X3_add d g τ h sp0.1 p_46 k49 m v78) 18 108 (Nat.le_of_ble_eq_true rfl) (Nat.le_of_ble_eq_true rfl)) (fun h80 q79 => ?_) (fun E h1 q => q.elim)
            have q79s := q79
            have sp82 := sp0.tr q79s
            refine tw_aload_n 3 dX5_settle_119 rfl rfl ?_
            obtain ⟨e84, f85, v_86, dy_87, pd_88, a_89, b_90, rfl, k91, k92, k93⟩ := sp82.1 r26 4 p27 (by decide)
            refine tw_getN (v := .ref b_90) rfl in_5 1 dX5_settle_120 w_722 rfl (by decide) f85 rfl ?_
            obtain ⟨e94, f95, n_96, ar_97, p_98, pl_99, go_100, rfl, k101, k102, k103⟩ := sp82.1 b_90 3 k92 (by decide)
            refine tw_getN (v := .ref p_98) rfl in_6 1 dX5_settle_123 w_639 rfl (by decide) f95 rfl ?_
            refine tw_iload_n 6 dX5_settle_126 rfl rfl ?_
            refine tw_iload 0 dX5_settle_127 rfl ?_
            obtain ⟨e104, f105, a_106, b_107, rfl⟩ := sp82.1 p_98 1 k101 (by decide)
            refine tw_bv (tw_callVN (M := mX5_settle) (pc := 129) okX3_add dX5_settle_129 w_534 rfl f105 [.int m, .int r68] [] rfl rfl ⟨by decide, by decide⟩ (Nat.le_of_ble_eq_true rfl) (c_X3_add d g τ h80 sp82.1 p_98 k101 m r68) 18 108 (Nat.le_of_ble_eq_true rfl) (Nat.le_of_ble_eq_true rfl)) (fun h109 q108 => ?_) (fun E h1 q => q.elim)
            have q108s := q108
            have sp111 := sp82.tr q108s
            refine tw_aload_n 3 dX5_settle_132 rfl rfl ?_
            refine tw_iconst (v := 1) dX5_settle_133 (by decide) ?_
            obtain ⟨e113, f114, v_115, dy_116, pd_117, a_118, b_119, rfl, k120, k121, k122⟩ := sp111.1 r26 4 p27 (by decide)
            refine tw_putN rfl in_5 tyX1 tyX1_ok nmX1 4 dX5_settle_134 w_728 rfl (by decide) f114 rfl rfl rfl rfl (Nat.le_of_ble_eq_true rfl) [.ref a_118, .ref b_119, .int v_115, .int dy_116, .int 1] rfl ?_
            obtain ⟨h123, eh123⟩ : ∃ z : tw_H, z = tw_up h109 r26 (.inr (5, [.ref a_118, .ref b_119, .int v_115, .int dy_116, .int 1])) := ⟨_, rfl⟩
            rw [← eh123]
            have sp124 : tw_sp d τ h g τ h123 := by rw [eh123]; exact sp111.set p27 (by decide) ⟨v_115, dy_116, 1, a_118, b_119, rfl, k120, k121, (by unfold tw_01; decide)⟩
            have f125 : h123 r26 = some (.inr (5, [.ref a_118, .ref b_119, .int v_115, .int dy_116, .int 1])) := by rw [eh123]; exact tw_up_s
            refine tw_iload 0 dX5_settle_137 rfl ?_
            exact tw_iret dX5_settle_139 rfl (Or.inl ⟨_, rfl, sp124⟩)
          · exact tw_throwS (i := 16) (by decide +kernel) w_471 w_88 rfl at_ISE dX5_settle_95 dX5_settle_98 dX5_settle_99 dX5_settle_101 dX5_settle_104 ⟨by decide, Nat.le_of_ble_eq_true rfl⟩ (Nat.le_of_ble_eq_true rfl) (Nat.le_of_ble_eq_true rfl) (Or.inr ⟨_, rfl, (Or.inr (Or.inr (rfl))), _, sp0⟩)
        · refine tw_aload 1 dX5_settle_65 rfl ?_
          refine tw_iload 0 dX5_settle_67 rfl ?_
          obtain ⟨e126, f127, n_128, r_129, c_130, go_131, so_132, v_133, rd_134, rf_135, t_136, rfl, k137, k138, k139, k140, k141, k142, k143, k144, k145⟩ := sp0.1 q52 2 (k50 _ rfl) (by decide)
          refine tw_bi (tw_callVN (M := mX5_settle) (pc := 69) okX0_goldFor dX5_settle_69 w_364 rfl f127 [.int r68] [] rfl rfl ⟨by decide, by decide⟩ (Nat.le_of_ble_eq_true rfl) (c_X0_goldFor d g τ h sp0.1 q52 (k50 _ rfl) r68) 18 108 (Nat.le_of_ble_eq_true rfl) (Nat.le_of_ble_eq_true rfl)) (fun r148 h147 q146 => ?_) (fun E h1 q => q.elim)
          rw [q146]
          refine tw_goto 77 dX5_settle_72 (by decide) ?_
          refine tw_istore [(6, .int r148), (5, .int r68), (4, .ref q52), (3, .ref r26), (0, .ref x), (1, .int a), (2, .int m)] dX5_settle_77 (by decide) rfl ?_
          refine tw_aload_n 3 dX5_settle_79 rfl rfl ?_
          refine tw_getN (v := .ref a_37) rfl in_5 0 dX5_settle_80 w_720 rfl (by decide) f33 rfl ?_
          refine tw_getN (v := .ref p_46) rfl in_6 1 dX5_settle_83 w_639 rfl (by decide) f43 rfl ?_
          refine tw_iload_n 6 dX5_settle_86 rfl rfl ?_
          obtain ⟨e149, f150, a_151, b_152, rfl⟩ := sp0.1 p_46 1 k49 (by decide)
          refine tw_bi (tw_callVN (M := mX5_settle) (pc := 87) okX3_of dX5_settle_87 w_189 rfl f150 [.int m] [] rfl rfl ⟨by decide, by decide⟩ (Nat.le_of_ble_eq_true rfl) (c_X3_of d g τ h sp0.1 p_46 k49 m) 18 108 (Nat.le_of_ble_eq_true rfl) (Nat.le_of_ble_eq_true rfl)) (fun r155 h154 q153 => ?_) (fun E h1 q => q.elim)
          rw [q153]
          refine tw_iload 0 dX5_settle_90 rfl ?_
          refine tw_icmp_ge 105 dX5_settle_92 (by decide) (fun c156 => ?_) (fun c156 => ?_)
          · refine tw_aload_n 3 dX5_settle_105 rfl rfl ?_
            refine tw_getN (v := .ref a_37) rfl in_5 0 dX5_settle_106 w_720 rfl (by decide) f33 rfl ?_
            refine tw_getN (v := .ref p_46) rfl in_6 1 dX5_settle_109 w_639 rfl (by decide) f43 rfl ?_
            refine tw_iload_n 6 dX5_settle_112 rfl rfl ?_
            refine tw_iload 0 dX5_settle_113 rfl ?_
            refine tw_ineg dX5_settle_115 ?_
            refine tw_nmi (fun v157 ev157 => ?_)
            refine tw_bv (tw_callVN (M := mX5_settle) (pc := 116) okX3_add dX5_settle_116 w_534 rfl f150 [.int m, .int v157] [] rfl rfl ⟨by decide, by decide⟩ (Nat.le_of_ble_eq_true rfl) (c_X3_add d g τ h sp0.1 p_46 k49 m v157) 18 108 (Nat.le_of_ble_eq_true rfl) (Nat.le_of_ble_eq_true rfl)) (fun h159 q158 => ?_) (fun E h1 q => q.elim)
            have q158s := q158
            have sp161 := sp0.tr q158s
            refine tw_aload_n 3 dX5_settle_119 rfl rfl ?_
            obtain ⟨e163, f164, v_165, dy_166, pd_167, a_168, b_169, rfl, k170, k171, k172⟩ := sp161.1 r26 4 p27 (by decide)
            refine tw_getN (v := .ref b_169) rfl in_5 1 dX5_settle_120 w_722 rfl (by decide) f164 rfl ?_
            obtain ⟨e173, f174, n_175, ar_176, p_177, pl_178, go_179, rfl, k180, k181, k182⟩ := sp161.1 b_169 3 k171 (by decide)
            refine tw_getN (v := .ref p_177) rfl in_6 1 dX5_settle_123 w_639 rfl (by decide) f174 rfl ?_
            refine tw_iload_n 6 dX5_settle_126 rfl rfl ?_
            refine tw_iload 0 dX5_settle_127 rfl ?_
            obtain ⟨e183, f184, a_185, b_186, rfl⟩ := sp161.1 p_177 1 k180 (by decide)
            refine tw_bv (tw_callVN (M := mX5_settle) (pc := 129) okX3_add dX5_settle_129 w_534 rfl f184 [.int m, .int r148] [] rfl rfl ⟨by decide, by decide⟩ (Nat.le_of_ble_eq_true rfl) (c_X3_add d g τ h159 sp161.1 p_177 k180 m r148) 18 108 (Nat.le_of_ble_eq_true rfl) (Nat.le_of_ble_eq_true rfl)) (fun h188 q187 => ?_) (fun E h1 q => q.elim)
            have q187s := q187
            have sp190 := sp161.tr q187s
            refine tw_aload_n 3 dX5_settle_132 rfl rfl ?_
            refine tw_iconst (v := 1) dX5_settle_133 (by decide) ?_
            obtain ⟨e192, f193, v_194, dy_195, pd_196, a_197, b_198, rfl, k199, k200, k201⟩ := sp190.1 r26 4 p27 (by decide)
            refine tw_putN rfl in_5 tyX1 tyX1_ok nmX1 4 dX5_settle_134 w_728 rfl (by decide) f193 rfl rfl rfl rfl (Nat.le_of_ble_eq_true rfl) [.ref a_197, .ref b_198, .int v_194, .int dy_195, .int 1] rfl ?_
            obtain ⟨h202, eh202⟩ : ∃ z : tw_H, z = tw_up h188 r26 (.inr (5, [.ref a_197, .ref b_198, .int v_194, .int dy_195, .int 1])) := ⟨_, rfl⟩
            rw [← eh202]
            have sp203 : tw_sp d τ h g τ h202 := by rw [eh202]; exact sp190.set p27 (by decide) ⟨v_194, dy_195, 1, a_197, b_198, rfl, k199, k200, (by unfold tw_01; decide)⟩
            have f204 : h202 r26 = some (.inr (5, [.ref a_197, .ref b_198, .int v_194, .int dy_195, .int 1])) := by rw [eh202]; exact tw_up_s
            refine tw_iload 0 dX5_settle_137 rfl ?_
            exact tw_iret dX5_settle_139 rfl (Or.inl ⟨_, rfl, sp203⟩)
          · exact tw_throwS (i := 16) (by decide +kernel) w_471 w_88 rfl at_ISE dX5_settle_95 dX5_settle_98 dX5_settle_99 dX5_settle_101 dX5_settle_104 ⟨by decide, Nat.le_of_ble_eq_true rfl⟩ (Nat.le_of_ble_eq_true rfl) (Nat.le_of_ble_eq_true rfl) (Or.inr ⟨_, rfl, (Or.inr (Or.inr (rfl))), _, sp0⟩)

set_option maxHeartbeats 4000000 in
set_option maxRecDepth 100000 in
theorem c2_X5_needRange (d : tw_D) (g : tw_G) (τ : tw_K) (h : tw_H) (hw : tw_wt d g τ h) (v : Int32) (lo : Int32) (hi : Int32) : tw_Ct d mX5_needRange 1 6 [.int v, .int lo, .int hi] h (tw_qv (fun h1 => h1 = h ∧ lo ≤ v ∧ v ≤ hi) (fun E h1 => (E = tw_IAE) ∧ h1 = h ∧ ¬ (lo ≤ v ∧ v ≤ hi))) := by
  refine tw_of (by decide +kernel) (Nat.le_of_ble_eq_true rfl) ?_
  show tw_W d mX5_needRange _ 0 [(0, .int v), (1, .int lo), (2, .int hi)] [] h 1 6
  have sp0 := tw_sp.rf hw
  refine tw_iload_n 0 dX5_needRange_0 rfl rfl ?_
  refine tw_iload_n 1 dX5_needRange_1 rfl rfl ?_
  refine tw_icmp_lt 10 dX5_needRange_2 (by decide) (fun c1 => ?_) (fun c1 => ?_)
  · exact tw_throwSW (i := 0) (by decide +kernel) w_402 w_87 rfl at_IAE dX5_needRange_10 dX5_needRange_13 dX5_needRange_14 dX5_needRange_17 dX5_needRange_20 ⟨by decide, Nat.le_of_ble_eq_true rfl⟩ (Nat.le_of_ble_eq_true rfl) (Nat.le_of_ble_eq_true rfl) (Or.inr ⟨_, rfl, (rfl), rfl, (fun q => absurd c1 (Int32.not_lt.mpr q.1))⟩)
  · refine tw_iload_n 0 dX5_needRange_5 rfl rfl ?_
    refine tw_iload_n 2 dX5_needRange_6 rfl rfl ?_
    refine tw_icmp_le 21 dX5_needRange_7 (by decide) (fun c2 => ?_) (fun c2 => ?_)
    · exact tw_vret dX5_needRange_21 rfl (Or.inl ⟨rfl, ⟨rfl, (Int32.not_lt.mp c1), c2⟩⟩)
    · exact tw_throwSW (i := 0) (by decide +kernel) w_402 w_87 rfl at_IAE dX5_needRange_10 dX5_needRange_13 dX5_needRange_14 dX5_needRange_17 dX5_needRange_20 ⟨by decide, Nat.le_of_ble_eq_true rfl⟩ (Nat.le_of_ble_eq_true rfl) (Nat.le_of_ble_eq_true rfl) (Or.inr ⟨_, rfl, (rfl), rfl, (fun q => c2 q.2)⟩)

set_option maxHeartbeats 4000000 in
set_option maxRecDepth 100000 in
theorem c_X5_market (d : tw_D) (g : tw_G) (τ : tw_K) (h : tw_H) (hw : tw_wt d g τ h) (x : Nat) (kx : τ x = 11) (m : Int32) : tw_Ct d mX5_market 20 120 [.ref x, .int m] h (tw_qi (fun r h1 => r = g.1 0 ∧ (100 ≤ m ∧ m ≤ 200) ∧ tw_sp d τ h (tw_g1 g 0 m) τ h1) (fun E h1 => E = tw_IAE ∧ ¬ (100 ≤ m ∧ m ≤ 200) ∧ h1 = h)) := by
  refine tw_of (by decide +kernel) (Nat.le_of_ble_eq_true rfl) ?_
  show tw_W d mX5_market _ 0 [(0, .ref x), (1, .int m)] [] h 20 120
  have sp0 := tw_sp.rf hw
  refine tw_iload_n 1 dX5_market_0 rfl rfl ?_
  refine tw_bipush (v := 100) dX5_market_1 (by decide) ?_
  refine tw_sipush (v := 200) dX5_market_3 (by decide) ?_
  refine tw_bv (tw_callS (M := mX5_market) (pc := 6) okX5_needRange dX5_market_6 w_399 [.int m, .int 100, .int 200] [] rfl rfl ⟨by decide, by decide⟩ (Nat.le_of_ble_eq_true rfl) (c2_X5_needRange d g τ h sp0.1 m 100 200) 19 114 (Nat.le_of_ble_eq_true rfl) (Nat.le_of_ble_eq_true rfl)) (fun h2 q => ?_) (fun E h2 q => Or.inr ⟨E, rfl, q.1, q.2.2, q.2.1⟩)
  obtain ⟨qe, ql⟩ := q
  rw [qe]
  refine tw_aload_n 0 dX5_market_9 rfl rfl ?_
  obtain ⟨e1, f2, td_3, ca_4, ha_5, da_6, c1_7, c2_8, c3_9, c4_10, rfl, k11, k12, k13, k14, k15, k16, k17, k18, k19, k20, k21, k22, k23⟩ := sp0.1 x 11 kx (by decide)
  refine tw_get (v := .int (g.1 0)) rfl in_9 1 dX5_market_10 w_141 rfl (by decide) f2 rfl ?_
  refine tw_istore_n [(2, .int (g.1 0)), (0, .ref x), (1, .int m)] dX5_market_13 rfl (by decide) rfl ?_
  refine tw_aload_n 1 dX5_market_14 rfl rfl ?_
  refine tw_iload_n 2 dX5_market_15 rfl rfl ?_
  obtain ⟨g5, eg5⟩ : ∃ z : tw_G, z = tw_g1 g 0 m := ⟨_, rfl⟩
  have qm : m = g5.1 0 := by rw [eg5]; rfl
  refine tw_put rfl in_9 tyX5 tyX5_ok nmX5 1 dX5_market_16 w_141 rfl (by decide) f2 rfl rfl rfl rfl (Nat.le_of_ble_eq_true rfl) [.int td_3, .int m, .ref ca_4, .int (nI (g.2 0)), .ref ha_5, .int (nI (g.2 1)), .ref da_6, .int (nI (g.2 2)), .ref c1_7, .ref c2_8, .ref c3_9, .ref c4_10] rfl ?_
  obtain ⟨h24, eh24⟩ : ∃ z : tw_H, z = tw_up h x (.inr (9, [.int td_3, .int m, .ref ca_4, .int (nI (g.2 0)), .ref ha_5, .int (nI (g.2 1)), .ref da_6, .int (nI (g.2 2)), .ref c1_7, .ref c2_8, .ref c3_9, .ref c4_10])) := ⟨_, rfl⟩
  rw [← eh24]
  have sp25 : tw_sp d τ h g5 τ h24 := by rw [eh24]; exact sp0.g11 kx ⟨td_3, ca_4, ha_5, da_6, c1_7, c2_8, c3_9, c4_10, (by rw [eg5]; rfl), k11, k12, k13, k14, k15, k16, k17, (by rw [eg5]; exact k18), (by rw [eg5]; exact k19), (by rw [eg5]; exact k20), (by rw [eg5]; exact k21), (by rw [eg5]; exact k22), (by rw [eg5]; exact k23)⟩ (by rw [eg5]; intro i hi; exact if_neg hi) (by rw [eg5]; intro i hi hj; rfl)
  refine tw_iload_n 0 dX5_market_19 rfl rfl ?_
  exact tw_iret dX5_market_20 rfl (Or.inl ⟨_, rfl, rfl, ql, by rw [← eg5]; exact sp25⟩)

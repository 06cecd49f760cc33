/-! the class's methods over the typed heap. Laid by wip/p5/mkclass.py. -/
set_option maxHeartbeats 4000000 in
set_option maxRecDepth 100000 in
theorem c_X5_isKept (d : tw_D) (g : tw_G) (τ : tw_K) (h : tw_H) (hw : tw_wt d g τ h) (x : Nat) (kx : τ x = 11) (m : Int32) : tw_Ct d mX5_isKept 0 0 [.ref x, .int m] h (tw_qi (fun r h1 => h1 = h ∧ tw_01 r) tw_nx) := by
  refine tw_of (by decide +kernel) (Nat.le_of_ble_eq_true rfl) ?_
  show tw_W d mX5_isKept _ 0 [(0, .ref x), (1, .int m)] [] h 0 0
  have sp0 := tw_sp.rf hw
  refine tw_aload_n 0 dX5_isKept_0 rfl rfl ?_
  refine tw_iload_n 1 dX5_isKept_1 rfl rfl ?_
  obtain ⟨e1, f2, td_3, ca_4, ha_5, da_6, c1_7, c2_8, c3_9, c4_10, rfl, k11, k12, k13, k14, k15, k16, k17, k18, k19, k20, k21, k22, k23⟩ := sp0.1 x 11 kx (by decide)
  refine tw_bi (tw_callV (M := mX5_isKept) (pc := 2) okX5_inVaults dX5_isKept_2 w_185 rfl f2 [.int m] [] rfl rfl ⟨by decide, by decide⟩ (Nat.le_of_ble_eq_true rfl) (c_X5_inVaults d g τ h sp0.1 x kx m) 0 0 (Nat.le_of_ble_eq_true rfl) (Nat.le_of_ble_eq_true rfl)) (fun r26 h25 q24 => ?_) (fun E h1 q => q.elim)
  rw [q24]
  refine tw_aload_n 0 dX5_isKept_5 rfl rfl ?_
  refine tw_iload_n 1 dX5_isKept_6 rfl rfl ?_
  refine tw_bi (tw_callV (M := mX5_isKept) (pc := 7) okX5_inPurses dX5_isKept_7 w_193 rfl f2 [.int m] [.int r26] rfl rfl ⟨by decide, by decide⟩ (Nat.le_of_ble_eq_true rfl) (c_X5_inPurses d g τ h sp0.1 x kx m) 0 0 (Nat.le_of_ble_eq_true rfl) (Nat.le_of_ble_eq_true rfl)) (fun r29 h28 q27 => ?_) (fun E h1 q => q.elim)
  rw [q27]
  refine tw_iadd dX5_isKept_10 ?_
  refine tw_nmi (fun v30 ev30 => ?_)
  refine tw_aload_n 0 dX5_isKept_11 rfl rfl ?_
  refine tw_get (v := .ref c1_7) rfl in_9 8 dX5_isKept_12 w_148 rfl (by decide) f2 rfl ?_
  refine tw_iload_n 1 dX5_isKept_15 rfl rfl ?_
  obtain ⟨e31, f32, a_33, b_34, rfl⟩ := sp0.1 c1_7 1 k14 (by decide)
  refine tw_bi (tw_callVN (M := mX5_isKept) (pc := 16) okX3_of dX5_isKept_16 w_189 rfl f32 [.int m] [.int v30] rfl rfl ⟨by decide, by decide⟩ (Nat.le_of_ble_eq_true rfl) (c_X3_of d g τ h sp0.1 c1_7 k14 m) 0 0 (Nat.le_of_ble_eq_true rfl) (Nat.le_of_ble_eq_true rfl)) (fun r37 h36 q35 => ?_) (fun E h1 q => q.elim)
  rw [q35]
  refine tw_iadd dX5_isKept_19 ?_
  refine tw_nmi (fun v38 ev38 => ?_)
  refine tw_aload_n 0 dX5_isKept_20 rfl rfl ?_
  refine tw_get (v := .ref c2_8) rfl in_9 9 dX5_isKept_21 w_149 rfl (by decide) f2 rfl ?_
  refine tw_iload_n 1 dX5_isKept_24 rfl rfl ?_
  obtain ⟨e39, f40, a_41, b_42, rfl⟩ := sp0.1 c2_8 1 k15 (by decide)
  refine tw_bi (tw_callVN (M := mX5_isKept) (pc := 25) okX3_of dX5_isKept_25 w_189 rfl f40 [.int m] [.int v38] rfl rfl ⟨by decide, by decide⟩ (Nat.le_of_ble_eq_true rfl) (c_X3_of d g τ h sp0.1 c2_8 k15 m) 0 0 (Nat.le_of_ble_eq_true rfl) (Nat.le_of_ble_eq_true rfl)) (fun r45 h44 q43 => ?_) (fun E h1 q => q.elim)
  rw [q43]
  refine tw_iadd dX5_isKept_28 ?_
  refine tw_nmi (fun v46 ev46 => ?_)
  refine tw_aload_n 0 dX5_isKept_29 rfl rfl ?_
  refine tw_get (v := .ref c3_9) rfl in_9 10 dX5_isKept_30 w_150 rfl (by decide) f2 rfl ?_
  refine tw_iload_n 1 dX5_isKept_33 rfl rfl ?_
  obtain ⟨e47, f48, a_49, b_50, rfl⟩ := sp0.1 c3_9 1 k16 (by decide)
  refine tw_bi (tw_callVN (M := mX5_isKept) (pc := 34) okX3_of dX5_isKept_34 w_189 rfl f48 [.int m] [.int v46] rfl rfl ⟨by decide, by decide⟩ (Nat.le_of_ble_eq_true rfl) (c_X3_of d g τ h sp0.1 c3_9 k16 m) 0 0 (Nat.le_of_ble_eq_true rfl) (Nat.le_of_ble_eq_true rfl)) (fun r53 h52 q51 => ?_) (fun E h1 q => q.elim)
  rw [q51]
  refine tw_iadd dX5_isKept_37 ?_
  refine tw_nmi (fun v54 ev54 => ?_)
  refine tw_istore_n [(2, .int v54), (0, .ref x), (1, .int m)] dX5_isKept_38 rfl (by decide) rfl ?_
  refine tw_iload_n 0 dX5_isKept_39 rfl rfl ?_
  refine tw_aload_n 1 dX5_isKept_40 rfl rfl ?_
  refine tw_get (v := .ref c4_10) rfl in_9 11 dX5_isKept_41 w_151 rfl (by decide) f2 rfl ?_
  refine tw_iload_n 2 dX5_isKept_44 rfl rfl ?_
  obtain ⟨e55, f56, a_57, b_58, rfl⟩ := sp0.1 c4_10 1 k17 (by decide)
  refine tw_bi (tw_callVN (M := mX5_isKept) (pc := 45) okX3_of dX5_isKept_45 w_189 rfl f56 [.int m] [.int v54] rfl rfl ⟨by decide, by decide⟩ (Nat.le_of_ble_eq_true rfl) (c_X3_of d g τ h sp0.1 c4_10 k17 m) 0 0 (Nat.le_of_ble_eq_true rfl) (Nat.le_of_ble_eq_true rfl)) (fun r61 h60 q59 => ?_) (fun E h1 q => q.elim)
  rw [q59]
  refine tw_icmp_ne 55 dX5_isKept_48 (by decide) (fun c62 => ?_) (fun c62 => ?_)
  · refine tw_iconst (v := 0) dX5_isKept_55 (by decide) ?_
    exact tw_zret dX5_isKept_56 rfl rfl (Or.inl ⟨_, rfl, ⟨rfl, (by unfold tw_01; decide)⟩⟩)
  · refine tw_iconst (v := 1) dX5_isKept_51 (by decide) ?_
    refine tw_goto 56 dX5_isKept_52 (by decide) ?_
    exact tw_zret dX5_isKept_56 rfl rfl (Or.inl ⟨_, rfl, ⟨rfl, (by unfold tw_01; decide)⟩⟩)

set_option maxHeartbeats 4000000 in
set_option maxRecDepth 100000 in
theorem c_X5_areCountriesSound (d : tw_D) (g : tw_G) (τ : tw_K) (h : tw_H) (hw : tw_wt d g τ h) (x : Nat) (kx : τ x = 11) : tw_Ct d mX5_areCountriesSound 0 0 [.ref x] h (tw_qi (fun r h1 => h1 = h ∧ tw_01 r) tw_nx) := by
  refine tw_of (by decide +kernel) (Nat.le_of_ble_eq_true rfl) ?_
  show tw_W d mX5_areCountriesSound _ 0 [(0, .ref x)] [] h 0 0
  have sp0 := tw_sp.rf hw
  refine tw_aload_n 0 dX5_areCountriesSound_0 rfl rfl ?_
  obtain ⟨e1, f2, td_3, ca_4, ha_5, da_6, c1_7, c2_8, c3_9, c4_10, rfl, k11, k12, k13, k14, k15, k16, k17, k18, k19, k20, k21, k22, k23⟩ := sp0.1 x 11 kx (by decide)
  refine tw_get (v := .ref ca_4) rfl in_9 2 dX5_areCountriesSound_1 w_142 rfl (by decide) f2 rfl ?_
  refine tw_astore_n [(1, .ref ca_4), (0, .ref x)] dX5_areCountriesSound_4 rfl (by decide) rfl ?_
  refine tw_aload_n 0 dX5_areCountriesSound_5 rfl rfl ?_
  obtain ⟨e24, f25, F26, rfl, k27, pn28, pb29, px30⟩ := sp0.1 ca_4 8 k11 (by decide)
  refine tw_alen (v := nI 4) 4 rfl dX5_areCountriesSound_6 f25 rfl ?_
  refine tw_istore_n [(2, .int (nI 4)), (1, .ref ca_4), (0, .ref x)] dX5_areCountriesSound_7 rfl (by decide) rfl ?_
  refine tw_iconst (v := 0) dX5_areCountriesSound_8 (by decide) ?_
  refine tw_istore_n [(3, .int 0), (2, .int (nI 4)), (1, .ref ca_4), (0, .ref x)] dX5_areCountriesSound_9 rfl (by decide) rfl ?_
  have L34 : ∀ (r32 k31 : Nat), 4 + 1 ≤ k31 + r32 → k31 ≤ 4 → tw_W d mX5_areCountriesSound (tw_qi (fun r h1 => h1 = h ∧ tw_01 r) tw_nx) 10 [(0, .ref x), (1, .ref ca_4), (2, .int (nI 4)), (3, .int (nI k31))] [] h 0 0 := by
    intro r32
    induction r32 with
    | zero => intro k31  hk38 hk39; exact absurd hk38 (by omega)
    | succ r32 ih33 =>
      intro k31  hk38 hk39
      refine tw_iload_n 3 dX5_areCountriesSound_10 rfl rfl ?_
      refine tw_iload_n 2 dX5_areCountriesSound_11 rfl rfl ?_
      refine tw_icmp_ge 55 dX5_areCountriesSound_12 (by decide) (fun c40 => ?_) (fun c40 => ?_)
      · refine tw_iconst (v := 1) dX5_areCountriesSound_55 (by decide) ?_
        exact tw_zret dX5_areCountriesSound_56 rfl rfl (Or.inl ⟨_, rfl, ⟨rfl, (by unfold tw_01; decide)⟩⟩)
      · have kl41 := tw_klt (N := 4) c40 hk39 (by decide)
        refine tw_aload_n 1 dX5_areCountriesSound_15 rfl rfl ?_
        refine tw_iload_n 3 dX5_areCountriesSound_16 rfl rfl ?_
        cases k42 : F26 ((nI k31)).toNatClampNeg with
        | none =>
          refine tw_aald (v := .null) 4 rfl rfl dX5_areCountriesSound_17 f25 (vp_in_nI (by omega) (by decide)) (by rw [k42]; rfl) ?_
          refine tw_astoreN [(4, .null), (0, .ref x), (1, .ref ca_4), (2, .int (nI 4)), (3, .int (nI k31))] dX5_areCountriesSound_18 (by decide) rfl ?_
          refine tw_aloadN 0 dX5_areCountriesSound_20 rfl ?_
          refine tw_ifnullN 49 dX5_areCountriesSound_22 (by decide) ?_
          obtain ⟨v44, ev44⟩ : ∃ y : Int32, y = (nI k31) + 1 := ⟨_, rfl⟩
          refine tw_iinc [(3, .int v44), (4, .null), (0, .ref x), (1, .ref ca_4), (2, .int (nI 4))] 4 dX5_areCountriesSound_49 rfl (by rw [ev44]; rfl) (by decide) rfl ?_
          refine tw_goto 10 dX5_areCountriesSound_52 (by decide) ?_
          have qv44 := tw_nI3 ev44
          rw [qv44]
          refine tw_lv [2, 3, 4, 0] rfl ?_
          exact ih33 (k31 + 1)  (by omega) (by omega)
        | some q43 =>
          have k45 := k27 _ _ k42
          refine tw_aald (v := .ref q43) 4 rfl rfl dX5_areCountriesSound_17 f25 (vp_in_nI (by omega) (by decide)) (by rw [k42]; rfl) ?_
          refine tw_astore [(4, .ref q43), (0, .ref x), (1, .ref ca_4), (2, .int (nI 4)), (3, .int (nI k31))] dX5_areCountriesSound_18 (by decide) rfl ?_
          refine tw_aload 0 dX5_areCountriesSound_20 rfl ?_
          refine tw_ifnull dX5_areCountriesSound_22 ?_
          refine tw_aload 0 dX5_areCountriesSound_25 rfl ?_
          obtain ⟨e46, f47, n_48, r_49, c_50, go_51, so_52, v_53, rd_54, rf_55, t_56, rfl, k57, k58, k59, k60, k61, k62, k63, k64⟩ := sp0.1 q43 2 k45 (by decide)
          refine tw_getN (v := .ref v_53) rfl in_4 3 dX5_areCountriesSound_27 w_508 rfl (by decide) f47 rfl ?_
          obtain ⟨e65, f66, a_67, b_68, rfl⟩ := sp0.1 v_53 1 k57 (by decide)
          refine tw_bi (tw_callVN (M := mX5_areCountriesSound) (pc := 30) okX3_isBelowZero dX5_areCountriesSound_30 w_201 rfl f66 [] [] rfl rfl ⟨by decide, by decide⟩ (Nat.le_of_ble_eq_true rfl) (c_X3_isBelowZero d g τ h sp0.1 v_53 k57) 0 0 (Nat.le_of_ble_eq_true rfl) (Nat.le_of_ble_eq_true rfl)) (fun r71 h70 q69 => ?_) (fun E h1 q => q.elim)
          obtain ⟨q69e, p72⟩ := q69
          rw [q69e]
          refine tw_if_ne 47 dX5_areCountriesSound_33 (by decide) (fun c73 => ?_) (fun c73 => ?_)
          · refine tw_iconst (v := 0) dX5_areCountriesSound_47 (by decide) ?_
            exact tw_zret dX5_areCountriesSound_48 rfl rfl (Or.inl ⟨_, rfl, ⟨rfl, (by unfold tw_01; decide)⟩⟩)
          · refine tw_aload 0 dX5_areCountriesSound_36 rfl ?_
            refine tw_getN (v := .ref t_56) rfl in_4 8 dX5_areCountriesSound_38 w_514 rfl (by decide) f47 rfl ?_
            obtain ⟨e74, f75, m_76, rfl, k77⟩ := sp0.1 t_56 5 k60 (by decide)
            refine tw_bi (tw_callVN (M := mX5_areCountriesSound) (pc := 41) okX4_isBelowZero dX5_areCountriesSound_41 w_205 rfl f75 [] [] rfl rfl ⟨by decide, by decide⟩ (Nat.le_of_ble_eq_true rfl) (c_X4_isBelowZero d g τ h sp0.1 t_56 k60) 0 0 (Nat.le_of_ble_eq_true rfl) (Nat.le_of_ble_eq_true rfl)) (fun r80 h79 q78 => ?_) (fun E h1 q => q.elim)
            obtain ⟨q78e, p81⟩ := q78
            rw [q78e]
            refine tw_if_eq 49 dX5_areCountriesSound_44 (by decide) (fun c82 => ?_) (fun c82 => ?_)
            · obtain ⟨v83, ev83⟩ : ∃ y : Int32, y = (nI k31) + 1 := ⟨_, rfl⟩
              refine tw_iinc [(3, .int v83), (4, .ref q43), (0, .ref x), (1, .ref ca_4), (2, .int (nI 4))] 4 dX5_areCountriesSound_49 rfl (by rw [ev83]; rfl) (by decide) rfl ?_
              refine tw_goto 10 dX5_areCountriesSound_52 (by decide) ?_
              have qv83 := tw_nI3 ev83
              rw [qv83]
              refine tw_lv [2, 3, 4, 0] rfl ?_
              exact ih33 (k31 + 1)  (by omega) (by omega)
            · refine tw_iconst (v := 0) dX5_areCountriesSound_47 (by decide) ?_
              exact tw_zret dX5_areCountriesSound_48 rfl rfl (Or.inl ⟨_, rfl, ⟨rfl, (by unfold tw_01; decide)⟩⟩)
  refine tw_lv [3, 2, 1, 0] rfl ?_
  exact L34 (4 + 1) 0  (by omega) (by omega)

set_option maxHeartbeats 4000000 in
set_option maxRecDepth 100000 in
theorem c_X5_areHousesSound (d : tw_D) (g : tw_G) (τ : tw_K) (h : tw_H) (hw : tw_wt d g τ h) (x : Nat) (kx : τ x = 11) : tw_Ct d mX5_areHousesSound 0 0 [.ref x] h (tw_qi (fun r h1 => h1 = h ∧ tw_01 r) tw_nx) := by
  refine tw_of (by decide +kernel) (Nat.le_of_ble_eq_true rfl) ?_
  show tw_W d mX5_areHousesSound _ 0 [(0, .ref x)] [] h 0 0
  have sp0 := tw_sp.rf hw
  refine tw_aload_n 0 dX5_areHousesSound_0 rfl rfl ?_
  obtain ⟨e1, f2, td_3, ca_4, ha_5, da_6, c1_7, c2_8, c3_9, c4_10, rfl, k11, k12, k13, k14, k15, k16, k17, k18, k19, k20, k21, k22, k23⟩ := sp0.1 x 11 kx (by decide)
  refine tw_get (v := .ref ha_5) rfl in_9 4 dX5_areHousesSound_1 w_144 rfl (by decide) f2 rfl ?_
  refine tw_astore_n [(1, .ref ha_5), (0, .ref x)] dX5_areHousesSound_4 rfl (by decide) rfl ?_
  refine tw_aload_n 0 dX5_areHousesSound_5 rfl rfl ?_
  obtain ⟨e24, f25, F26, rfl, k27, pn28, pb29, px30⟩ := sp0.1 ha_5 9 k12 (by decide)
  refine tw_alen (v := nI 6) 5 rfl dX5_areHousesSound_6 f25 rfl ?_
  refine tw_istore_n [(2, .int (nI 6)), (1, .ref ha_5), (0, .ref x)] dX5_areHousesSound_7 rfl (by decide) rfl ?_
  refine tw_iconst (v := 0) dX5_areHousesSound_8 (by decide) ?_
  refine tw_istore_n [(3, .int 0), (2, .int (nI 6)), (1, .ref ha_5), (0, .ref x)] dX5_areHousesSound_9 rfl (by decide) rfl ?_
  have L34 : ∀ (r32 k31 : Nat), 6 + 1 ≤ k31 + r32 → k31 ≤ 6 → tw_W d mX5_areHousesSound (tw_qi (fun r h1 => h1 = h ∧ tw_01 r) tw_nx) 10 [(0, .ref x), (1, .ref ha_5), (2, .int (nI 6)), (3, .int (nI k31))] [] h 0 0 := by
    intro r32
    induction r32 with
    | zero => intro k31  hk38 hk39; exact absurd hk38 (by omega)
    | succ r32 ih33 =>
      intro k31  hk38 hk39
      refine tw_iload_n 3 dX5_areHousesSound_10 rfl rfl ?_
      refine tw_iload_n 2 dX5_areHousesSound_11 rfl rfl ?_
      refine tw_icmp_ge 56 dX5_areHousesSound_12 (by decide) (fun c40 => ?_) (fun c40 => ?_)
      · refine tw_iconst (v := 1) dX5_areHousesSound_56 (by decide) ?_
        exact tw_zret dX5_areHousesSound_57 rfl rfl (Or.inl ⟨_, rfl, ⟨rfl, (by unfold tw_01; decide)⟩⟩)
      · have kl41 := tw_klt (N := 6) c40 hk39 (by decide)
        refine tw_aload_n 1 dX5_areHousesSound_15 rfl rfl ?_
        refine tw_iload_n 3 dX5_areHousesSound_16 rfl rfl ?_
        cases k42 : F26 ((nI k31)).toNatClampNeg with
        | none =>
          refine tw_aald (v := .null) 5 rfl rfl dX5_areHousesSound_17 f25 (vp_in_nI (by omega) (by decide)) (by rw [k42]; rfl) ?_
          refine tw_astoreN [(4, .null), (0, .ref x), (1, .ref ha_5), (2, .int (nI 6)), (3, .int (nI k31))] dX5_areHousesSound_18 (by decide) rfl ?_
          refine tw_aloadN 0 dX5_areHousesSound_20 rfl ?_
          refine tw_ifnullN 50 dX5_areHousesSound_22 (by decide) ?_
          obtain ⟨v44, ev44⟩ : ∃ y : Int32, y = (nI k31) + 1 := ⟨_, rfl⟩
          refine tw_iinc [(3, .int v44), (4, .null), (0, .ref x), (1, .ref ha_5), (2, .int (nI 6))] 4 dX5_areHousesSound_50 rfl (by rw [ev44]; rfl) (by decide) rfl ?_
          refine tw_goto 10 dX5_areHousesSound_53 (by decide) ?_
          have qv44 := tw_nI3 ev44
          rw [qv44]
          refine tw_lv [2, 3, 4, 0] rfl ?_
          exact ih33 (k31 + 1)  (by omega) (by omega)
        | some q43 =>
          have k45 := k27 _ _ k42
          refine tw_aald (v := .ref q43) 5 rfl rfl dX5_areHousesSound_17 f25 (vp_in_nI (by omega) (by decide)) (by rw [k42]; rfl) ?_
          refine tw_astore [(4, .ref q43), (0, .ref x), (1, .ref ha_5), (2, .int (nI 6)), (3, .int (nI k31))] dX5_areHousesSound_18 (by decide) rfl ?_
          refine tw_aload 0 dX5_areHousesSound_20 rfl ?_
          refine tw_ifnull dX5_areHousesSound_22 ?_
          refine tw_aload 0 dX5_areHousesSound_25 rfl ?_
          obtain ⟨e46, f47, n_48, ar_49, p_50, pl_51, go_52, rfl, k53, k54, k55⟩ := sp0.1 q43 3 k45 (by decide)
          refine tw_getN (v := .ref p_50) rfl in_6 1 dX5_areHousesSound_27 w_639 rfl (by decide) f47 rfl ?_
          obtain ⟨e56, f57, a_58, b_59, rfl⟩ := sp0.1 p_50 1 k53 (by decide)
          refine tw_bi (tw_callVN (M := mX5_areHousesSound) (pc := 30) okX3_isBelowZero dX5_areHousesSound_30 w_201 rfl f57 [] [] rfl rfl ⟨by decide, by decide⟩ (Nat.le_of_ble_eq_true rfl) (c_X3_isBelowZero d g τ h sp0.1 p_50 k53) 0 0 (Nat.le_of_ble_eq_true rfl) (Nat.le_of_ble_eq_true rfl)) (fun r62 h61 q60 => ?_) (fun E h1 q => q.elim)
          obtain ⟨q60e, p63⟩ := q60
          rw [q60e]
          refine tw_if_ne 48 dX5_areHousesSound_33 (by decide) (fun c64 => ?_) (fun c64 => ?_)
          · refine tw_iconst (v := 0) dX5_areHousesSound_48 (by decide) ?_
            exact tw_zret dX5_areHousesSound_49 rfl rfl (Or.inl ⟨_, rfl, ⟨rfl, (by unfold tw_01; decide)⟩⟩)
          · refine tw_aload 0 dX5_areHousesSound_36 rfl ?_
            refine tw_aload_n 1 dX5_areHousesSound_38 rfl rfl ?_
            refine tw_get (v := .int td_3) rfl in_9 0 dX5_areHousesSound_39 w_140 rfl (by decide) f2 rfl ?_
            refine tw_bi (tw_callVN (M := mX5_areHousesSound) (pc := 42) okX2_isLateOn dX5_areHousesSound_42 w_214 rfl f47 [.int td_3] [] rfl rfl ⟨by decide, by decide⟩ (Nat.le_of_ble_eq_true rfl) (c_X2_isLateOn d g τ h sp0.1 q43 k45 td_3) 0 0 (Nat.le_of_ble_eq_true rfl) (Nat.le_of_ble_eq_true rfl)) (fun r67 h66 q65 => ?_) (fun E h1 q => q.elim)
            obtain ⟨q65e, p68⟩ := q65
            rw [q65e]
            refine tw_if_eq 50 dX5_areHousesSound_45 (by decide) (fun c69 => ?_) (fun c69 => ?_)
            · obtain ⟨v70, ev70⟩ : ∃ y : Int32, y = (nI k31) + 1 := ⟨_, rfl⟩
              refine tw_iinc [(3, .int v70), (4, .ref q43), (0, .ref x), (1, .ref ha_5), (2, .int (nI 6))] 4 dX5_areHousesSound_50 rfl (by rw [ev70]; rfl) (by decide) rfl ?_
              refine tw_goto 10 dX5_areHousesSound_53 (by decide) ?_
              have qv70 := tw_nI3 ev70
              rw [qv70]
              refine tw_lv [2, 3, 4, 0] rfl ?_
              exact ih33 (k31 + 1)  (by omega) (by omega)
            · refine tw_iconst (v := 0) dX5_areHousesSound_48 (by decide) ?_
              exact tw_zret dX5_areHousesSound_49 rfl rfl (Or.inl ⟨_, rfl, ⟨rfl, (by unfold tw_01; decide)⟩⟩)
  refine tw_lv [3, 2, 1, 0] rfl ?_
  exact L34 (6 + 1) 0  (by omega) (by omega)

set_option maxHeartbeats 4000000 in
set_option maxRecDepth 100000 in
theorem c_X5_hasSameRoads (d : tw_D) (g : tw_G) (τ : tw_K) (h : tw_H) (hw : tw_wt d g τ h) (a : Nat) (ka : τ a = 2) (b : Nat) (kb : τ b = 2) : tw_Ct d mX5_hasSameRoads 0 0 [.ref a, .ref b] h (tw_qi (fun r h1 => h1 = h ∧ tw_01 r) tw_nx) := by
  refine tw_of (by decide +kernel) (Nat.le_of_ble_eq_true rfl) ?_
  show tw_W d mX5_hasSameRoads _ 0 [(0, .ref a), (1, .ref b)] [] h 0 0
  have sp0 := tw_sp.rf hw
  refine tw_aload_n 0 dX5_hasSameRoads_0 rfl rfl ?_
  refine tw_aload_n 1 dX5_hasSameRoads_1 rfl rfl ?_
  obtain ⟨e1, f2, n_3, r_4, c_5, go_6, so_7, v_8, rd_9, rf_10, t_11, rfl, k12, k13, k14, k15, k16, k17, k18, k19⟩ := sp0.1 b 2 kb (by decide)
  refine tw_getN (v := .int n_3) rfl in_4 0 dX5_hasSameRoads_2 w_502 rfl (by decide) f2 rfl ?_
  obtain ⟨e20, f21, n_22, r_23, c_24, go_25, so_26, v_27, rd_28, rf_29, t_30, rfl, k31, k32, k33, k34, k35, k36, k37, k38⟩ := sp0.1 a 2 ka (by decide)
  refine tw_bi (tw_callVN (M := mX5_hasSameRoads) (pc := 5) okX0_daysTo dX5_hasSameRoads_5 w_226 rfl f21 [.int n_3] [] rfl rfl ⟨by decide, by decide⟩ (Nat.le_of_ble_eq_true rfl) (c_X0_daysTo d g τ h sp0.1 a ka n_3) 0 0 (Nat.le_of_ble_eq_true rfl) (Nat.le_of_ble_eq_true rfl)) (fun r41 h40 q39 => ?_) (fun E h1 q => q.elim)
  rw [q39]
  refine tw_aload_n 1 dX5_hasSameRoads_8 rfl rfl ?_
  refine tw_aload_n 0 dX5_hasSameRoads_9 rfl rfl ?_
  refine tw_getN (v := .int n_22) rfl in_4 0 dX5_hasSameRoads_10 w_502 rfl (by decide) f21 rfl ?_
  refine tw_bi (tw_callVN (M := mX5_hasSameRoads) (pc := 13) okX0_daysTo dX5_hasSameRoads_13 w_226 rfl f2 [.int n_22] [.int r41] rfl rfl ⟨by decide, by decide⟩ (Nat.le_of_ble_eq_true rfl) (c_X0_daysTo d g τ h sp0.1 b kb n_22) 0 0 (Nat.le_of_ble_eq_true rfl) (Nat.le_of_ble_eq_true rfl)) (fun r44 h43 q42 => ?_) (fun E h1 q => q.elim)
  rw [q42]
  refine tw_icmp_ne 42 dX5_hasSameRoads_16 (by decide) (fun c45 => ?_) (fun c45 => ?_)
  · refine tw_iconst (v := 0) dX5_hasSameRoads_42 (by decide) ?_
    exact tw_zret dX5_hasSameRoads_43 rfl rfl (Or.inl ⟨_, rfl, ⟨rfl, (by unfold tw_01; decide)⟩⟩)
  · refine tw_aload_n 0 dX5_hasSameRoads_19 rfl rfl ?_
    refine tw_aload_n 1 dX5_hasSameRoads_20 rfl rfl ?_
    refine tw_getN (v := .int n_3) rfl in_4 0 dX5_hasSameRoads_21 w_502 rfl (by decide) f2 rfl ?_
    refine tw_bi (tw_callVN (M := mX5_hasSameRoads) (pc := 24) okX0_freightTo dX5_hasSameRoads_24 w_231 rfl f21 [.int n_3] [] rfl rfl ⟨by decide, by decide⟩ (Nat.le_of_ble_eq_true rfl) (c_X0_freightTo d g τ h sp0.1 a ka n_3) 0 0 (Nat.le_of_ble_eq_true rfl) (Nat.le_of_ble_eq_true rfl)) (fun r48 h47 q46 => ?_) (fun E h1 q => q.elim)
    rw [q46]
    refine tw_aload_n 1 dX5_hasSameRoads_27 rfl rfl ?_
    refine tw_aload_n 0 dX5_hasSameRoads_28 rfl rfl ?_
    refine tw_getN (v := .int n_22) rfl in_4 0 dX5_hasSameRoads_29 w_502 rfl (by decide) f21 rfl ?_
    refine tw_bi (tw_callVN (M := mX5_hasSameRoads) (pc := 32) okX0_freightTo dX5_hasSameRoads_32 w_231 rfl f2 [.int n_22] [.int r48] rfl rfl ⟨by decide, by decide⟩ (Nat.le_of_ble_eq_true rfl) (c_X0_freightTo d g τ h sp0.1 b kb n_22) 0 0 (Nat.le_of_ble_eq_true rfl) (Nat.le_of_ble_eq_true rfl)) (fun r51 h50 q49 => ?_) (fun E h1 q => q.elim)
    rw [q49]
    refine tw_icmp_ne 42 dX5_hasSameRoads_35 (by decide) (fun c52 => ?_) (fun c52 => ?_)
    · refine tw_iconst (v := 0) dX5_hasSameRoads_42 (by decide) ?_
      exact tw_zret dX5_hasSameRoads_43 rfl rfl (Or.inl ⟨_, rfl, ⟨rfl, (by unfold tw_01; decide)⟩⟩)
    · refine tw_iconst (v := 1) dX5_hasSameRoads_38 (by decide) ?_
      refine tw_goto 43 dX5_hasSameRoads_39 (by decide) ?_
      exact tw_zret dX5_hasSameRoads_43 rfl rfl (Or.inl ⟨_, rfl, ⟨rfl, (by unfold tw_01; decide)⟩⟩)

set_option maxHeartbeats 4000000 in
set_option maxRecDepth 100000 in
theorem c_X5_areRoadsTheSame (d : tw_D) (g : tw_G) (τ : tw_K) (h : tw_H) (hw : tw_wt d g τ h) (x : Nat) (kx : τ x = 11) : tw_Ct d mX5_areRoadsTheSame 0 0 [.ref x] h (tw_qi (fun r h1 => h1 = h ∧ tw_01 r) tw_nx) := by
  refine tw_of (by decide +kernel) (Nat.le_of_ble_eq_true rfl) ?_
  show tw_W d mX5_areRoadsTheSame _ 0 [(0, .ref x)] [] h 0 0
  have sp0 := tw_sp.rf hw
  refine tw_aload_n 0 dX5_areRoadsTheSame_0 rfl rfl ?_
  obtain ⟨e1, f2, td_3, ca_4, ha_5, da_6, c1_7, c2_8, c3_9, c4_10, rfl, k11, k12, k13, k14, k15, k16, k17, k18, k19, k20, k21, k22, k23⟩ := sp0.1 x 11 kx (by decide)
  refine tw_get (v := .ref ca_4) rfl in_9 2 dX5_areRoadsTheSame_1 w_142 rfl (by decide) f2 rfl ?_
  refine tw_astore_n [(1, .ref ca_4), (0, .ref x)] dX5_areRoadsTheSame_4 rfl (by decide) rfl ?_
  refine tw_aload_n 0 dX5_areRoadsTheSame_5 rfl rfl ?_
  obtain ⟨e24, f25, F26, rfl, k27, pn28, pb29, px30⟩ := sp0.1 ca_4 8 k11 (by decide)
  refine tw_alen (v := nI 4) 4 rfl dX5_areRoadsTheSame_6 f25 rfl ?_
  refine tw_istore_n [(2, .int (nI 4)), (1, .ref ca_4), (0, .ref x)] dX5_areRoadsTheSame_7 rfl (by decide) rfl ?_
  refine tw_iconst (v := 0) dX5_areRoadsTheSame_8 (by decide) ?_
  refine tw_istore_n [(3, .int 0), (2, .int (nI 4)), (1, .ref ca_4), (0, .ref x)] dX5_areRoadsTheSame_9 rfl (by decide) rfl ?_
  have L34 : ∀ (r32 k31 : Nat), 4 + 1 ≤ k31 + r32 → k31 ≤ 4 → tw_W d mX5_areRoadsTheSame (tw_qi (fun r h1 => h1 = h ∧ tw_01 r) tw_nx) 10 [(0, .ref x), (1, .ref ca_4), (2, .int (nI 4)), (3, .int (nI k31))] [] h 0 0 := by
    intro r32
    induction r32 with
    | zero => intro k31  hk38 hk39; exact absurd hk38 (by omega)
    | succ r32 ih33 =>
      intro k31  hk38 hk39
      refine tw_iload_n 3 dX5_areRoadsTheSame_10 rfl rfl ?_
      refine tw_iload_n 2 dX5_areRoadsTheSame_11 rfl rfl ?_
      refine tw_icmp_ge 82 dX5_areRoadsTheSame_12 (by decide) (fun c40 => ?_) (fun c40 => ?_)
      · refine tw_iconst (v := 1) dX5_areRoadsTheSame_82 (by decide) ?_
        exact tw_zret dX5_areRoadsTheSame_83 rfl rfl (Or.inl ⟨_, rfl, ⟨rfl, (by unfold tw_01; decide)⟩⟩)
      · have kl41 := tw_klt (N := 4) c40 hk39 (by decide)
        refine tw_aload_n 1 dX5_areRoadsTheSame_15 rfl rfl ?_
        refine tw_iload_n 3 dX5_areRoadsTheSame_16 rfl rfl ?_
        cases k42 : F26 ((nI k31)).toNatClampNeg with
        | none =>
          refine tw_aald (v := .null) 4 rfl rfl dX5_areRoadsTheSame_17 f25 (vp_in_nI (by omega) (by decide)) (by rw [k42]; rfl) ?_
          refine tw_astoreN [(4, .null), (0, .ref x), (1, .ref ca_4), (2, .int (nI 4)), (3, .int (nI k31))] dX5_areRoadsTheSame_18 (by decide) rfl ?_
          refine tw_aload_n 1 dX5_areRoadsTheSame_20 rfl rfl ?_
          refine tw_get (v := .ref ca_4) rfl in_9 2 dX5_areRoadsTheSame_21 w_142 rfl (by decide) f2 rfl ?_
          refine tw_astore [(5, .ref ca_4), (4, .null), (0, .ref x), (1, .ref ca_4), (2, .int (nI 4)), (3, .int (nI k31))] dX5_areRoadsTheSame_24 (by decide) rfl ?_
          refine tw_aload 0 dX5_areRoadsTheSame_26 rfl ?_
          refine tw_alen (v := nI 4) 4 rfl dX5_areRoadsTheSame_28 f25 rfl ?_
          refine tw_istore [(6, .int (nI 4)), (5, .ref ca_4), (4, .null), (0, .ref x), (1, .ref ca_4), (2, .int (nI 4)), (3, .int (nI k31))] dX5_areRoadsTheSame_29 (by decide) rfl ?_
          refine tw_iconst (v := 0) dX5_areRoadsTheSame_31 (by decide) ?_
          refine tw_istore [(7, .int 0), (6, .int (nI 4)), (5, .ref ca_4), (4, .null), (0, .ref x), (1, .ref ca_4), (2, .int (nI 4)), (3, .int (nI k31))] dX5_areRoadsTheSame_32 (by decide) rfl ?_
          have L47 : ∀ (r45 k44 : Nat), 4 + 1 ≤ k44 + r45 → k44 ≤ 4 → tw_W d mX5_areRoadsTheSame (tw_qi (fun r h1 => h1 = h ∧ tw_01 r) tw_nx) 34 [(0, .ref x), (1, .ref ca_4), (2, .int (nI 4)), (3, .int (nI k31)), (4, .null), (5, .ref ca_4), (6, .int (nI 4)), (7, .int (nI k44))] [] h 0 0 := by
            intro r45
            induction r45 with
            | zero => intro k44  hk51 hk52; exact absurd hk51 (by omega)
            | succ r45 ih46 =>
              intro k44  hk51 hk52
              refine tw_iload 7 dX5_areRoadsTheSame_34 rfl ?_
              refine tw_iload 6 dX5_areRoadsTheSame_36 rfl ?_
              refine tw_icmp_ge 76 dX5_areRoadsTheSame_38 (by decide) (fun c53 => ?_) (fun c53 => ?_)
              · obtain ⟨v54, ev54⟩ : ∃ y : Int32, y = (nI k31) + 1 := ⟨_, rfl⟩
                refine tw_iinc [(3, .int v54), (0, .ref x), (1, .ref ca_4), (2, .int (nI 4)), (4, .null), (5, .ref ca_4), (6, .int (nI 4)), (7, .int (nI k44))] 3 dX5_areRoadsTheSame_76 rfl (by rw [ev54]; rfl) (by decide) rfl ?_
                refine tw_goto 10 dX5_areRoadsTheSame_79 (by decide) ?_
                have qv54 := tw_nI3 ev54
                rw [qv54]
                refine tw_lv [1, 2, 3, 0] rfl ?_
                exact ih33 (k31 + 1)  (by omega) (by omega)
              · have kl55 := tw_klt (N := 4) c53 hk52 (by decide)
                refine tw_aload 5 dX5_areRoadsTheSame_41 rfl ?_
                refine tw_iload 7 dX5_areRoadsTheSame_43 rfl ?_
                cases k56 : F26 ((nI k44)).toNatClampNeg with
                | none =>
                  refine tw_aald (v := .null) 4 rfl rfl dX5_areRoadsTheSame_45 f25 (vp_in_nI (by omega) (by decide)) (by rw [k56]; rfl) ?_
                  refine tw_astoreN [(8, .null), (0, .ref x), (1, .ref ca_4), (2, .int (nI 4)), (3, .int (nI k31)), (4, .null), (5, .ref ca_4), (6, .int (nI 4)), (7, .int (nI k44))] dX5_areRoadsTheSame_46 (by decide) rfl ?_
                  refine tw_aloadN 5 dX5_areRoadsTheSame_48 rfl ?_
                  refine tw_ifnullN 70 dX5_areRoadsTheSame_50 (by decide) ?_
                  obtain ⟨v58, ev58⟩ : ∃ y : Int32, y = (nI k44) + 1 := ⟨_, rfl⟩
                  refine tw_iinc [(7, .int v58), (8, .null), (0, .ref x), (1, .ref ca_4), (2, .int (nI 4)), (3, .int (nI k31)), (4, .null), (5, .ref ca_4), (6, .int (nI 4))] 8 dX5_areRoadsTheSame_70 rfl (by rw [ev58]; rfl) (by decide) rfl ?_
                  refine tw_goto 34 dX5_areRoadsTheSame_73 (by decide) ?_
                  have qv58 := tw_nI3 ev58
                  rw [qv58]
                  refine tw_lv [2, 3, 4, 5, 6, 7, 8, 0] rfl ?_
                  exact ih46 (k44 + 1)  (by omega) (by omega)
                | some q57 =>
                  have k59 := k27 _ _ k56
                  refine tw_aald (v := .ref q57) 4 rfl rfl dX5_areRoadsTheSame_45 f25 (vp_in_nI (by omega) (by decide)) (by rw [k56]; rfl) ?_
                  refine tw_astore [(8, .ref q57), (0, .ref x), (1, .ref ca_4), (2, .int (nI 4)), (3, .int (nI k31)), (4, .null), (5, .ref ca_4), (6, .int (nI 4)), (7, .int (nI k44))] dX5_areRoadsTheSame_46 (by decide) rfl ?_
                  refine tw_aloadN 5 dX5_areRoadsTheSame_48 rfl ?_
                  refine tw_ifnullN 70 dX5_areRoadsTheSame_50 (by decide) ?_
                  obtain ⟨v60, ev60⟩ : ∃ y : Int32, y = (nI k44) + 1 := ⟨_, rfl⟩
                  refine tw_iinc [(7, .int v60), (8, .ref q57), (0, .ref x), (1, .ref ca_4), (2, .int (nI 4)), (3, .int (nI k31)), (4, .null), (5, .ref ca_4), (6, .int (nI 4))] 8 dX5_areRoadsTheSame_70 rfl (by rw [ev60]; rfl) (by decide) rfl ?_
                  refine tw_goto 34 dX5_areRoadsTheSame_73 (by decide) ?_
                  have qv60 := tw_nI3 ev60
                  rw [qv60]
                  refine tw_lv [2, 3, 4, 5, 6, 7, 8, 0] rfl ?_
                  exact ih46 (k44 + 1)  (by omega) (by omega)
          refine tw_lv [4, 5, 6, 7, 3, 2, 1, 0] rfl ?_
          exact L47 (4 + 1) 0  (by omega) (by omega)
        | some q43 =>
          have k61 := k27 _ _ k42
          refine tw_aald (v := .ref q43) 4 rfl rfl dX5_areRoadsTheSame_17 f25 (vp_in_nI (by omega) (by decide)) (by rw [k42]; rfl) ?_
          refine tw_astore [(4, .ref q43), (0, .ref x), (1, .ref ca_4), (2, .int (nI 4)), (3, .int (nI k31))] dX5_areRoadsTheSame_18 (by decide) rfl ?_
          refine tw_aload_n 1 dX5_areRoadsTheSame_20 rfl rfl ?_
          refine tw_get (v := .ref ca_4) rfl in_9 2 dX5_areRoadsTheSame_21 w_142 rfl (by decide) f2 rfl ?_
          refine tw_astore [(5, .ref ca_4), (4, .ref q43), (0, .ref x), (1, .ref ca_4), (2, .int (nI 4)), (3, .int (nI k31))] dX5_areRoadsTheSame_24 (by decide) rfl ?_
          refine tw_aload 0 dX5_areRoadsTheSame_26 rfl ?_
          refine tw_alen (v := nI 4) 4 rfl dX5_areRoadsTheSame_28 f25 rfl ?_
          refine tw_istore [(6, .int (nI 4)), (5, .ref ca_4), (4, .ref q43), (0, .ref x), (1, .ref ca_4), (2, .int (nI 4)), (3, .int (nI k31))] dX5_areRoadsTheSame_29 (by decide) rfl ?_
          refine tw_iconst (v := 0) dX5_areRoadsTheSame_31 (by decide) ?_
          refine tw_istore [(7, .int 0), (6, .int (nI 4)), (5, .ref ca_4), (4, .ref q43), (0, .ref x), (1, .ref ca_4), (2, .int (nI 4)), (3, .int (nI k31))] dX5_areRoadsTheSame_32 (by decide) rfl ?_
          have L65 : ∀ (r63 k62 : Nat), 4 + 1 ≤ k62 + r63 → k62 ≤ 4 → tw_W d mX5_areRoadsTheSame (tw_qi (fun r h1 => h1 = h ∧ tw_01 r) tw_nx) 34 [(0, .ref x), (1, .ref ca_4), (2, .int (nI 4)), (3, .int (nI k31)), (4, .ref q43), (5, .ref ca_4), (6, .int (nI 4)), (7, .int (nI k62))] [] h 0 0 := by
            intro r63
            induction r63 with
            | zero => intro k62  hk69 hk70; exact absurd hk69 (by omega)
            | succ r63 ih64 =>
              intro k62  hk69 hk70
              refine tw_iload 7 dX5_areRoadsTheSame_34 rfl ?_
              refine tw_iload 6 dX5_areRoadsTheSame_36 rfl ?_
              refine tw_icmp_ge 76 dX5_areRoadsTheSame_38 (by decide) (fun c71 => ?_) (fun c71 => ?_)
              · obtain ⟨v72, ev72⟩ : ∃ y : Int32, y = (nI k31) + 1 := ⟨_, rfl⟩
                refine tw_iinc [(3, .int v72), (0, .ref x), (1, .ref ca_4), (2, .int (nI 4)), (4, .ref q43), (5, .ref ca_4), (6, .int (nI 4)), (7, .int (nI k62))] 3 dX5_areRoadsTheSame_76 rfl (by rw [ev72]; rfl) (by decide) rfl ?_
                refine tw_goto 10 dX5_areRoadsTheSame_79 (by decide) ?_
                have qv72 := tw_nI3 ev72
                rw [qv72]
                refine tw_lv [1, 2, 3, 0] rfl ?_
                exact ih33 (k31 + 1)  (by omega) (by omega)
              · have kl73 := tw_klt (N := 4) c71 hk70 (by decide)
                refine tw_aload 5 dX5_areRoadsTheSame_41 rfl ?_
                refine tw_iload 7 dX5_areRoadsTheSame_43 rfl ?_
                cases k74 : F26 ((nI k62)).toNatClampNeg with
                | none =>
                  refine tw_aald (v := .null) 4 rfl rfl dX5_areRoadsTheSame_45 f25 (vp_in_nI (by omega) (by decide)) (by rw [k74]; rfl) ?_
                  refine tw_astoreN [(8, .null), (0, .ref x), (1, .ref ca_4), (2, .int (nI 4)), (3, .int (nI k31)), (4, .ref q43), (5, .ref ca_4), (6, .int (nI 4)), (7, .int (nI k62))] dX5_areRoadsTheSame_46 (by decide) rfl ?_
                  refine tw_aload 5 dX5_areRoadsTheSame_48 rfl ?_
                  refine tw_ifnull dX5_areRoadsTheSame_50 ?_
                  refine tw_aloadN 0 dX5_areRoadsTheSame_53 rfl ?_
                  refine tw_ifnullN 70 dX5_areRoadsTheSame_55 (by decide) ?_
                  obtain ⟨v76, ev76⟩ : ∃ y : Int32, y = (nI k62) + 1 := ⟨_, rfl⟩
                  refine tw_iinc [(7, .int v76), (8, .null), (0, .ref x), (1, .ref ca_4), (2, .int (nI 4)), (3, .int (nI k31)), (4, .ref q43), (5, .ref ca_4), (6, .int (nI 4))] 8 dX5_areRoadsTheSame_70 rfl (by rw [ev76]; rfl) (by decide) rfl ?_
                  refine tw_goto 34 dX5_areRoadsTheSame_73 (by decide) ?_
                  have qv76 := tw_nI3 ev76
                  rw [qv76]
                  refine tw_lv [2, 3, 4, 5, 6, 7, 8, 0] rfl ?_
                  exact ih64 (k62 + 1)  (by omega) (by omega)
                | some q75 =>
                  have k77 := k27 _ _ k74
                  refine tw_aald (v := .ref q75) 4 rfl rfl dX5_areRoadsTheSame_45 f25 (vp_in_nI (by omega) (by decide)) (by rw [k74]; rfl) ?_
                  refine tw_astore [(8, .ref q75), (0, .ref x), (1, .ref ca_4), (2, .int (nI 4)), (3, .int (nI k31)), (4, .ref q43), (5, .ref ca_4), (6, .int (nI 4)), (7, .int (nI k62))] dX5_areRoadsTheSame_46 (by decide) rfl ?_
                  refine tw_aload 5 dX5_areRoadsTheSame_48 rfl ?_
                  refine tw_ifnull dX5_areRoadsTheSame_50 ?_
                  refine tw_aload 0 dX5_areRoadsTheSame_53 rfl ?_
                  refine tw_ifnull dX5_areRoadsTheSame_55 ?_
                  refine tw_aload 5 dX5_areRoadsTheSame_58 rfl ?_
                  refine tw_aload 0 dX5_areRoadsTheSame_60 rfl ?_
                  refine tw_bi (tw_callS (M := mX5_areRoadsTheSame) (pc := 62) okX5_hasSameRoads dX5_areRoadsTheSame_62 w_223 [.ref q43, .ref q75] [] rfl rfl ⟨by decide, by decide⟩ (Nat.le_of_ble_eq_true rfl) (c_X5_hasSameRoads d g τ h sp0.1 q43 k61 q75 k77) 0 0 (Nat.le_of_ble_eq_true rfl) (Nat.le_of_ble_eq_true rfl)) (fun r80 h79 q78 => ?_) (fun E h1 q => q.elim)
                  obtain ⟨q78e, p81⟩ := q78
                  rw [q78e]
                  refine tw_if_ne 70 dX5_areRoadsTheSame_65 (by decide) (fun c82 => ?_) (fun c82 => ?_)
                  · obtain ⟨v83, ev83⟩ : ∃ y : Int32, y = (nI k62) + 1 := ⟨_, rfl⟩
                    refine tw_iinc [(7, .int v83), (8, .ref q75), (0, .ref x), (1, .ref ca_4), (2, .int (nI 4)), (3, .int (nI k31)), (4, .ref q43), (5, .ref ca_4), (6, .int (nI 4))] 8 dX5_areRoadsTheSame_70 rfl (by rw [ev83]; rfl) (by decide) rfl ?_
                    refine tw_goto 34 dX5_areRoadsTheSame_73 (by decide) ?_
                    have qv83 := tw_nI3 ev83
                    rw [qv83]
                    refine tw_lv [2, 3, 4, 5, 6, 7, 8, 0] rfl ?_
                    exact ih64 (k62 + 1)  (by omega) (by omega)
                  · refine tw_iconst (v := 0) dX5_areRoadsTheSame_68 (by decide) ?_
                    exact tw_zret dX5_areRoadsTheSame_69 rfl rfl (Or.inl ⟨_, rfl, ⟨rfl, (by unfold tw_01; decide)⟩⟩)
          refine tw_lv [4, 5, 6, 7, 3, 2, 1, 0] rfl ?_
          exact L65 (4 + 1) 0  (by omega) (by omega)
  refine tw_lv [3, 2, 1, 0] rfl ?_
  exact L34 (4 + 1) 0  (by omega) (by omega)

set_option maxHeartbeats 4000000 in
set_option maxRecDepth 100000 in
theorem c_X5_isSound (d : tw_D) (g : tw_G) (τ : tw_K) (h : tw_H) (hw : tw_wt d g τ h) (x : Nat) (kx : τ x = 11) : tw_Ct d mX5_isSound 0 0 [.ref x] h (tw_qi (fun r h1 => h1 = h ∧ tw_01 r) tw_nx) := by
  refine tw_of (by decide +kernel) (Nat.le_of_ble_eq_true rfl) ?_
  show tw_W d mX5_isSound _ 0 [(0, .ref x)] [] h 0 0
  have sp0 := tw_sp.rf hw
  refine tw_aload_n 0 dX5_isSound_0 rfl rfl ?_
  refine tw_iconst (v := 0) dX5_isSound_1 (by decide) ?_
  obtain ⟨e1, f2, td_3, ca_4, ha_5, da_6, c1_7, c2_8, c3_9, c4_10, rfl, k11, k12, k13, k14, k15, k16, k17, k18, k19, k20, k21, k22, k23⟩ := sp0.1 x 11 kx (by decide)
  refine tw_bi (tw_callV (M := mX5_isSound) (pc := 2) okX5_isKept dX5_isSound_2 w_181 rfl f2 [.int 0] [] rfl rfl ⟨by decide, by decide⟩ (Nat.le_of_ble_eq_true rfl) (c_X5_isKept d g τ h sp0.1 x kx 0) 0 0 (Nat.le_of_ble_eq_true rfl) (Nat.le_of_ble_eq_true rfl)) (fun r26 h25 q24 => ?_) (fun E h1 q => q.elim)
  obtain ⟨q24e, p27⟩ := q24
  rw [q24e]
  refine tw_if_eq 41 dX5_isSound_5 (by decide) (fun c28 => ?_) (fun c28 => ?_)
  · refine tw_iconst (v := 0) dX5_isSound_41 (by decide) ?_
    exact tw_zret dX5_isSound_42 rfl rfl (Or.inl ⟨_, rfl, ⟨rfl, (by unfold tw_01; decide)⟩⟩)
  · refine tw_aload_n 0 dX5_isSound_8 rfl rfl ?_
    refine tw_iconst (v := 1) dX5_isSound_9 (by decide) ?_
    refine tw_bi (tw_callV (M := mX5_isSound) (pc := 10) okX5_isKept dX5_isSound_10 w_181 rfl f2 [.int 1] [] rfl rfl ⟨by decide, by decide⟩ (Nat.le_of_ble_eq_true rfl) (c_X5_isKept d g τ h sp0.1 x kx 1) 0 0 (Nat.le_of_ble_eq_true rfl) (Nat.le_of_ble_eq_true rfl)) (fun r31 h30 q29 => ?_) (fun E h1 q => q.elim)
    obtain ⟨q29e, p32⟩ := q29
    rw [q29e]
    refine tw_if_eq 41 dX5_isSound_13 (by decide) (fun c33 => ?_) (fun c33 => ?_)
    · refine tw_iconst (v := 0) dX5_isSound_41 (by decide) ?_
      exact tw_zret dX5_isSound_42 rfl rfl (Or.inl ⟨_, rfl, ⟨rfl, (by unfold tw_01; decide)⟩⟩)
    · refine tw_aload_n 0 dX5_isSound_16 rfl rfl ?_
      refine tw_bi (tw_callV (M := mX5_isSound) (pc := 17) okX5_areCountriesSound dX5_isSound_17 w_197 rfl f2 [] [] rfl rfl ⟨by decide, by decide⟩ (Nat.le_of_ble_eq_true rfl) (c_X5_areCountriesSound d g τ h sp0.1 x kx) 0 0 (Nat.le_of_ble_eq_true rfl) (Nat.le_of_ble_eq_true rfl)) (fun r36 h35 q34 => ?_) (fun E h1 q => q.elim)
      obtain ⟨q34e, p37⟩ := q34
      rw [q34e]
      refine tw_if_eq 41 dX5_isSound_20 (by decide) (fun c38 => ?_) (fun c38 => ?_)
      · refine tw_iconst (v := 0) dX5_isSound_41 (by decide) ?_
        exact tw_zret dX5_isSound_42 rfl rfl (Or.inl ⟨_, rfl, ⟨rfl, (by unfold tw_01; decide)⟩⟩)
      · refine tw_aload_n 0 dX5_isSound_23 rfl rfl ?_
        refine tw_bi (tw_callV (M := mX5_isSound) (pc := 24) okX5_areHousesSound dX5_isSound_24 w_210 rfl f2 [] [] rfl rfl ⟨by decide, by decide⟩ (Nat.le_of_ble_eq_true rfl) (c_X5_areHousesSound d g τ h sp0.1 x kx) 0 0 (Nat.le_of_ble_eq_true rfl) (Nat.le_of_ble_eq_true rfl)) (fun r41 h40 q39 => ?_) (fun E h1 q => q.elim)
        obtain ⟨q39e, p42⟩ := q39
        rw [q39e]
        refine tw_if_eq 41 dX5_isSound_27 (by decide) (fun c43 => ?_) (fun c43 => ?_)
        · refine tw_iconst (v := 0) dX5_isSound_41 (by decide) ?_
          exact tw_zret dX5_isSound_42 rfl rfl (Or.inl ⟨_, rfl, ⟨rfl, (by unfold tw_01; decide)⟩⟩)
        · refine tw_aload_n 0 dX5_isSound_30 rfl rfl ?_
          refine tw_bi (tw_callV (M := mX5_isSound) (pc := 31) okX5_areRoadsTheSame dX5_isSound_31 w_219 rfl f2 [] [] rfl rfl ⟨by decide, by decide⟩ (Nat.le_of_ble_eq_true rfl) (c_X5_areRoadsTheSame d g τ h sp0.1 x kx) 0 0 (Nat.le_of_ble_eq_true rfl) (Nat.le_of_ble_eq_true rfl)) (fun r46 h45 q44 => ?_) (fun E h1 q => q.elim)
          obtain ⟨q44e, p47⟩ := q44
          rw [q44e]
          refine tw_if_eq 41 dX5_isSound_34 (by decide) (fun c48 => ?_) (fun c48 => ?_)
          · refine tw_iconst (v := 0) dX5_isSound_41 (by decide) ?_
            exact tw_zret dX5_isSound_42 rfl rfl (Or.inl ⟨_, rfl, ⟨rfl, (by unfold tw_01; decide)⟩⟩)
          · refine tw_iconst (v := 1) dX5_isSound_37 (by decide) ?_
            refine tw_goto 42 dX5_isSound_38 (by decide) ?_
            exact tw_zret dX5_isSound_42 rfl rfl (Or.inl ⟨_, rfl, ⟨rfl, (by unfold tw_01; decide)⟩⟩)

set_option maxHeartbeats 4000000 in
set_option maxRecDepth 100000 in
theorem c_X5_digestWorld (d : tw_D) (g : tw_G) (τ : tw_K) (h : tw_H) (hw : tw_wt d g τ h) (x : Nat) (kx : τ x = 11) (v : Int64) (m : Int32) : tw_Ct d mX5_digestWorld 0 0 [.ref x, .long v, .int m] h (tw_ql (fun r h1 => h1 = h) tw_nx) := by
  refine tw_of (by decide +kernel) (Nat.le_of_ble_eq_true rfl) ?_
  show tw_W d mX5_digestWorld _ 0 [(0, .ref x), (1, .long v), (3, .int m)] [] h 0 0
  have sp0 := tw_sp.rf hw
  refine tw_lload_n 1 dX5_digestWorld_0 rfl rfl ?_
  refine tw_lstore [(4, .long v), (0, .ref x), (1, .long v), (3, .int m)] dX5_digestWorld_1 (by decide) rfl ?_
  refine tw_iconst (v := 0) dX5_digestWorld_3 (by decide) ?_
  refine tw_istore [(6, .int 0), (4, .long v), (0, .ref x), (1, .long v), (3, .int m)] dX5_digestWorld_4 (by decide) rfl ?_
  have L5 : ∀ (r3 k2 : Nat) (x1 : Int64), 6 + 1 ≤ k2 + r3 → k2 ≤ 6 → tw_W d mX5_digestWorld (tw_ql (fun r h1 => h1 = h) tw_nx) 6 [(0, .ref x), (1, .long v), (3, .int m), (4, .long x1), (6, .int (nI k2))] [] h 0 0 := by
    intro r3
    induction r3 with
    | zero => intro k2 x1 hk9 hk10; exact absurd hk9 (by omega)
    | succ r3 ih4 =>
      intro k2 x1 hk9 hk10
      refine tw_iload 4 dX5_digestWorld_6 rfl ?_
      refine tw_bipush (v := 6) dX5_digestWorld_8 (by decide) ?_
      refine tw_icmp_ge 36 dX5_digestWorld_10 (by decide) (fun c11 => ?_) (fun c11 => ?_)
      · refine tw_lload 3 dX5_digestWorld_36 rfl ?_
        exact tw_lret dX5_digestWorld_38 rfl (Or.inl ⟨_, rfl, rfl⟩)
      · have kl12 := tw_klt (N := 6) c11 hk10 (by decide)
        refine tw_lload 3 dX5_digestWorld_13 rfl ?_
        refine tw_ldc2 (v := 31) dX5_digestWorld_15 w_240 ?_
        refine tw_lmul dX5_digestWorld_18 ?_
        refine tw_nml (fun v13 ev13 => ?_)
        refine tw_aload_n 0 dX5_digestWorld_19 rfl rfl ?_
        refine tw_iload_n 2 dX5_digestWorld_20 rfl rfl ?_
        refine tw_iload 4 dX5_digestWorld_21 rfl ?_
        obtain ⟨e14, f15, td_16, ca_17, ha_18, da_19, c1_20, c2_21, c3_22, c4_23, rfl, k24, k25, k26, k27, k28, k29, k30, k31, k32, k33, k34, k35, k36⟩ := sp0.1 x 11 kx (by decide)
        refine tw_bi (tw_callV (M := mX5_digestWorld) (pc := 23) okX5_worldFact dX5_digestWorld_23 w_245 rfl f15 [.int m, .int (nI k2)] [.long v13] rfl rfl ⟨by decide, by decide⟩ (Nat.le_of_ble_eq_true rfl) (c_X5_worldFact d g τ h sp0.1 x kx m (nI k2)) 0 0 (Nat.le_of_ble_eq_true rfl) (Nat.le_of_ble_eq_true rfl)) (fun r39 h38 q37 => ?_) (fun E h1 q => q.elim)
        rw [q37]
        refine tw_i2l dX5_digestWorld_26 ?_
        refine tw_nml (fun v40 ev40 => ?_)
        refine tw_ladd dX5_digestWorld_27 ?_
        refine tw_nml (fun v41 ev41 => ?_)
        refine tw_lstore [(4, .long v41), (0, .ref x), (1, .long v), (3, .int m), (6, .int (nI k2))] dX5_digestWorld_28 (by decide) rfl ?_
        obtain ⟨v42, ev42⟩ : ∃ y : Int32, y = (nI k2) + 1 := ⟨_, rfl⟩
        refine tw_iinc [(6, .int v42), (4, .long v41), (0, .ref x), (1, .long v), (3, .int m)] 4 dX5_digestWorld_30 rfl (by rw [ev42]; rfl) (by decide) rfl ?_
        refine tw_goto 6 dX5_digestWorld_33 (by decide) ?_
        have qv42 := tw_nI3 ev42
        rw [qv42]
        refine tw_lv [2, 3, 4, 1, 0] rfl ?_
        exact ih4 (k2 + 1) v41 (by omega) (by omega)
  refine tw_lv [2, 3, 4, 1, 0] rfl ?_
  exact L5 (6 + 1) 0 v (by omega) (by omega)

set_option maxHeartbeats 4000000 in
set_option maxRecDepth 100000 in
theorem c_X5_digestCountry (d : tw_D) (g : tw_G) (τ : tw_K) (h : tw_H) (hw : tw_wt d g τ h) (x : Nat) (kx : τ x = 11) (v : Int64) (c : Nat) (kc : τ c = 2) : tw_Ct d mX5_digestCountry 0 0 [.ref x, .long v, .ref c] h (tw_ql (fun r h1 => h1 = h) tw_nx) := by
  refine tw_of (by decide +kernel) (Nat.le_of_ble_eq_true rfl) ?_
  show tw_W d mX5_digestCountry _ 0 [(0, .ref x), (1, .long v), (3, .ref c)] [] h 0 0
  have sp0 := tw_sp.rf hw
  refine tw_lload_n 1 dX5_digestCountry_0 rfl rfl ?_
  refine tw_lstore [(4, .long v), (0, .ref x), (1, .long v), (3, .ref c)] dX5_digestCountry_1 (by decide) rfl ?_
  refine tw_iconst (v := 0) dX5_digestCountry_3 (by decide) ?_
  refine tw_istore [(6, .int 0), (4, .long v), (0, .ref x), (1, .long v), (3, .ref c)] dX5_digestCountry_4 (by decide) rfl ?_
  have L5 : ∀ (r3 k2 : Nat) (x1 : Int64), 9 + 1 ≤ k2 + r3 → k2 ≤ 9 → tw_W d mX5_digestCountry (tw_ql (fun r h1 => h1 = h) tw_nx) 6 [(0, .ref x), (1, .long v), (3, .ref c), (4, .long x1), (6, .int (nI k2))] [] h 0 0 := by
    intro r3
    induction r3 with
    | zero => intro k2 x1 hk9 hk10; exact absurd hk9 (by omega)
    | succ r3 ih4 =>
      intro k2 x1 hk9 hk10
      refine tw_iload 4 dX5_digestCountry_6 rfl ?_
      refine tw_bipush (v := 9) dX5_digestCountry_8 (by decide) ?_
      refine tw_icmp_ge 36 dX5_digestCountry_10 (by decide) (fun c11 => ?_) (fun c11 => ?_)
      · refine tw_lload 3 dX5_digestCountry_36 rfl ?_
        refine tw_ldc2 (v := 31) dX5_digestCountry_38 w_240 ?_
        refine tw_lmul dX5_digestCountry_41 ?_
        refine tw_nml (fun v12 ev12 => ?_)
        refine tw_aload_n 2 dX5_digestCountry_42 rfl rfl ?_
        obtain ⟨e13, f14, n_15, r_16, c_17, go_18, so_19, v_20, rd_21, rf_22, t_23, rfl, k24, k25, k26, k27, k28, k29, k30, k31⟩ := sp0.1 c 2 kc (by decide)
        refine tw_getN (v := .ref t_23) rfl in_4 8 dX5_digestCountry_43 w_514 rfl (by decide) f14 rfl ?_
        refine tw_bipush (v := 37) dX5_digestCountry_46 (by decide) ?_
        obtain ⟨e32, f33, m_34, rfl, k35⟩ := sp0.1 t_23 5 k27 (by decide)
        refine tw_bi (tw_callVN (M := mX5_digestCountry) (pc := 48) okX4_fewestFor dX5_digestCountry_48 w_285 rfl f33 [.int 37] [.long v12] rfl rfl ⟨by decide, by decide⟩ (Nat.le_of_ble_eq_true rfl) (c_X4_fewestFor d g τ h sp0.1 t_23 k27 37) 0 0 (Nat.le_of_ble_eq_true rfl) (Nat.le_of_ble_eq_true rfl)) (fun r38 h37 q36 => ?_) (fun E h1 q => q.elim)
        rw [q36]
        refine tw_i2l dX5_digestCountry_51 ?_
        refine tw_nml (fun v39 ev39 => ?_)
        refine tw_ladd dX5_digestCountry_52 ?_
        refine tw_nml (fun v40 ev40 => ?_)
        refine tw_lstore [(4, .long v40), (0, .ref x), (1, .long v), (3, .ref c), (6, .int (nI k2))] dX5_digestCountry_53 (by decide) rfl ?_
        refine tw_lload 0 dX5_digestCountry_55 rfl ?_
        refine tw_ldc2 (v := 31) dX5_digestCountry_57 w_240 ?_
        refine tw_lmul dX5_digestCountry_60 ?_
        refine tw_nml (fun v41 ev41 => ?_)
        refine tw_aload_n 1 dX5_digestCountry_61 rfl rfl ?_
        refine tw_aload_n 3 dX5_digestCountry_62 rfl rfl ?_
        refine tw_iconst (v := 0) dX5_digestCountry_63 (by decide) ?_
        refine tw_sipush (v := 1000) dX5_digestCountry_64 (by decide) ?_
        obtain ⟨e42, f43, td_44, ca_45, ha_46, da_47, c1_48, c2_49, c3_50, c4_51, rfl, k52, k53, k54, k55, k56, k57, k58, k59, k60, k61, k62, k63, k64⟩ := sp0.1 x 11 kx (by decide)
        refine tw_bi (tw_callV (M := mX5_digestCountry) (pc := 67) okX5_bestOver dX5_digestCountry_67 w_292 rfl f43 [.ref c, .int 0, .int 1000] [.long v41] rfl rfl ⟨by decide, by decide⟩ (Nat.le_of_ble_eq_true rfl) (c_X5_bestOver d g τ h sp0.1 x kx c kc 0 1000) 0 0 (Nat.le_of_ble_eq_true rfl) (Nat.le_of_ble_eq_true rfl)) (fun r67 h66 q65 => ?_) (fun E h1 q => q.elim)
        rw [q65]
        refine tw_i2l dX5_digestCountry_70 ?_
        refine tw_nml (fun v68 ev68 => ?_)
        refine tw_ladd dX5_digestCountry_71 ?_
        refine tw_nml (fun v69 ev69 => ?_)
        refine tw_lstore [(4, .long v69), (0, .ref x), (1, .long v), (3, .ref c), (6, .int (nI k2))] dX5_digestCountry_72 (by decide) rfl ?_
        refine tw_lload 0 dX5_digestCountry_74 rfl ?_
        refine tw_ldc2 (v := 31) dX5_digestCountry_76 w_240 ?_
        refine tw_lmul dX5_digestCountry_79 ?_
        refine tw_nml (fun v70 ev70 => ?_)
        refine tw_aload_n 1 dX5_digestCountry_80 rfl rfl ?_
        refine tw_aload_n 3 dX5_digestCountry_81 rfl rfl ?_
        refine tw_iconst (v := 1) dX5_digestCountry_82 (by decide) ?_
        refine tw_sipush (v := 1000) dX5_digestCountry_83 (by decide) ?_
        refine tw_bi (tw_callV (M := mX5_digestCountry) (pc := 86) okX5_bestOver dX5_digestCountry_86 w_292 rfl f43 [.ref c, .int 1, .int 1000] [.long v70] rfl rfl ⟨by decide, by decide⟩ (Nat.le_of_ble_eq_true rfl) (c_X5_bestOver d g τ h sp0.1 x kx c kc 1 1000) 0 0 (Nat.le_of_ble_eq_true rfl) (Nat.le_of_ble_eq_true rfl)) (fun r73 h72 q71 => ?_) (fun E h1 q => q.elim)
        rw [q71]
        refine tw_i2l dX5_digestCountry_89 ?_
        refine tw_nml (fun v74 ev74 => ?_)
        refine tw_ladd dX5_digestCountry_90 ?_
        refine tw_nml (fun v75 ev75 => ?_)
        refine tw_lstore [(4, .long v75), (0, .ref x), (1, .long v), (3, .ref c), (6, .int (nI k2))] dX5_digestCountry_91 (by decide) rfl ?_
        refine tw_lload 0 dX5_digestCountry_93 rfl ?_
        refine tw_ldc2 (v := 31) dX5_digestCountry_95 w_240 ?_
        refine tw_lmul dX5_digestCountry_98 ?_
        refine tw_nml (fun v76 ev76 => ?_)
        refine tw_aload_n 1 dX5_digestCountry_99 rfl rfl ?_
        refine tw_aload_n 3 dX5_digestCountry_100 rfl rfl ?_
        refine tw_getN (v := .ref v_20) rfl in_4 3 dX5_digestCountry_101 w_508 rfl (by decide) f14 rfl ?_
        refine tw_iconst (v := 0) dX5_digestCountry_104 (by decide) ?_
        refine tw_bipush (v := 10) dX5_digestCountry_105 (by decide) ?_
        refine tw_bi (tw_callV (M := mX5_digestCountry) (pc := 107) okX5_firstDayShort dX5_digestCountry_107 w_321 rfl f43 [.ref v_20, .int 0, .int 10] [.long v76] rfl rfl ⟨by decide, by decide⟩ (Nat.le_of_ble_eq_true rfl) (c_X5_firstDayShort d g τ h sp0.1 x kx v_20 k24 0 10) 0 0 (Nat.le_of_ble_eq_true rfl) (Nat.le_of_ble_eq_true rfl)) (fun r79 h78 q77 => ?_) (fun E h1 q => q.elim)
        rw [q77]
        refine tw_i2l dX5_digestCountry_110 ?_
        refine tw_nml (fun v80 ev80 => ?_)
        refine tw_ladd dX5_digestCountry_111 ?_
        refine tw_nml (fun v81 ev81 => ?_)
        refine tw_lstore [(4, .long v81), (0, .ref x), (1, .long v), (3, .ref c), (6, .int (nI k2))] dX5_digestCountry_112 (by decide) rfl ?_
        refine tw_lload 0 dX5_digestCountry_114 rfl ?_
        refine tw_ldc2 (v := 31) dX5_digestCountry_116 w_240 ?_
        refine tw_lmul dX5_digestCountry_119 ?_
        refine tw_nml (fun v82 ev82 => ?_)
        refine tw_aload_n 1 dX5_digestCountry_120 rfl rfl ?_
        refine tw_aload_n 3 dX5_digestCountry_121 rfl rfl ?_
        refine tw_getN (v := .ref v_20) rfl in_4 3 dX5_digestCountry_122 w_508 rfl (by decide) f14 rfl ?_
        refine tw_iconst (v := 1) dX5_digestCountry_125 (by decide) ?_
        refine tw_bipush (v := 10) dX5_digestCountry_126 (by decide) ?_
        refine tw_bi (tw_callV (M := mX5_digestCountry) (pc := 128) okX5_firstDayShort dX5_digestCountry_128 w_321 rfl f43 [.ref v_20, .int 1, .int 10] [.long v82] rfl rfl ⟨by decide, by decide⟩ (Nat.le_of_ble_eq_true rfl) (c_X5_firstDayShort d g τ h sp0.1 x kx v_20 k24 1 10) 0 0 (Nat.le_of_ble_eq_true rfl) (Nat.le_of_ble_eq_true rfl)) (fun r85 h84 q83 => ?_) (fun E h1 q => q.elim)
        rw [q83]
        refine tw_i2l dX5_digestCountry_131 ?_
        refine tw_nml (fun v86 ev86 => ?_)
        refine tw_ladd dX5_digestCountry_132 ?_
        refine tw_nml (fun v87 ev87 => ?_)
        refine tw_lstore [(4, .long v87), (0, .ref x), (1, .long v), (3, .ref c), (6, .int (nI k2))] dX5_digestCountry_133 (by decide) rfl ?_
        refine tw_lload 0 dX5_digestCountry_135 rfl ?_
        exact tw_lret dX5_digestCountry_137 rfl (Or.inl ⟨_, rfl, rfl⟩)
      · have kl88 := tw_klt (N := 9) c11 hk10 (by decide)
        refine tw_lload 3 dX5_digestCountry_13 rfl ?_
        refine tw_ldc2 (v := 31) dX5_digestCountry_15 w_240 ?_
        refine tw_lmul dX5_digestCountry_18 ?_
        refine tw_nml (fun v89 ev89 => ?_)
        refine tw_aload_n 0 dX5_digestCountry_19 rfl rfl ?_
        refine tw_aload_n 2 dX5_digestCountry_20 rfl rfl ?_
        refine tw_iload 4 dX5_digestCountry_21 rfl ?_
        obtain ⟨e90, f91, td_92, ca_93, ha_94, da_95, c1_96, c2_97, c3_98, c4_99, rfl, k100, k101, k102, k103, k104, k105, k106, k107, k108, k109, k110, k111, k112⟩ := sp0.1 x 11 kx (by decide)
        refine tw_bi (tw_callV (M := mX5_digestCountry) (pc := 23) okX5_countryFact dX5_digestCountry_23 w_253 rfl f91 [.ref c, .int (nI k2)] [.long v89] rfl rfl ⟨by decide, by decide⟩ (Nat.le_of_ble_eq_true rfl) (c_X5_countryFact d g τ h sp0.1 x kx c kc (nI k2)) 0 0 (Nat.le_of_ble_eq_true rfl) (Nat.le_of_ble_eq_true rfl)) (fun r115 h114 q113 => ?_) (fun E h1 q => q.elim)
        rw [q113]
        refine tw_i2l dX5_digestCountry_26 ?_
        refine tw_nml (fun v116 ev116 => ?_)
        refine tw_ladd dX5_digestCountry_27 ?_
        refine tw_nml (fun v117 ev117 => ?_)
        refine tw_lstore [(4, .long v117), (0, .ref x), (1, .long v), (3, .ref c), (6, .int (nI k2))] dX5_digestCountry_28 (by decide) rfl ?_
        obtain ⟨v118, ev118⟩ : ∃ y : Int32, y = (nI k2) + 1 := ⟨_, rfl⟩
        refine tw_iinc [(6, .int v118), (4, .long v117), (0, .ref x), (1, .long v), (3, .ref c)] 4 dX5_digestCountry_30 rfl (by rw [ev118]; rfl) (by decide) rfl ?_
        refine tw_goto 6 dX5_digestCountry_33 (by decide) ?_
        have qv118 := tw_nI3 ev118
        rw [qv118]
        refine tw_lv [2, 3, 4, 1, 0] rfl ?_
        exact ih4 (k2 + 1) v117 (by omega) (by omega)
  refine tw_lv [2, 3, 4, 1, 0] rfl ?_
  exact L5 (9 + 1) 0 v (by omega) (by omega)

set_option maxHeartbeats 4000000 in
set_option maxRecDepth 100000 in
theorem c_X5_digestHouse (d : tw_D) (g : tw_G) (τ : tw_K) (h : tw_H) (hw : tw_wt d g τ h) (x : Nat) (kx : τ x = 11) (v : Int64) (c : Nat) (kc : τ c = 3) : tw_Ct d mX5_digestHouse 0 0 [.ref x, .long v, .ref c] h (tw_ql (fun r h1 => h1 = h) tw_nx) := by
  refine tw_of (by decide +kernel) (Nat.le_of_ble_eq_true rfl) ?_
  show tw_W d mX5_digestHouse _ 0 [(0, .ref x), (1, .long v), (3, .ref c)] [] h 0 0
  have sp0 := tw_sp.rf hw
  refine tw_lload_n 1 dX5_digestHouse_0 rfl rfl ?_
  refine tw_lstore [(4, .long v), (0, .ref x), (1, .long v), (3, .ref c)] dX5_digestHouse_1 (by decide) rfl ?_
  refine tw_iconst (v := 0) dX5_digestHouse_3 (by decide) ?_
  refine tw_istore [(6, .int 0), (4, .long v), (0, .ref x), (1, .long v), (3, .ref c)] dX5_digestHouse_4 (by decide) rfl ?_
  have L5 : ∀ (r3 k2 : Nat) (x1 : Int64), 8 + 1 ≤ k2 + r3 → k2 ≤ 8 → tw_W d mX5_digestHouse (tw_ql (fun r h1 => h1 = h) tw_nx) 6 [(0, .ref x), (1, .long v), (3, .ref c), (4, .long x1), (6, .int (nI k2))] [] h 0 0 := by
    intro r3
    induction r3 with
    | zero => intro k2 x1 hk9 hk10; exact absurd hk9 (by omega)
    | succ r3 ih4 =>
      intro k2 x1 hk9 hk10
      refine tw_iload 4 dX5_digestHouse_6 rfl ?_
      refine tw_bipush (v := 8) dX5_digestHouse_8 (by decide) ?_
      refine tw_icmp_ge 36 dX5_digestHouse_10 (by decide) (fun c11 => ?_) (fun c11 => ?_)
      · refine tw_lload 3 dX5_digestHouse_36 rfl ?_
        exact tw_lret dX5_digestHouse_38 rfl (Or.inl ⟨_, rfl, rfl⟩)
      · have kl12 := tw_klt (N := 8) c11 hk10 (by decide)
        refine tw_lload 3 dX5_digestHouse_13 rfl ?_
        refine tw_ldc2 (v := 31) dX5_digestHouse_15 w_240 ?_
        refine tw_lmul dX5_digestHouse_18 ?_
        refine tw_nml (fun v13 ev13 => ?_)
        refine tw_aload_n 0 dX5_digestHouse_19 rfl rfl ?_
        refine tw_aload_n 2 dX5_digestHouse_20 rfl rfl ?_
        refine tw_iload 4 dX5_digestHouse_21 rfl ?_
        obtain ⟨e14, f15, td_16, ca_17, ha_18, da_19, c1_20, c2_21, c3_22, c4_23, rfl, k24, k25, k26, k27, k28, k29, k30, k31, k32, k33, k34, k35, k36⟩ := sp0.1 x 11 kx (by decide)
        refine tw_bi (tw_callV (M := mX5_digestHouse) (pc := 23) okX5_houseFact dX5_digestHouse_23 w_332 rfl f15 [.ref c, .int (nI k2)] [.long v13] rfl rfl ⟨by decide, by decide⟩ (Nat.le_of_ble_eq_true rfl) (c_X5_houseFact d g τ h sp0.1 x kx c kc (nI k2)) 0 0 (Nat.le_of_ble_eq_true rfl) (Nat.le_of_ble_eq_true rfl)) (fun r39 h38 q37 => ?_) (fun E h1 q => q.elim)
        rw [q37]
        refine tw_i2l dX5_digestHouse_26 ?_
        refine tw_nml (fun v40 ev40 => ?_)
        refine tw_ladd dX5_digestHouse_27 ?_
        refine tw_nml (fun v41 ev41 => ?_)
        refine tw_lstore [(4, .long v41), (0, .ref x), (1, .long v), (3, .ref c), (6, .int (nI k2))] dX5_digestHouse_28 (by decide) rfl ?_
        obtain ⟨v42, ev42⟩ : ∃ y : Int32, y = (nI k2) + 1 := ⟨_, rfl⟩
        refine tw_iinc [(6, .int v42), (4, .long v41), (0, .ref x), (1, .long v), (3, .ref c)] 4 dX5_digestHouse_30 rfl (by rw [ev42]; rfl) (by decide) rfl ?_
        refine tw_goto 6 dX5_digestHouse_33 (by decide) ?_
        have qv42 := tw_nI3 ev42
        rw [qv42]
        refine tw_lv [2, 3, 4, 1, 0] rfl ?_
        exact ih4 (k2 + 1) v41 (by omega) (by omega)
  refine tw_lv [2, 3, 4, 1, 0] rfl ?_
  exact L5 (8 + 1) 0 v (by omega) (by omega)

set_option maxHeartbeats 4000000 in
set_option maxRecDepth 100000 in
theorem c_X5_digestDebt (d : tw_D) (g : tw_G) (τ : tw_K) (h : tw_H) (hw : tw_wt d g τ h) (x : Nat) (kx : τ x = 11) (v : Int64) (c : Nat) (kc : τ c = 4) : tw_Ct d mX5_digestDebt 0 0 [.ref x, .long v, .ref c] h (tw_ql (fun r h1 => h1 = h) tw_nx) := by
  refine tw_of (by decide +kernel) (Nat.le_of_ble_eq_true rfl) ?_
  show tw_W d mX5_digestDebt _ 0 [(0, .ref x), (1, .long v), (3, .ref c)] [] h 0 0
  have sp0 := tw_sp.rf hw
  refine tw_lload_n 1 dX5_digestDebt_0 rfl rfl ?_
  refine tw_lstore [(4, .long v), (0, .ref x), (1, .long v), (3, .ref c)] dX5_digestDebt_1 (by decide) rfl ?_
  refine tw_iconst (v := 4) dX5_digestDebt_3 (by decide) ?_
  refine tw_istore [(6, .int 4), (4, .long v), (0, .ref x), (1, .long v), (3, .ref c)] dX5_digestDebt_4 (by decide) rfl ?_
  have L5 : ∀ (r3 : Nat) (x1 : Int64) (x2 : Int32), ((7 : Int32).toInt - x2.toInt).toNat < r3 → tw_W d mX5_digestDebt (tw_ql (fun r h1 => h1 = h) tw_nx) 6 [(0, .ref x), (1, .long v), (3, .ref c), (4, .long x1), (6, .int x2)] [] h 0 0 := by
    intro r3
    induction r3 with
    | zero => intro x1 x2 hk9; exact absurd hk9 (Nat.not_lt_zero _)
    | succ r3 ih4 =>
      intro x1 x2 hk9
      refine tw_iload 4 dX5_digestDebt_6 rfl ?_
      refine tw_bipush (v := 7) dX5_digestDebt_8 (by decide) ?_
      refine tw_icmp_ge 36 dX5_digestDebt_10 (by decide) (fun c11 => ?_) (fun c11 => ?_)
      · refine tw_lload 3 dX5_digestDebt_36 rfl ?_
        exact tw_lret dX5_digestDebt_38 rfl (Or.inl ⟨_, rfl, rfl⟩)
      · refine tw_lload 3 dX5_digestDebt_13 rfl ?_
        refine tw_ldc2 (v := 31) dX5_digestDebt_15 w_240 ?_
        refine tw_lmul dX5_digestDebt_18 ?_
        refine tw_nml (fun v12 ev12 => ?_)
        refine tw_aload_n 0 dX5_digestDebt_19 rfl rfl ?_
        refine tw_aload_n 2 dX5_digestDebt_20 rfl rfl ?_
        refine tw_iload 4 dX5_digestDebt_21 rfl ?_
        obtain ⟨e13, f14, td_15, ca_16, ha_17, da_18, c1_19, c2_20, c3_21, c4_22, rfl, k23, k24, k25, k26, k27, k28, k29, k30, k31, k32, k33, k34, k35⟩ := sp0.1 x 11 kx (by decide)
        refine tw_bi (tw_callV (M := mX5_digestDebt) (pc := 23) okX5_debtFact dX5_digestDebt_23 w_351 rfl f14 [.ref c, .int x2] [.long v12] rfl rfl ⟨by decide, by decide⟩ (Nat.le_of_ble_eq_true rfl) (c_X5_debtFact d g τ h sp0.1 x kx c kc x2) 0 0 (Nat.le_of_ble_eq_true rfl) (Nat.le_of_ble_eq_true rfl)) (fun r38 h37 q36 => ?_) (fun E h1 q => q.elim)
        rw [q36]
        refine tw_i2l dX5_digestDebt_26 ?_
        refine tw_nml (fun v39 ev39 => ?_)
        refine tw_ladd dX5_digestDebt_27 ?_
        refine tw_nml (fun v40 ev40 => ?_)
        refine tw_lstore [(4, .long v40), (0, .ref x), (1, .long v), (3, .ref c), (6, .int x2)] dX5_digestDebt_28 (by decide) rfl ?_
        obtain ⟨v41, ev41⟩ : ∃ y : Int32, y = x2 + 1 := ⟨_, rfl⟩
        refine tw_iinc [(6, .int v41), (4, .long v40), (0, .ref x), (1, .long v), (3, .ref c)] 4 dX5_digestDebt_30 rfl (by rw [ev41]; rfl) (by decide) rfl ?_
        refine tw_goto 6 dX5_digestDebt_33 (by decide) ?_
        refine tw_lv [2, 3, 4, 1, 0] rfl ?_
        exact ih4 v40 v41 (tw_mup ev41 c11 hk9)
  refine tw_lv [2, 3, 4, 1, 0] rfl ?_
  exact L5 _ v 4 (Nat.lt_succ_self _)

set_option maxHeartbeats 4000000 in
set_option maxRecDepth 100000 in
theorem c_X5_digest (d : tw_D) (g : tw_G) (τ : tw_K) (h : tw_H) (hw : tw_wt d g τ h) (x : Nat) (kx : τ x = 11) : tw_Ct d mX5_digest 0 0 [.ref x] h (tw_ql (fun r h1 => h1 = h) tw_nx) := by
  refine tw_of (by decide +kernel) (Nat.le_of_ble_eq_true rfl) ?_
  show tw_W d mX5_digest _ 0 [(0, .ref x)] [] h 0 0
  have sp0 := tw_sp.rf hw
  refine tw_ldc2 (v := 5573) dX5_digest_0 w_239 ?_
  refine tw_lstore_n [(1, .long 5573), (0, .ref x)] dX5_digest_3 rfl (by decide) rfl ?_
  refine tw_lload_n 0 dX5_digest_4 rfl rfl ?_
  refine tw_ldc2 (v := 31) dX5_digest_5 w_240 ?_
  refine tw_lmul dX5_digest_8 ?_
  refine tw_nml (fun v1 ev1 => ?_)
  refine tw_aload_n 1 dX5_digest_9 rfl rfl ?_
  obtain ⟨e2, f3, td_4, ca_5, ha_6, da_7, c1_8, c2_9, c3_10, c4_11, rfl, k12, k13, k14, k15, k16, k17, k18, k19, k20, k21, k22, k23, k24⟩ := sp0.1 x 11 kx (by decide)
  refine tw_get (v := .int td_4) rfl in_9 0 dX5_digest_10 w_140 rfl (by decide) f3 rfl ?_
  refine tw_i2l dX5_digest_13 ?_
  refine tw_nml (fun v25 ev25 => ?_)
  refine tw_ladd dX5_digest_14 ?_
  refine tw_nml (fun v26 ev26 => ?_)
  refine tw_lstore_n [(1, .long v26), (0, .ref x)] dX5_digest_15 rfl (by decide) rfl ?_
  refine tw_lload_n 0 dX5_digest_16 rfl rfl ?_
  refine tw_ldc2 (v := 31) dX5_digest_17 w_240 ?_
  refine tw_lmul dX5_digest_20 ?_
  refine tw_nml (fun v27 ev27 => ?_)
  refine tw_aload_n 1 dX5_digest_21 rfl rfl ?_
  refine tw_get (v := .int (g.1 0)) rfl in_9 1 dX5_digest_22 w_141 rfl (by decide) f3 rfl ?_
  refine tw_i2l dX5_digest_25 ?_
  refine tw_nml (fun v28 ev28 => ?_)
  refine tw_ladd dX5_digest_26 ?_
  refine tw_nml (fun v29 ev29 => ?_)
  refine tw_lstore_n [(1, .long v29), (0, .ref x)] dX5_digest_27 rfl (by decide) rfl ?_
  refine tw_aload_n 1 dX5_digest_28 rfl rfl ?_
  refine tw_lload_n 0 dX5_digest_29 rfl rfl ?_
  refine tw_iconst (v := 0) dX5_digest_30 (by decide) ?_
  refine tw_bl (tw_callV (M := mX5_digest) (pc := 31) okX5_digestWorld dX5_digest_31 w_241 rfl f3 [.long v29, .int 0] [] rfl rfl ⟨by decide, by decide⟩ (Nat.le_of_ble_eq_true rfl) (c_X5_digestWorld d g τ h sp0.1 x kx v29 0) 0 0 (Nat.le_of_ble_eq_true rfl) (Nat.le_of_ble_eq_true rfl)) (fun r32 h31 q30 => ?_) (fun E h1 q => q.elim)
  rw [q30]
  refine tw_lstore_n [(1, .long r32), (0, .ref x)] dX5_digest_34 rfl (by decide) rfl ?_
  refine tw_aload_n 1 dX5_digest_35 rfl rfl ?_
  refine tw_lload_n 0 dX5_digest_36 rfl rfl ?_
  refine tw_iconst (v := 1) dX5_digest_37 (by decide) ?_
  refine tw_bl (tw_callV (M := mX5_digest) (pc := 38) okX5_digestWorld dX5_digest_38 w_241 rfl f3 [.long r32, .int 1] [] rfl rfl ⟨by decide, by decide⟩ (Nat.le_of_ble_eq_true rfl) (c_X5_digestWorld d g τ h sp0.1 x kx r32 1) 0 0 (Nat.le_of_ble_eq_true rfl) (Nat.le_of_ble_eq_true rfl)) (fun r35 h34 q33 => ?_) (fun E h1 q => q.elim)
  rw [q33]
  refine tw_lstore_n [(1, .long r35), (0, .ref x)] dX5_digest_41 rfl (by decide) rfl ?_
  refine tw_aload_n 1 dX5_digest_42 rfl rfl ?_
  refine tw_get (v := .ref ca_5) rfl in_9 2 dX5_digest_43 w_142 rfl (by decide) f3 rfl ?_
  refine tw_astore_n [(3, .ref ca_5), (1, .long r35), (0, .ref x)] dX5_digest_46 rfl (by decide) rfl ?_
  refine tw_aload_n 0 dX5_digest_47 rfl rfl ?_
  obtain ⟨e36, f37, F38, rfl, k39, pn40, pb41, px42⟩ := sp0.1 ca_5 8 k12 (by decide)
  refine tw_alen (v := nI 4) 4 rfl dX5_digest_48 f37 rfl ?_
  refine tw_istore [(4, .int (nI 4)), (3, .ref ca_5), (1, .long r35), (0, .ref x)] dX5_digest_49 (by decide) rfl ?_
  refine tw_iconst (v := 0) dX5_digest_51 (by decide) ?_
  refine tw_istore [(5, .int 0), (4, .int (nI 4)), (3, .ref ca_5), (1, .long r35), (0, .ref x)] dX5_digest_52 (by decide) rfl ?_
  have L47 : ∀ (r45 k44 : Nat) (x43 : Int64), 4 + 1 ≤ k44 + r45 → k44 ≤ 4 → tw_W d mX5_digest (tw_ql (fun r h1 => h1 = h) tw_nx) 54 [(0, .ref x), (1, .long x43), (3, .ref ca_5), (4, .int (nI 4)), (5, .int (nI k44))] [] h 0 0 := by
    intro r45
    induction r45 with
    | zero => intro k44 x43 hk51 hk52; exact absurd hk51 (by omega)
    | succ r45 ih46 =>
      intro k44 x43 hk51 hk52
      refine tw_iload 4 dX5_digest_54 rfl ?_
      refine tw_iload 3 dX5_digest_56 rfl ?_
      refine tw_icmp_ge 86 dX5_digest_58 (by decide) (fun c53 => ?_) (fun c53 => ?_)
      · refine tw_aload_n 0 dX5_digest_86 rfl rfl ?_
        refine tw_get (v := .ref ha_6) rfl in_9 4 dX5_digest_87 w_144 rfl (by decide) f3 rfl ?_
        refine tw_astore_n [(3, .ref ha_6), (0, .ref x), (1, .long x43), (4, .int (nI 4)), (5, .int (nI k44))] dX5_digest_90 rfl (by decide) rfl ?_
        refine tw_aload_n 0 dX5_digest_91 rfl rfl ?_
        obtain ⟨e54, f55, F56, rfl, k57, pn58, pb59, px60⟩ := sp0.1 ha_6 9 k13 (by decide)
        refine tw_alen (v := nI 6) 5 rfl dX5_digest_92 f55 rfl ?_
        refine tw_istore [(4, .int (nI 6)), (3, .ref ha_6), (0, .ref x), (1, .long x43), (5, .int (nI k44))] dX5_digest_93 (by decide) rfl ?_
        refine tw_iconst (v := 0) dX5_digest_95 (by decide) ?_
        refine tw_istore [(5, .int 0), (4, .int (nI 6)), (3, .ref ha_6), (0, .ref x), (1, .long x43)] dX5_digest_96 (by decide) rfl ?_
        have L65 : ∀ (r63 k62 : Nat) (x61 : Int64), 6 + 1 ≤ k62 + r63 → k62 ≤ 6 → tw_W d mX5_digest (tw_ql (fun r h1 => h1 = h) tw_nx) 98 [(0, .ref x), (1, .long x61), (3, .ref ha_6), (4, .int (nI 6)), (5, .int (nI k62))] [] h 0 0 := by
          intro r63
          induction r63 with
          | zero => intro k62 x61 hk69 hk70; exact absurd hk69 (by omega)
          | succ r63 ih64 =>
            intro k62 x61 hk69 hk70
            refine tw_iload 4 dX5_digest_98 rfl ?_
            refine tw_iload 3 dX5_digest_100 rfl ?_
            refine tw_icmp_ge 130 dX5_digest_102 (by decide) (fun c71 => ?_) (fun c71 => ?_)
            · refine tw_aload_n 0 dX5_digest_130 rfl rfl ?_
              refine tw_get (v := .ref da_7) rfl in_9 6 dX5_digest_131 w_146 rfl (by decide) f3 rfl ?_
              refine tw_astore_n [(3, .ref da_7), (0, .ref x), (1, .long x61), (4, .int (nI 6)), (5, .int (nI k62))] dX5_digest_134 rfl (by decide) rfl ?_
              refine tw_aload_n 0 dX5_digest_135 rfl rfl ?_
              obtain ⟨e72, f73, F74, rfl, k75, pn76, pb77, px78⟩ := sp0.1 da_7 10 k14 (by decide)
              refine tw_alen (v := nI 10) 6 rfl dX5_digest_136 f73 rfl ?_
              refine tw_istore [(4, .int (nI 10)), (3, .ref da_7), (0, .ref x), (1, .long x61), (5, .int (nI k62))] dX5_digest_137 (by decide) rfl ?_
              refine tw_iconst (v := 0) dX5_digest_139 (by decide) ?_
              refine tw_istore [(5, .int 0), (4, .int (nI 10)), (3, .ref da_7), (0, .ref x), (1, .long x61)] dX5_digest_140 (by decide) rfl ?_
              have L83 : ∀ (r81 k80 : Nat) (x79 : Int64), 10 + 1 ≤ k80 + r81 → k80 ≤ 10 → tw_W d mX5_digest (tw_ql (fun r h1 => h1 = h) tw_nx) 142 [(0, .ref x), (1, .long x79), (3, .ref da_7), (4, .int (nI 10)), (5, .int (nI k80))] [] h 0 0 := by
                intro r81
                induction r81 with
                | zero => intro k80 x79 hk87 hk88; exact absurd hk87 (by omega)
                | succ r81 ih82 =>
                  intro k80 x79 hk87 hk88
                  refine tw_iload 4 dX5_digest_142 rfl ?_
                  refine tw_iload 3 dX5_digest_144 rfl ?_
                  refine tw_icmp_ge 174 dX5_digest_146 (by decide) (fun c89 => ?_) (fun c89 => ?_)
                  · refine tw_lload_n 1 dX5_digest_174 rfl rfl ?_
                    refine tw_ldc2 (v := 31) dX5_digest_175 w_240 ?_
                    refine tw_lmul dX5_digest_178 ?_
                    refine tw_nml (fun v90 ev90 => ?_)
                    refine tw_aload_n 0 dX5_digest_179 rfl rfl ?_
                    refine tw_sipush (v := 1000) dX5_digest_180 (by decide) ?_
                    refine tw_bi (tw_callV (M := mX5_digest) (pc := 183) okX5_isRest dX5_digest_183 w_369 rfl f3 [.int 1000] [.long v90] rfl rfl ⟨by decide, by decide⟩ (Nat.le_of_ble_eq_true rfl) (c_X5_isRest d g τ h sp0.1 x kx 1000) 0 0 (Nat.le_of_ble_eq_true rfl) (Nat.le_of_ble_eq_true rfl)) (fun r93 h92 q91 => ?_) (fun E h1 q => q.elim)
                    obtain ⟨q91e, p94⟩ := q91
                    rw [q91e]
                    refine tw_if_eq 193 dX5_digest_186 (by decide) (fun c95 => ?_) (fun c95 => ?_)
                    · refine tw_iconst (v := 0) dX5_digest_193 (by decide) ?_
                      refine tw_i2l dX5_digest_194 ?_
                      refine tw_nml (fun v96 ev96 => ?_)
                      refine tw_ladd dX5_digest_195 ?_
                      refine tw_nml (fun v97 ev97 => ?_)
                      refine tw_lstore_n [(1, .long v97), (0, .ref x), (3, .ref da_7), (4, .int (nI 10)), (5, .int (nI k80))] dX5_digest_196 rfl (by decide) rfl ?_
                      refine tw_lload_n 0 dX5_digest_197 rfl rfl ?_
                      refine tw_ldc2 (v := 31) dX5_digest_198 w_240 ?_
                      refine tw_lmul dX5_digest_201 ?_
                      refine tw_nml (fun v98 ev98 => ?_)
                      refine tw_aload_n 1 dX5_digest_202 rfl rfl ?_
                      refine tw_bi (tw_callV (M := mX5_digest) (pc := 203) okX5_isSound dX5_digest_203 w_373 rfl f3 [] [.long v98] rfl rfl ⟨by decide, by decide⟩ (Nat.le_of_ble_eq_true rfl) (c_X5_isSound d g τ h sp0.1 x kx) 0 0 (Nat.le_of_ble_eq_true rfl) (Nat.le_of_ble_eq_true rfl)) (fun r101 h100 q99 => ?_) (fun E h1 q => q.elim)
                      obtain ⟨q99e, p102⟩ := q99
                      rw [q99e]
                      refine tw_if_eq 213 dX5_digest_206 (by decide) (fun c103 => ?_) (fun c103 => ?_)
                      · refine tw_iconst (v := 0) dX5_digest_213 (by decide) ?_
                        refine tw_i2l dX5_digest_214 ?_
                        refine tw_nml (fun v104 ev104 => ?_)
                        refine tw_ladd dX5_digest_215 ?_
                        refine tw_nml (fun v105 ev105 => ?_)
                        refine tw_lstore_n [(1, .long v105), (0, .ref x), (3, .ref da_7), (4, .int (nI 10)), (5, .int (nI k80))] dX5_digest_216 rfl (by decide) rfl ?_
                        refine tw_lload_n 0 dX5_digest_217 rfl rfl ?_
                        exact tw_lret dX5_digest_218 rfl (Or.inl ⟨_, rfl, rfl⟩)
                      · refine tw_iconst (v := 1) dX5_digest_209 (by decide) ?_
                        refine tw_goto 214 dX5_digest_210 (by decide) ?_
                        refine tw_i2l dX5_digest_214 ?_
                        refine tw_nml (fun v106 ev106 => ?_)
                        refine tw_ladd dX5_digest_215 ?_
                        refine tw_nml (fun v107 ev107 => ?_)
                        refine tw_lstore_n [(1, .long v107), (0, .ref x), (3, .ref da_7), (4, .int (nI 10)), (5, .int (nI k80))] dX5_digest_216 rfl (by decide) rfl ?_
                        refine tw_lload_n 0 dX5_digest_217 rfl rfl ?_
                        exact tw_lret dX5_digest_218 rfl (Or.inl ⟨_, rfl, rfl⟩)
                    · refine tw_iconst (v := 1) dX5_digest_189 (by decide) ?_
                      refine tw_goto 194 dX5_digest_190 (by decide) ?_
                      refine tw_i2l dX5_digest_194 ?_
                      refine tw_nml (fun v108 ev108 => ?_)
                      refine tw_ladd dX5_digest_195 ?_
                      refine tw_nml (fun v109 ev109 => ?_)
                      refine tw_lstore_n [(1, .long v109), (0, .ref x), (3, .ref da_7), (4, .int (nI 10)), (5, .int (nI k80))] dX5_digest_196 rfl (by decide) rfl ?_
                      refine tw_lload_n 0 dX5_digest_197 rfl rfl ?_
                      refine tw_ldc2 (v := 31) dX5_digest_198 w_240 ?_
                      refine tw_lmul dX5_digest_201 ?_
                      refine tw_nml (fun v110 ev110 => ?_)
                      refine tw_aload_n 1 dX5_digest_202 rfl rfl ?_
                      refine tw_bi (tw_callV (M := mX5_digest) (pc := 203) okX5_isSound dX5_digest_203 w_373 rfl f3 [] [.long v110] rfl rfl ⟨by decide, by decide⟩ (Nat.le_of_ble_eq_true rfl) (c_X5_isSound d g τ h sp0.1 x kx) 0 0 (Nat.le_of_ble_eq_true rfl) (Nat.le_of_ble_eq_true rfl)) (fun r113 h112 q111 => ?_) (fun E h1 q => q.elim)
                      obtain ⟨q111e, p114⟩ := q111
                      rw [q111e]
                      refine tw_if_eq 213 dX5_digest_206 (by decide) (fun c115 => ?_) (fun c115 => ?_)
                      · refine tw_iconst (v := 0) dX5_digest_213 (by decide) ?_
                        refine tw_i2l dX5_digest_214 ?_
                        refine tw_nml (fun v116 ev116 => ?_)
                        refine tw_ladd dX5_digest_215 ?_
                        refine tw_nml (fun v117 ev117 => ?_)
                        refine tw_lstore_n [(1, .long v117), (0, .ref x), (3, .ref da_7), (4, .int (nI 10)), (5, .int (nI k80))] dX5_digest_216 rfl (by decide) rfl ?_
                        refine tw_lload_n 0 dX5_digest_217 rfl rfl ?_
                        exact tw_lret dX5_digest_218 rfl (Or.inl ⟨_, rfl, rfl⟩)
                      · refine tw_iconst (v := 1) dX5_digest_209 (by decide) ?_
                        refine tw_goto 214 dX5_digest_210 (by decide) ?_
                        refine tw_i2l dX5_digest_214 ?_
                        refine tw_nml (fun v118 ev118 => ?_)
                        refine tw_ladd dX5_digest_215 ?_
                        refine tw_nml (fun v119 ev119 => ?_)
                        refine tw_lstore_n [(1, .long v119), (0, .ref x), (3, .ref da_7), (4, .int (nI 10)), (5, .int (nI k80))] dX5_digest_216 rfl (by decide) rfl ?_
                        refine tw_lload_n 0 dX5_digest_217 rfl rfl ?_
                        exact tw_lret dX5_digest_218 rfl (Or.inl ⟨_, rfl, rfl⟩)
                  · have kl120 := tw_klt (N := 10) c89 hk88 (by decide)
                    refine tw_aload_n 2 dX5_digest_149 rfl rfl ?_
                    refine tw_iload 4 dX5_digest_150 rfl ?_
                    cases k121 : F74 ((nI k80)).toNatClampNeg with
                    | none =>
                      refine tw_aald (v := .null) 6 rfl rfl dX5_digest_152 f73 (vp_in_nI (by omega) (by decide)) (by rw [k121]; rfl) ?_
                      refine tw_astoreN [(6, .null), (0, .ref x), (1, .long x79), (3, .ref da_7), (4, .int (nI 10)), (5, .int (nI k80))] dX5_digest_153 (by decide) rfl ?_
                      refine tw_aloadN 0 dX5_digest_155 rfl ?_
                      refine tw_ifnullN 168 dX5_digest_157 (by decide) ?_
                      obtain ⟨v123, ev123⟩ : ∃ y : Int32, y = (nI k80) + 1 := ⟨_, rfl⟩
                      refine tw_iinc [(5, .int v123), (6, .null), (0, .ref x), (1, .long x79), (3, .ref da_7), (4, .int (nI 10))] 5 dX5_digest_168 rfl (by rw [ev123]; rfl) (by decide) rfl ?_
                      refine tw_goto 142 dX5_digest_171 (by decide) ?_
                      have qv123 := tw_nI3 ev123
                      rw [qv123]
                      refine tw_lv [2, 3, 4, 5, 0] rfl ?_
                      exact ih82 (k80 + 1) x79 (by omega) (by omega)
                    | some q122 =>
                      have k124 := k75 _ _ k121
                      refine tw_aald (v := .ref q122) 6 rfl rfl dX5_digest_152 f73 (vp_in_nI (by omega) (by decide)) (by rw [k121]; rfl) ?_
                      refine tw_astore [(6, .ref q122), (0, .ref x), (1, .long x79), (3, .ref da_7), (4, .int (nI 10)), (5, .int (nI k80))] dX5_digest_153 (by decide) rfl ?_
                      refine tw_aload 0 dX5_digest_155 rfl ?_
                      refine tw_ifnull dX5_digest_157 ?_
                      refine tw_aload_n 1 dX5_digest_160 rfl rfl ?_
                      refine tw_lload_n 2 dX5_digest_161 rfl rfl ?_
                      refine tw_aload 0 dX5_digest_162 rfl ?_
                      refine tw_bl (tw_callV (M := mX5_digest) (pc := 164) okX5_digestDebt dX5_digest_164 w_347 rfl f3 [.long x79, .ref q122] [] rfl rfl ⟨by decide, by decide⟩ (Nat.le_of_ble_eq_true rfl) (c_X5_digestDebt d g τ h sp0.1 x kx x79 q122 k124) 0 0 (Nat.le_of_ble_eq_true rfl) (Nat.le_of_ble_eq_true rfl)) (fun r127 h126 q125 => ?_) (fun E h1 q => q.elim)
                      rw [q125]
                      refine tw_lstore_n [(1, .long r127), (6, .ref q122), (0, .ref x), (3, .ref da_7), (4, .int (nI 10)), (5, .int (nI k80))] dX5_digest_167 rfl (by decide) rfl ?_
                      obtain ⟨v128, ev128⟩ : ∃ y : Int32, y = (nI k80) + 1 := ⟨_, rfl⟩
                      refine tw_iinc [(5, .int v128), (1, .long r127), (6, .ref q122), (0, .ref x), (3, .ref da_7), (4, .int (nI 10))] 5 dX5_digest_168 rfl (by rw [ev128]; rfl) (by decide) rfl ?_
                      refine tw_goto 142 dX5_digest_171 (by decide) ?_
                      have qv128 := tw_nI3 ev128
                      rw [qv128]
                      refine tw_lv [3, 1, 4, 5, 0] rfl ?_
                      exact ih82 (k80 + 1) r127 (by omega) (by omega)
              refine tw_lv [3, 4, 2, 1, 0] rfl ?_
              exact L83 (10 + 1) 0 x61 (by omega) (by omega)
            · have kl129 := tw_klt (N := 6) c71 hk70 (by decide)
              refine tw_aload_n 2 dX5_digest_105 rfl rfl ?_
              refine tw_iload 4 dX5_digest_106 rfl ?_
              cases k130 : F56 ((nI k62)).toNatClampNeg with
              | none =>
                refine tw_aald (v := .null) 5 rfl rfl dX5_digest_108 f55 (vp_in_nI (by omega) (by decide)) (by rw [k130]; rfl) ?_
                refine tw_astoreN [(6, .null), (0, .ref x), (1, .long x61), (3, .ref ha_6), (4, .int (nI 6)), (5, .int (nI k62))] dX5_digest_109 (by decide) rfl ?_
                refine tw_aloadN 0 dX5_digest_111 rfl ?_
                refine tw_ifnullN 124 dX5_digest_113 (by decide) ?_
                obtain ⟨v132, ev132⟩ : ∃ y : Int32, y = (nI k62) + 1 := ⟨_, rfl⟩
                refine tw_iinc [(5, .int v132), (6, .null), (0, .ref x), (1, .long x61), (3, .ref ha_6), (4, .int (nI 6))] 5 dX5_digest_124 rfl (by rw [ev132]; rfl) (by decide) rfl ?_
                refine tw_goto 98 dX5_digest_127 (by decide) ?_
                have qv132 := tw_nI3 ev132
                rw [qv132]
                refine tw_lv [2, 3, 4, 5, 0] rfl ?_
                exact ih64 (k62 + 1) x61 (by omega) (by omega)
              | some q131 =>
                have k133 := k57 _ _ k130
                refine tw_aald (v := .ref q131) 5 rfl rfl dX5_digest_108 f55 (vp_in_nI (by omega) (by decide)) (by rw [k130]; rfl) ?_
                refine tw_astore [(6, .ref q131), (0, .ref x), (1, .long x61), (3, .ref ha_6), (4, .int (nI 6)), (5, .int (nI k62))] dX5_digest_109 (by decide) rfl ?_
                refine tw_aload 0 dX5_digest_111 rfl ?_
                refine tw_ifnull dX5_digest_113 ?_
                refine tw_aload_n 1 dX5_digest_116 rfl rfl ?_
                refine tw_lload_n 2 dX5_digest_117 rfl rfl ?_
                refine tw_aload 0 dX5_digest_118 rfl ?_
                refine tw_bl (tw_callV (M := mX5_digest) (pc := 120) okX5_digestHouse dX5_digest_120 w_328 rfl f3 [.long x61, .ref q131] [] rfl rfl ⟨by decide, by decide⟩ (Nat.le_of_ble_eq_true rfl) (c_X5_digestHouse d g τ h sp0.1 x kx x61 q131 k133) 0 0 (Nat.le_of_ble_eq_true rfl) (Nat.le_of_ble_eq_true rfl)) (fun r136 h135 q134 => ?_) (fun E h1 q => q.elim)
                rw [q134]
                refine tw_lstore_n [(1, .long r136), (6, .ref q131), (0, .ref x), (3, .ref ha_6), (4, .int (nI 6)), (5, .int (nI k62))] dX5_digest_123 rfl (by decide) rfl ?_
                obtain ⟨v137, ev137⟩ : ∃ y : Int32, y = (nI k62) + 1 := ⟨_, rfl⟩
                refine tw_iinc [(5, .int v137), (1, .long r136), (6, .ref q131), (0, .ref x), (3, .ref ha_6), (4, .int (nI 6))] 5 dX5_digest_124 rfl (by rw [ev137]; rfl) (by decide) rfl ?_
                refine tw_goto 98 dX5_digest_127 (by decide) ?_
                have qv137 := tw_nI3 ev137
                rw [qv137]
                refine tw_lv [3, 1, 4, 5, 0] rfl ?_
                exact ih64 (k62 + 1) r136 (by omega) (by omega)
        refine tw_lv [3, 4, 2, 1, 0] rfl ?_
        exact L65 (6 + 1) 0 x43 (by omega) (by omega)
      · have kl138 := tw_klt (N := 4) c53 hk52 (by decide)
        refine tw_aload_n 2 dX5_digest_61 rfl rfl ?_
        refine tw_iload 4 dX5_digest_62 rfl ?_
        cases k139 : F38 ((nI k44)).toNatClampNeg with
        | none =>
          refine tw_aald (v := .null) 4 rfl rfl dX5_digest_64 f37 (vp_in_nI (by omega) (by decide)) (by rw [k139]; rfl) ?_
          refine tw_astoreN [(6, .null), (0, .ref x), (1, .long x43), (3, .ref ca_5), (4, .int (nI 4)), (5, .int (nI k44))] dX5_digest_65 (by decide) rfl ?_
          refine tw_aloadN 0 dX5_digest_67 rfl ?_
          refine tw_ifnullN 80 dX5_digest_69 (by decide) ?_
          obtain ⟨v141, ev141⟩ : ∃ y : Int32, y = (nI k44) + 1 := ⟨_, rfl⟩
          refine tw_iinc [(5, .int v141), (6, .null), (0, .ref x), (1, .long x43), (3, .ref ca_5), (4, .int (nI 4))] 5 dX5_digest_80 rfl (by rw [ev141]; rfl) (by decide) rfl ?_
          refine tw_goto 54 dX5_digest_83 (by decide) ?_
          have qv141 := tw_nI3 ev141
          rw [qv141]
          refine tw_lv [2, 3, 4, 5, 0] rfl ?_
          exact ih46 (k44 + 1) x43 (by omega) (by omega)
        | some q140 =>
          have k142 := k39 _ _ k139
          refine tw_aald (v := .ref q140) 4 rfl rfl dX5_digest_64 f37 (vp_in_nI (by omega) (by decide)) (by rw [k139]; rfl) ?_
          refine tw_astore [(6, .ref q140), (0, .ref x), (1, .long x43), (3, .ref ca_5), (4, .int (nI 4)), (5, .int (nI k44))] dX5_digest_65 (by decide) rfl ?_
          refine tw_aload 0 dX5_digest_67 rfl ?_
          refine tw_ifnull dX5_digest_69 ?_
          refine tw_aload_n 1 dX5_digest_72 rfl rfl ?_
          refine tw_lload_n 2 dX5_digest_73 rfl rfl ?_
          refine tw_aload 0 dX5_digest_74 rfl ?_
          refine tw_bl (tw_callV (M := mX5_digest) (pc := 76) okX5_digestCountry dX5_digest_76 w_249 rfl f3 [.long x43, .ref q140] [] rfl rfl ⟨by decide, by decide⟩ (Nat.le_of_ble_eq_true rfl) (c_X5_digestCountry d g τ h sp0.1 x kx x43 q140 k142) 0 0 (Nat.le_of_ble_eq_true rfl) (Nat.le_of_ble_eq_true rfl)) (fun r145 h144 q143 => ?_) (fun E h1 q => q.elim)
          rw [q143]
          refine tw_lstore_n [(1, .long r145), (6, .ref q140), (0, .ref x), (3, .ref ca_5), (4, .int (nI 4)), (5, .int (nI k44))] dX5_digest_79 rfl (by decide) rfl ?_
          obtain ⟨v146, ev146⟩ : ∃ y : Int32, y = (nI k44) + 1 := ⟨_, rfl⟩
          refine tw_iinc [(5, .int v146), (1, .long r145), (6, .ref q140), (0, .ref x), (3, .ref ca_5), (4, .int (nI 4))] 5 dX5_digest_80 rfl (by rw [ev146]; rfl) (by decide) rfl ?_
          refine tw_goto 54 dX5_digest_83 (by decide) ?_
          have qv146 := tw_nI3 ev146
          rw [qv146]
          refine tw_lv [3, 1, 4, 5, 0] rfl ?_
          exact ih46 (k44 + 1) r145 (by omega) (by omega)
  refine tw_lv [4, 3, 2, 1, 0] rfl ?_
  exact L47 (4 + 1) 0 r35 (by omega) (by omega)

set_option maxHeartbeats 4000000 in
set_option maxRecDepth 100000 in
theorem c_X5_coins (d : tw_D) (g : tw_G) (τ : tw_K) (h : tw_H) (hw : tw_wt d g τ h) (x : Nat) (kx : τ x = 11) (n : Int32) (am : Int32) : tw_Ct d mX5_coins 20 120 [.ref x, .int n, .int am] h (tw_qi (fun r h1 => h1 = h) (fun E h1 => (E = tw_IOE ∨ E = tw_IAE) ∧ h1 = h)) := by
  refine tw_of (by decide +kernel) (Nat.le_of_ble_eq_true rfl) ?_
  show tw_W d mX5_coins _ 0 [(0, .ref x), (1, .int n), (2, .int am)] [] h 20 120
  have sp0 := tw_sp.rf hw
  refine tw_aload_n 0 dX5_coins_0 rfl rfl ?_
  refine tw_iload_n 1 dX5_coins_1 rfl rfl ?_
  obtain ⟨e1, f2, td_3, ca_4, ha_5, da_6, c1_7, c2_8, c3_9, c4_10, rfl, k11, k12, k13, k14, k15, k16, k17, k18, k19, k20, k21, k22, k23⟩ := sp0.1 x 11 kx (by decide)
  refine tw_br (tw_callV (M := mX5_coins) (pc := 2) okX5_countryAt dX5_coins_2 w_546 rfl f2 [.int n] [] rfl rfl ⟨by decide, by decide⟩ (Nat.le_of_ble_eq_true rfl) (c_X5_countryAt d g τ h sp0.1 x kx n) 19 114 (Nat.le_of_ble_eq_true rfl) (Nat.le_of_ble_eq_true rfl)) (fun r26 h25 q24 => ?_) (fun E h1 q => Or.inr ⟨E, rfl, (Or.inl q.1), q.2⟩)
  obtain ⟨q24e, p27⟩ := q24
  rw [q24e]
  obtain ⟨e28, f29, n_30, r_31, c_32, go_33, so_34, v_35, rd_36, rf_37, t_38, rfl, k39, k40, k41, k42, k43, k44, k45, k46⟩ := sp0.1 r26 2 p27 (by decide)
  refine tw_getN (v := .ref t_38) rfl in_4 8 dX5_coins_5 w_514 rfl (by decide) f29 rfl ?_
  refine tw_astore_n [(3, .ref t_38), (0, .ref x), (1, .int n), (2, .int am)] dX5_coins_8 rfl (by decide) rfl ?_
  refine tw_iload_n 3 dX5_coins_9 rfl rfl ?_
  refine tw_iconst (v := 1) dX5_coins_10 (by decide) ?_
  refine tw_sipush (v := 400) dX5_coins_11 (by decide) ?_
  refine tw_bv (tw_callS (M := mX5_coins) (pc := 14) okX5_needRange dX5_coins_14 w_399 [.int am, .int 1, .int 400] [] rfl rfl ⟨by decide, by decide⟩ (Nat.le_of_ble_eq_true rfl) (c_X5_needRange d g τ h sp0.1 am 1 400) 18 108 (Nat.le_of_ble_eq_true rfl) (Nat.le_of_ble_eq_true rfl)) (fun h48 q47 => ?_) (fun E h1 q => Or.inr ⟨E, rfl, (Or.inr (q.1)), q.2⟩)
  obtain ⟨q47e, p50⟩ := q47
  rw [q47e]
  refine tw_aload_n 0 dX5_coins_17 rfl rfl ?_
  refine tw_iload_n 3 dX5_coins_18 rfl rfl ?_
  obtain ⟨e51, f52, m_53, rfl, k54⟩ := sp0.1 t_38 5 k42 (by decide)
  refine tw_bi (tw_callVN (M := mX5_coins) (pc := 19) okX4_fewestFor dX5_coins_19 w_285 rfl f52 [.int am] [] rfl rfl ⟨by decide, by decide⟩ (Nat.le_of_ble_eq_true rfl) (c_X4_fewestFor d g τ h sp0.1 t_38 k42 am) 18 108 (Nat.le_of_ble_eq_true rfl) (Nat.le_of_ble_eq_true rfl)) (fun r57 h56 q55 => ?_) (fun E h1 q => q.elim)
  rw [q55]
  exact tw_iret dX5_coins_22 rfl (Or.inl ⟨_, rfl, rfl⟩)

set_option maxHeartbeats 4000000 in
set_option maxRecDepth 100000 in
theorem c_X5_give (d : tw_D) (g : tw_G) (τ : tw_K) (h : tw_H) (hw : tw_wt d g τ h) (x : Nat) (kx : τ x = 11) (n : Int32) (am : Int32) : tw_Ct d mX5_give 20 120 [.ref x, .int n, .int am] h (tw_qi (fun r h1 => tw_sp d τ h g τ h1) (fun E h1 => (E = tw_IOE ∨ E = tw_IAE ∨ E = tw_ISE) ∧ ∃ τ1, tw_sp d τ h g τ1 h1)) := by
  refine tw_of (by decide +kernel) (Nat.le_of_ble_eq_true rfl) ?_
  show tw_W d mX5_give _ 0 [(0, .ref x), (1, .int n), (2, .int am)] [] h 20 120
  have sp0 := tw_sp.rf hw
  refine tw_aload_n 0 dX5_give_0 rfl rfl ?_
  refine tw_iload_n 1 dX5_give_1 rfl rfl ?_
  obtain ⟨e1, f2, td_3, ca_4, ha_5, da_6, c1_7, c2_8, c3_9, c4_10, rfl, k11, k12, k13, k14, k15, k16, k17, k18, k19, k20, k21, k22, k23⟩ := sp0.1 x 11 kx (by decide)
  refine tw_br (tw_callV (M := mX5_give) (pc := 2) okX5_countryAt dX5_give_2 w_546 rfl f2 [.int n] [] rfl rfl ⟨by decide, by decide⟩ (Nat.le_of_ble_eq_true rfl) (c_X5_countryAt d g τ h sp0.1 x kx n) 19 114 (Nat.le_of_ble_eq_true rfl) (Nat.le_of_ble_eq_true rfl)) (fun r26 h25 q24 => ?_) (fun E h1 q => Or.inr ⟨E, rfl, (Or.inl q.1), ⟨τ, by rw [q.2]; exact sp0⟩⟩)
  obtain ⟨q24e, p27⟩ := q24
  rw [q24e]
  obtain ⟨e28, f29, n_30, r_31, c_32, go_33, so_34, v_35, rd_36, rf_37, t_38, rfl, k39, k40, k41, k42, k43, k44, k45, k46⟩ := sp0.1 r26 2 p27 (by decide)
  refine tw_getN (v := .ref t_38) rfl in_4 8 dX5_give_5 w_514 rfl (by decide) f29 rfl ?_
  refine tw_astore_n [(3, .ref t_38), (0, .ref x), (1, .int n), (2, .int am)] dX5_give_8 rfl (by decide) rfl ?_
  refine tw_iload_n 3 dX5_give_9 rfl rfl ?_
  refine tw_iconst (v := 1) dX5_give_10 (by decide) ?_
  refine tw_sipush (v := 400) dX5_give_11 (by decide) ?_
  refine tw_bv (tw_callS (M := mX5_give) (pc := 14) okX5_needRange dX5_give_14 w_399 [.int am, .int 1, .int 400] [] rfl rfl ⟨by decide, by decide⟩ (Nat.le_of_ble_eq_true rfl) (c_X5_needRange d g τ h sp0.1 am 1 400) 18 108 (Nat.le_of_ble_eq_true rfl) (Nat.le_of_ble_eq_true rfl)) (fun h48 q47 => ?_) (fun E h1 q => Or.inr ⟨E, rfl, (Or.inr (Or.inl q.1)), ⟨τ, by rw [q.2]; exact sp0⟩⟩)
  obtain ⟨q47e, p50⟩ := q47
  rw [q47e]
  refine tw_aload_n 0 dX5_give_17 rfl rfl ?_
  refine tw_iload_n 3 dX5_give_18 rfl rfl ?_
  obtain ⟨e51, f52, m_53, rfl, k54⟩ := sp0.1 t_38 5 k42 (by decide)
  refine tw_bi (tw_callVN (M := mX5_give) (pc := 19) okX4_fewestFor dX5_give_19 w_285 rfl f52 [.int am] [] rfl rfl ⟨by decide, by decide⟩ (Nat.le_of_ble_eq_true rfl) (c_X4_fewestFor d g τ h sp0.1 t_38 k42 am) 18 108 (Nat.le_of_ble_eq_true rfl) (Nat.le_of_ble_eq_true rfl)) (fun r57 h56 q55 => ?_) (fun E h1 q => q.elim)
  rw [q55]
  refine tw_istore [(4, .int r57), (3, .ref t_38), (0, .ref x), (1, .int n), (2, .int am)] dX5_give_22 (by decide) rfl ?_
  refine tw_iload 0 dX5_give_24 rfl ?_
  refine tw_iconst (v := -1) dX5_give_26 (by decide) ?_
  refine tw_icmp_ne 40 dX5_give_27 (by decide) (fun c58 => ?_) (fun c58 => ?_)
  · refine tw_aload_n 1 dX5_give_40 rfl rfl ?_
    refine tw_iload 0 dX5_give_41 rfl ?_
    refine tw_bi (tw_callVN (M := mX5_give) (pc := 43) okX4_takeOut dX5_give_43 w_775 rfl f52 [.int r57] [] rfl rfl ⟨by decide, by decide⟩ (Nat.le_of_ble_eq_true rfl) (c_X4_takeOut d g τ h sp0.1 t_38 k42 r57) 18 108 (Nat.le_of_ble_eq_true rfl) (Nat.le_of_ble_eq_true rfl)) (fun r61 h60 q59 => ?_) (fun E h1 q => q.elim)
    have q59s := q59
    have sp62 := sp0.tr q59s
    exact tw_iret dX5_give_46 rfl (Or.inl ⟨_, rfl, sp62⟩)
  · exact tw_throwS (i := 18) (by decide +kernel) w_471 w_88 rfl at_ISE dX5_give_30 dX5_give_33 dX5_give_34 dX5_give_36 dX5_give_39 ⟨by decide, Nat.le_of_ble_eq_true rfl⟩ (Nat.le_of_ble_eq_true rfl) (Nat.le_of_ble_eq_true rfl) (Or.inr ⟨_, rfl, (Or.inr (Or.inr (rfl))), _, sp0⟩)

set_option maxHeartbeats 4000000 in
set_option maxRecDepth 100000 in
theorem c_X5_till (d : tw_D) (g : tw_G) (τ : tw_K) (h : tw_H) (hw : tw_wt d g τ h) (x : Nat) (kx : τ x = 11) (n : Int32) (k : Int32) (many : Int32) : tw_Ct d mX5_till 20 120 [.ref x, .int n, .int k, .int many] h (tw_qi (fun r h1 => tw_sp d τ h g τ h1) (fun E h1 => (E = tw_IOE ∨ E = tw_IAE) ∧ ∃ τ1, tw_sp d τ h g τ1 h1)) := by
  refine tw_of (by decide +kernel) (Nat.le_of_ble_eq_true rfl) ?_
  show tw_W d mX5_till _ 0 [(0, .ref x), (1, .int n), (2, .int k), (3, .int many)] [] h 20 120
  have sp0 := tw_sp.rf hw
  refine tw_aload_n 0 dX5_till_0 rfl rfl ?_
  refine tw_iload_n 1 dX5_till_1 rfl rfl ?_
  obtain ⟨e1, f2, td_3, ca_4, ha_5, da_6, c1_7, c2_8, c3_9, c4_10, rfl, k11, k12, k13, k14, k15, k16, k17, k18, k19, k20, k21, k22, k23⟩ := sp0.1 x 11 kx (by decide)
  refine tw_br (tw_callV (M := mX5_till) (pc := 2) okX5_countryAt dX5_till_2 w_546 rfl f2 [.int n] [] rfl rfl ⟨by decide, by decide⟩ (Nat.le_of_ble_eq_true rfl) (c_X5_countryAt d g τ h sp0.1 x kx n) 19 114 (Nat.le_of_ble_eq_true rfl) (Nat.le_of_ble_eq_true rfl)) (fun r26 h25 q24 => ?_) (fun E h1 q => Or.inr ⟨E, rfl, (Or.inl q.1), ⟨τ, by rw [q.2]; exact sp0⟩⟩)
  obtain ⟨q24e, p27⟩ := q24
  rw [q24e]
  obtain ⟨e28, f29, n_30, r_31, c_32, go_33, so_34, v_35, rd_36, rf_37, t_38, rfl, k39, k40, k41, k42, k43, k44, k45, k46⟩ := sp0.1 r26 2 p27 (by decide)
  refine tw_getN (v := .ref t_38) rfl in_4 8 dX5_till_5 w_514 rfl (by decide) f29 rfl ?_
  refine tw_astore [(4, .ref t_38), (0, .ref x), (1, .int n), (2, .int k), (3, .int many)] dX5_till_8 (by decide) rfl ?_
  refine tw_iload_n 3 dX5_till_10 rfl rfl ?_
  refine tw_if_lt 19 dX5_till_11 (by decide) (fun c47 => ?_) (fun c47 => ?_)
  · exact tw_throwS (i := 17) (by decide +kernel) w_550 w_96 rfl at_IOE dX5_till_19 dX5_till_22 dX5_till_23 dX5_till_25 dX5_till_28 ⟨by decide, Nat.le_of_ble_eq_true rfl⟩ (Nat.le_of_ble_eq_true rfl) (Nat.le_of_ble_eq_true rfl) (Or.inr ⟨_, rfl, (Or.inl rfl), _, sp0⟩)
  · refine tw_iload_n 3 dX5_till_14 rfl rfl ?_
    refine tw_iconst (v := 5) dX5_till_15 (by decide) ?_
    refine tw_icmp_lt 29 dX5_till_16 (by decide) (fun c48 => ?_) (fun c48 => ?_)
    · refine tw_iload_n 4 dX5_till_29 rfl rfl ?_
      refine tw_iconst (v := 0) dX5_till_30 (by decide) ?_
      refine tw_bipush (v := 9) dX5_till_31 (by decide) ?_
      refine tw_bv (tw_callS (M := mX5_till) (pc := 33) okX5_needRange dX5_till_33 w_399 [.int many, .int 0, .int 9] [] rfl rfl ⟨by decide, by decide⟩ (Nat.le_of_ble_eq_true rfl) (c_X5_needRange d g τ h sp0.1 many 0 9) 18 108 (Nat.le_of_ble_eq_true rfl) (Nat.le_of_ble_eq_true rfl)) (fun h50 q49 => ?_) (fun E h1 q => Or.inr ⟨E, rfl, (Or.inr (q.1)), ⟨τ, by rw [q.2]; exact sp0⟩⟩)
      obtain ⟨q49e, p52⟩ := q49
      rw [q49e]
      refine tw_aload 0 dX5_till_36 rfl ?_
      refine tw_iload_n 3 dX5_till_38 rfl rfl ?_
      obtain ⟨e53, f54, m_55, rfl, k56⟩ := sp0.1 t_38 5 k42 (by decide)
      refine tw_bi (tw_callVN (M := mX5_till) (pc := 39) okX4_manyOf dX5_till_39 w_762 rfl f54 [.int k] [] rfl rfl ⟨by decide, by decide⟩ (Nat.le_of_ble_eq_true rfl) (c_X4_manyOf d g τ h sp0.1 t_38 k42 k) 18 108 (Nat.le_of_ble_eq_true rfl) (Nat.le_of_ble_eq_true rfl)) (fun r59 h58 q57 => ?_) (fun E h1 q => q.elim)
      rw [q57]
      refine tw_istore [(5, .int r59), (4, .ref t_38), (0, .ref x), (1, .int n), (2, .int k), (3, .int many)] dX5_till_42 (by decide) rfl ?_
      refine tw_aload 1 dX5_till_44 rfl ?_
      refine tw_iload_n 4 dX5_till_46 rfl rfl ?_
      refine tw_iload_n 5 dX5_till_47 rfl rfl ?_
      refine tw_bv (tw_callVN (M := mX5_till) (pc := 48) okX4_setMany dX5_till_48 w_763 rfl f54 [.int k, .int many] [] rfl rfl ⟨by decide, by decide⟩ (Nat.le_of_ble_eq_true rfl) (c_X4_setMany d g τ h sp0.1 t_38 k42 k many) 18 108 (Nat.le_of_ble_eq_true rfl) (Nat.le_of_ble_eq_true rfl)) (fun h61 q60 => ?_) (fun E h1 q => q.elim)
      have q60s := q60
      have sp63 := sp0.tr q60s
      refine tw_iload 0 dX5_till_51 rfl ?_
      exact tw_iret dX5_till_53 rfl (Or.inl ⟨_, rfl, sp63⟩)
    · exact tw_throwS (i := 17) (by decide +kernel) w_550 w_96 rfl at_IOE dX5_till_19 dX5_till_22 dX5_till_23 dX5_till_25 dX5_till_28 ⟨by decide, Nat.le_of_ble_eq_true rfl⟩ (Nat.le_of_ble_eq_true rfl) (Nat.le_of_ble_eq_true rfl) (Or.inr ⟨_, rfl, (Or.inl rfl), _, sp0⟩)

set_option maxHeartbeats 4000000 in
set_option maxRecDepth 100000 in
theorem c_X5_law (d : tw_D) (g : tw_G) (τ : tw_K) (h : tw_H) (hw : tw_wt d g τ h) (x : Nat) (kx : τ x = 11) (n : Int32) (rt : Int32) (ct : Int32) : tw_Ct d mX5_law 20 120 [.ref x, .int n, .int rt, .int ct] h (tw_qi (fun r h1 => tw_sp d τ h g τ h1) (fun E h1 => (E = tw_IOE ∨ E = tw_IAE) ∧ ∃ τ1, tw_sp d τ h g τ1 h1)) := by
  refine tw_of (by decide +kernel) (Nat.le_of_ble_eq_true rfl) ?_
  show tw_W d mX5_law _ 0 [(0, .ref x), (1, .int n), (2, .int rt), (3, .int ct)] [] h 20 120
  have sp0 := tw_sp.rf hw
  refine tw_aload_n 0 dX5_law_0 rfl rfl ?_
  refine tw_iload_n 1 dX5_law_1 rfl rfl ?_
  obtain ⟨e1, f2, td_3, ca_4, ha_5, da_6, c1_7, c2_8, c3_9, c4_10, rfl, k11, k12, k13, k14, k15, k16, k17, k18, k19, k20, k21, k22, k23⟩ := sp0.1 x 11 kx (by decide)
  refine tw_br (tw_callV (M := mX5_law) (pc := 2) okX5_countryAt dX5_law_2 w_546 rfl f2 [.int n] [] rfl rfl ⟨by decide, by decide⟩ (Nat.le_of_ble_eq_true rfl) (c_X5_countryAt d g τ h sp0.1 x kx n) 19 114 (Nat.le_of_ble_eq_true rfl) (Nat.le_of_ble_eq_true rfl)) (fun r26 h25 q24 => ?_) (fun E h1 q => Or.inr ⟨E, rfl, (Or.inl q.1), ⟨τ, by rw [q.2]; exact sp0⟩⟩)
  obtain ⟨q24e, p27⟩ := q24
  rw [q24e]
  refine tw_astore [(4, .ref r26), (0, .ref x), (1, .int n), (2, .int rt), (3, .int ct)] dX5_law_5 (by decide) rfl ?_
  refine tw_iload_n 3 dX5_law_7 rfl rfl ?_
  refine tw_iload_n 4 dX5_law_8 rfl rfl ?_
  refine tw_bv (tw_callS (M := mX5_law) (pc := 9) okX5_needLaw dX5_law_9 w_396 [.int rt, .int ct] [] rfl rfl ⟨by decide, by decide⟩ (Nat.le_of_ble_eq_true rfl) (c_X5_needLaw d g τ h sp0.1 rt ct) 17 102 (Nat.le_of_ble_eq_true rfl) (Nat.le_of_ble_eq_true rfl)) (fun h29 q28 => ?_) (fun E h1 q => Or.inr ⟨E, rfl, (Or.inr (q.1)), ⟨τ, by rw [q.2]; exact sp0⟩⟩)
  obtain ⟨q28e, p31⟩ := q28
  rw [q28e]
  refine tw_aload 0 dX5_law_12 rfl ?_
  obtain ⟨e32, f33, n_34, r_35, c_36, go_37, so_38, v_39, rd_40, rf_41, t_42, rfl, k43, k44, k45, k46, k47, k48, k49, k50⟩ := sp0.1 r26 2 p27 (by decide)
  refine tw_getN (v := .int r_35) rfl in_4 1 dX5_law_14 w_504 rfl (by decide) f33 rfl ?_
  refine tw_istore [(5, .int r_35), (4, .ref r26), (0, .ref x), (1, .int n), (2, .int rt), (3, .int ct)] dX5_law_17 (by decide) rfl ?_
  refine tw_aload 1 dX5_law_19 rfl ?_
  refine tw_iload_n 4 dX5_law_21 rfl rfl ?_
  refine tw_putN rfl in_4 tyX0 tyX0_ok nmX0 1 dX5_law_22 w_504 rfl (by decide) f33 rfl rfl rfl rfl (Nat.le_of_ble_eq_true rfl) [.int n_34, .int rt, .int c_36, .ref v_39, .int go_37, .int so_38, .ref rd_40, .ref rf_41, .ref t_42] rfl ?_
  obtain ⟨h51, eh51⟩ : ∃ z : tw_H, z = tw_up h r26 (.inr (4, [.int n_34, .int rt, .int c_36, .ref v_39, .int go_37, .int so_38, .ref rd_40, .ref rf_41, .ref t_42])) := ⟨_, rfl⟩
  rw [← eh51]
  have sp52 : tw_sp d τ h g τ h51 := by rw [eh51]; exact sp0.set p27 (by decide) ⟨n_34, rt, c_36, go_37, so_38, v_39, rd_40, rf_41, t_42, rfl, k43, k44, k45, k46, k47, k48, p31.1, p31.2⟩
  have f53 : h51 r26 = some (.inr (4, [.int n_34, .int rt, .int c_36, .ref v_39, .int go_37, .int so_38, .ref rd_40, .ref rf_41, .ref t_42])) := by rw [eh51]; exact tw_up_s
  refine tw_aload 1 dX5_law_25 rfl ?_
  refine tw_iload_n 5 dX5_law_27 rfl rfl ?_
  refine tw_putN rfl in_4 tyX0 tyX0_ok nmX0 2 dX5_law_28 w_506 rfl (by decide) f53 rfl rfl rfl rfl (Nat.le_of_ble_eq_true rfl) [.int n_34, .int rt, .int ct, .ref v_39, .int go_37, .int so_38, .ref rd_40, .ref rf_41, .ref t_42] rfl ?_
  obtain ⟨h54, eh54⟩ : ∃ z : tw_H, z = tw_up h51 r26 (.inr (4, [.int n_34, .int rt, .int ct, .ref v_39, .int go_37, .int so_38, .ref rd_40, .ref rf_41, .ref t_42])) := ⟨_, rfl⟩
  rw [← eh54]
  have sp55 : tw_sp d τ h g τ h54 := by rw [eh54]; exact sp52.set p27 (by decide) ⟨n_34, rt, ct, go_37, so_38, v_39, rd_40, rf_41, t_42, rfl, k43, k44, k45, k46, k47, k48, p31.1, p31.2⟩
  have f56 : h54 r26 = some (.inr (4, [.int n_34, .int rt, .int ct, .ref v_39, .int go_37, .int so_38, .ref rd_40, .ref rf_41, .ref t_42])) := by rw [eh54]; exact tw_up_s
  refine tw_iload 0 dX5_law_31 rfl ?_
  exact tw_iret dX5_law_33 rfl (Or.inl ⟨_, rfl, sp55⟩)

set_option maxHeartbeats 4000000 in
set_option maxRecDepth 100000 in
theorem c_X5_gate (d : tw_D) (g : tw_G) (τ : tw_K) (h : tw_H) (hw : tw_wt d g τ h) (x : Nat) (kx : τ x = 11) (n : Int32) (m : Int32) (b : Int32) (kb : tw_01 b) : tw_Ct d mX5_gate 20 120 [.ref x, .int n, .int m, .int b] h (tw_qi (fun r h1 => tw_sp d τ h g τ h1 ∧ tw_01 r) (fun E h1 => (E = tw_IOE ∨ E = tw_IAE) ∧ ∃ τ1, tw_sp d τ h g τ1 h1)) := by
  refine tw_of (by decide +kernel) (Nat.le_of_ble_eq_true rfl) ?_
  show tw_W d mX5_gate _ 0 [(0, .ref x), (1, .int n), (2, .int m), (3, .int b)] [] h 20 120
  have sp0 := tw_sp.rf hw
  refine tw_aload_n 0 dX5_gate_0 rfl rfl ?_
  refine tw_iload_n 1 dX5_gate_1 rfl rfl ?_
  obtain ⟨e1, f2, td_3, ca_4, ha_5, da_6, c1_7, c2_8, c3_9, c4_10, rfl, k11, k12, k13, k14, k15, k16, k17, k18, k19, k20, k21, k22, k23⟩ := sp0.1 x 11 kx (by decide)
  refine tw_br (tw_callV (M := mX5_gate) (pc := 2) okX5_countryAt dX5_gate_2 w_546 rfl f2 [.int n] [] rfl rfl ⟨by decide, by decide⟩ (Nat.le_of_ble_eq_true rfl) (c_X5_countryAt d g τ h sp0.1 x kx n) 19 114 (Nat.le_of_ble_eq_true rfl) (Nat.le_of_ble_eq_true rfl)) (fun r26 h25 q24 => ?_) (fun E h1 q => Or.inr ⟨E, rfl, (Or.inl q.1), ⟨τ, by rw [q.2]; exact sp0⟩⟩)
  obtain ⟨q24e, p27⟩ := q24
  rw [q24e]
  refine tw_astore [(4, .ref r26), (0, .ref x), (1, .int n), (2, .int m), (3, .int b)] dX5_gate_5 (by decide) rfl ?_
  refine tw_iload_n 3 dX5_gate_7 rfl rfl ?_
  refine tw_bv (tw_callS (M := mX5_gate) (pc := 8) okX5_needMetal dX5_gate_8 w_573 [.int m] [] rfl rfl ⟨by decide, by decide⟩ (Nat.le_of_ble_eq_true rfl) (c_X5_needMetal d g τ h sp0.1 m) 18 108 (Nat.le_of_ble_eq_true rfl) (Nat.le_of_ble_eq_true rfl)) (fun h29 q28 => ?_) (fun E h1 q => Or.inr ⟨E, rfl, (Or.inr (q.1)), ⟨τ, by rw [q.2]; exact sp0⟩⟩)
  obtain ⟨q28e, p31⟩ := q28
  rw [q28e]
  refine tw_aload 0 dX5_gate_11 rfl ?_
  refine tw_iload_n 3 dX5_gate_13 rfl rfl ?_
  obtain ⟨e32, f33, n_34, r_35, c_36, go_37, so_38, v_39, rd_40, rf_41, t_42, rfl, k43, k44, k45, k46, k47, k48, k49, k50⟩ := sp0.1 r26 2 p27 (by decide)
  refine tw_bi (tw_callVN (M := mX5_gate) (pc := 14) okX0_isOpenFor dX5_gate_14 w_577 rfl f33 [.int m] [] rfl rfl ⟨by decide, by decide⟩ (Nat.le_of_ble_eq_true rfl) (c_X0_isOpenFor d g τ h sp0.1 r26 p27 m) 18 108 (Nat.le_of_ble_eq_true rfl) (Nat.le_of_ble_eq_true rfl)) (fun r53 h52 q51 => ?_) (fun E h1 q => q.elim)
  obtain ⟨q51e, p54⟩ := q51
  rw [q51e]
  refine tw_istore [(5, .int r53), (4, .ref r26), (0, .ref x), (1, .int n), (2, .int m), (3, .int b)] dX5_gate_17 (by decide) rfl ?_
  refine tw_aload 1 dX5_gate_19 rfl ?_
  refine tw_iload_n 4 dX5_gate_21 rfl rfl ?_
  refine tw_iload_n 5 dX5_gate_22 rfl rfl ?_
  refine tw_bv (tw_callVN (M := mX5_gate) (pc := 23) okX0_setOpenFor dX5_gate_23 w_581 rfl f33 [.int m, .int b] [] rfl rfl ⟨by decide, by decide⟩ (Nat.le_of_ble_eq_true rfl) (c_X0_setOpenFor d g τ h sp0.1 r26 p27 m b kb) 18 108 (Nat.le_of_ble_eq_true rfl) (Nat.le_of_ble_eq_true rfl)) (fun h56 q55 => ?_) (fun E h1 q => q.elim)
  have q55s := q55
  have sp58 := sp0.tr q55s
  refine tw_iload 0 dX5_gate_26 rfl ?_
  exact tw_zret dX5_gate_28 rfl (tw_nar01 p54) (Or.inl ⟨_, rfl, ⟨sp58, p54⟩⟩)

set_option maxHeartbeats 4000000 in
set_option maxRecDepth 100000 in
theorem c_X5_road (d : tw_D) (g : tw_G) (τ : tw_K) (h : tw_H) (hw : tw_wt d g τ h) (x : Nat) (kx : τ x = 11) (a : Int32) (b : Int32) (dy : Int32) (fr : Int32) : tw_Ct d mX5_road 20 120 [.ref x, .int a, .int b, .int dy, .int fr] h (tw_qi (fun r h1 => tw_sp d τ h g τ h1) (fun E h1 => (E = tw_IOE ∨ E = tw_IAE) ∧ ∃ τ1, tw_sp d τ h g τ1 h1)) := by
  refine tw_of (by decide +kernel) (Nat.le_of_ble_eq_true rfl) ?_
  show tw_W d mX5_road _ 0 [(0, .ref x), (1, .int a), (2, .int b), (3, .int dy), (4, .int fr)] [] h 20 120
  have sp0 := tw_sp.rf hw
  refine tw_aload_n 0 dX5_road_0 rfl rfl ?_
  refine tw_iload_n 1 dX5_road_1 rfl rfl ?_
  obtain ⟨e1, f2, td_3, ca_4, ha_5, da_6, c1_7, c2_8, c3_9, c4_10, rfl, k11, k12, k13, k14, k15, k16, k17, k18, k19, k20, k21, k22, k23⟩ := sp0.1 x 11 kx (by decide)
  refine tw_br (tw_callV (M := mX5_road) (pc := 2) okX5_countryAt dX5_road_2 w_546 rfl f2 [.int a] [] rfl rfl ⟨by decide, by decide⟩ (Nat.le_of_ble_eq_true rfl) (c_X5_countryAt d g τ h sp0.1 x kx a) 19 114 (Nat.le_of_ble_eq_true rfl) (Nat.le_of_ble_eq_true rfl)) (fun r26 h25 q24 => ?_) (fun E h1 q => Or.inr ⟨E, rfl, (Or.inl q.1), ⟨τ, by rw [q.2]; exact sp0⟩⟩)
  obtain ⟨q24e, p27⟩ := q24
  rw [q24e]
  refine tw_astore [(5, .ref r26), (0, .ref x), (1, .int a), (2, .int b), (3, .int dy), (4, .int fr)] dX5_road_5 (by decide) rfl ?_
  refine tw_aload_n 1 dX5_road_7 rfl rfl ?_
  refine tw_iload_n 3 dX5_road_8 rfl rfl ?_
  refine tw_br (tw_callV (M := mX5_road) (pc := 9) okX5_countryAt dX5_road_9 w_546 rfl f2 [.int b] [] rfl rfl ⟨by decide, by decide⟩ (Nat.le_of_ble_eq_true rfl) (c_X5_countryAt d g τ h sp0.1 x kx b) 18 108 (Nat.le_of_ble_eq_true rfl) (Nat.le_of_ble_eq_true rfl)) (fun r30 h29 q28 => ?_) (fun E h1 q => Or.inr ⟨E, rfl, (Or.inl q.1), ⟨τ, by rw [q.2]; exact sp0⟩⟩)
  obtain ⟨q28e, p31⟩ := q28
  rw [q28e]
  refine tw_astore [(6, .ref r30), (5, .ref r26), (0, .ref x), (1, .int a), (2, .int b), (3, .int dy), (4, .int fr)] dX5_road_12 (by decide) rfl ?_
  refine tw_iload_n 3 dX5_road_14 rfl rfl ?_
  refine tw_iload_n 4 dX5_road_15 rfl rfl ?_
  refine tw_bv (tw_callS (M := mX5_road) (pc := 16) okX5_needDifferent dX5_road_16 w_599 [.int a, .int b] [] rfl rfl ⟨by decide, by decide⟩ (Nat.le_of_ble_eq_true rfl) (c_X5_needDifferent d g τ h sp0.1 a b) 17 102 (Nat.le_of_ble_eq_true rfl) (Nat.le_of_ble_eq_true rfl)) (fun h33 q32 => ?_) (fun E h1 q => Or.inr ⟨E, rfl, (Or.inr (q.1)), ⟨τ, by rw [q.2]; exact sp0⟩⟩)
  rw [q32]
  refine tw_iload_n 5 dX5_road_19 rfl rfl ?_
  refine tw_iconst (v := 1) dX5_road_20 (by decide) ?_
  refine tw_bipush (v := 30) dX5_road_21 (by decide) ?_
  refine tw_bv (tw_callS (M := mX5_road) (pc := 23) okX5_needRange dX5_road_23 w_399 [.int dy, .int 1, .int 30] [] rfl rfl ⟨by decide, by decide⟩ (Nat.le_of_ble_eq_true rfl) (c_X5_needRange d g τ h sp0.1 dy 1 30) 16 96 (Nat.le_of_ble_eq_true rfl) (Nat.le_of_ble_eq_true rfl)) (fun h36 q35 => ?_) (fun E h1 q => Or.inr ⟨E, rfl, (Or.inr (q.1)), ⟨τ, by rw [q.2]; exact sp0⟩⟩)
  obtain ⟨q35e, p38⟩ := q35
  rw [q35e]
  refine tw_iload 6 dX5_road_26 rfl ?_
  refine tw_iconst (v := 0) dX5_road_28 (by decide) ?_
  refine tw_bipush (v := 100) dX5_road_29 (by decide) ?_
  refine tw_bv (tw_callS (M := mX5_road) (pc := 31) okX5_needRange dX5_road_31 w_399 [.int fr, .int 0, .int 100] [] rfl rfl ⟨by decide, by decide⟩ (Nat.le_of_ble_eq_true rfl) (c_X5_needRange d g τ h sp0.1 fr 0 100) 15 90 (Nat.le_of_ble_eq_true rfl) (Nat.le_of_ble_eq_true rfl)) (fun h40 q39 => ?_) (fun E h1 q => Or.inr ⟨E, rfl, (Or.inr (q.1)), ⟨τ, by rw [q.2]; exact sp0⟩⟩)
  obtain ⟨q39e, p42⟩ := q39
  rw [q39e]
  refine tw_aload 1 dX5_road_34 rfl ?_
  refine tw_aload 0 dX5_road_36 rfl ?_
  obtain ⟨e43, f44, n_45, r_46, c_47, go_48, so_49, v_50, rd_51, rf_52, t_53, rfl, k54, k55, k56, k57, k58, k59, k60, k61⟩ := sp0.1 r30 2 p31 (by decide)
  refine tw_getN (v := .int n_45) rfl in_4 0 dX5_road_38 w_502 rfl (by decide) f44 rfl ?_
  obtain ⟨e62, f63, n_64, r_65, c_66, go_67, so_68, v_69, rd_70, rf_71, t_72, rfl, k73, k74, k75, k76, k77, k78, k79, k80⟩ := sp0.1 r26 2 p27 (by decide)
  refine tw_bi (tw_callVN (M := mX5_road) (pc := 41) okX0_daysTo dX5_road_41 w_226 rfl f63 [.int n_45] [] rfl rfl ⟨by decide, by decide⟩ (Nat.le_of_ble_eq_true rfl) (c_X0_daysTo d g τ h sp0.1 r26 p27 n_45) 15 90 (Nat.le_of_ble_eq_true rfl) (Nat.le_of_ble_eq_true rfl)) (fun r83 h82 q81 => ?_) (fun E h1 q => q.elim)
  rw [q81]
  refine tw_istore [(7, .int r83), (6, .ref r30), (5, .ref r26), (0, .ref x), (1, .int a), (2, .int b), (3, .int dy), (4, .int fr)] dX5_road_44 (by decide) rfl ?_
  refine tw_aload 2 dX5_road_46 rfl ?_
  refine tw_aload 1 dX5_road_48 rfl ?_
  refine tw_getN (v := .int n_45) rfl in_4 0 dX5_road_50 w_502 rfl (by decide) f44 rfl ?_
  refine tw_iload_n 6 dX5_road_53 rfl rfl ?_
  refine tw_iload 7 dX5_road_54 rfl ?_
  refine tw_bv (tw_callVN (M := mX5_road) (pc := 56) okX0_setRoadTo dX5_road_56 w_603 rfl f63 [.int n_45, .int dy, .int fr] [] rfl rfl ⟨by decide, by decide⟩ (Nat.le_of_ble_eq_true rfl) (c_X0_setRoadTo d g τ h sp0.1 r26 p27 n_45 dy fr) 15 90 (Nat.le_of_ble_eq_true rfl) (Nat.le_of_ble_eq_true rfl)) (fun h85 q84 => ?_) (fun E h1 q => q.elim)
  have q84s := q84
  have sp87 := sp0.tr q84s
  refine tw_aload 1 dX5_road_59 rfl ?_
  refine tw_aload 2 dX5_road_61 rfl ?_
  obtain ⟨e89, f90, n_91, r_92, c_93, go_94, so_95, v_96, rd_97, rf_98, t_99, rfl, k100, k101, k102, k103, k104, k105, k106, k107⟩ := sp87.1 r26 2 p27 (by decide)
  refine tw_getN (v := .int n_91) rfl in_4 0 dX5_road_63 w_502 rfl (by decide) f90 rfl ?_
  refine tw_iload_n 6 dX5_road_66 rfl rfl ?_
  refine tw_iload 7 dX5_road_67 rfl ?_
  obtain ⟨e108, f109, n_110, r_111, c_112, go_113, so_114, v_115, rd_116, rf_117, t_118, rfl, k119, k120, k121, k122, k123, k124, k125, k126⟩ := sp87.1 r30 2 p31 (by decide)
  refine tw_bv (tw_callVN (M := mX5_road) (pc := 69) okX0_setRoadTo dX5_road_69 w_603 rfl f109 [.int n_91, .int dy, .int fr] [] rfl rfl ⟨by decide, by decide⟩ (Nat.le_of_ble_eq_true rfl) (c_X0_setRoadTo d g τ h85 sp87.1 r30 p31 n_91 dy fr) 15 90 (Nat.le_of_ble_eq_true rfl) (Nat.le_of_ble_eq_true rfl)) (fun h128 q127 => ?_) (fun E h1 q => q.elim)
  have q127s := q127
  have sp130 := sp87.tr q127s
  refine tw_iload 0 dX5_road_72 rfl ?_
  exact tw_iret dX5_road_74 rfl (Or.inl ⟨_, rfl, sp130⟩)

set_option maxHeartbeats 4000000 in
set_option maxRecDepth 100000 in
theorem c_X5_mine (d : tw_D) (g : tw_G) (τ : tw_K) (h : tw_H) (hw : tw_wt d g τ h) (x : Nat) (kx : τ x = 11) (a : Int32) (m : Int32) (gr : Int32) : tw_Ct d mX5_mine 20 120 [.ref x, .int a, .int m, .int gr] h (tw_qi (fun r h1 => tw_sp d τ h g τ h1) (fun E h1 => (E = tw_IOE ∨ E = tw_IAE ∨ E = tw_ISE) ∧ ∃ τ1, tw_sp d τ h g τ1 h1)) := by
  refine tw_of (by decide +kernel) (Nat.le_of_ble_eq_true rfl) ?_
  show tw_W d mX5_mine _ 0 [(0, .ref x), (1, .int a), (2, .int m), (3, .int gr)] [] h 20 120
  have sp0 := tw_sp.rf hw
  refine tw_aload_n 0 dX5_mine_0 rfl rfl ?_
  refine tw_iload_n 1 dX5_mine_1 rfl rfl ?_
  obtain ⟨e1, f2, td_3, ca_4, ha_5, da_6, c1_7, c2_8, c3_9, c4_10, rfl, k11, k12, k13, k14, k15, k16, k17, k18, k19, k20, k21, k22, k23⟩ := sp0.1 x 11 kx (by decide)
  refine tw_br (tw_callV (M := mX5_mine) (pc := 2) okX5_countryAt dX5_mine_2 w_546 rfl f2 [.int a] [] rfl rfl ⟨by decide, by decide⟩ (Nat.le_of_ble_eq_true rfl) (c_X5_countryAt d g τ h sp0.1 x kx a) 19 114 (Nat.le_of_ble_eq_true rfl) (Nat.le_of_ble_eq_true rfl)) (fun r26 h25 q24 => ?_) (fun E h1 q => Or.inr ⟨E, rfl, (Or.inl q.1), ⟨τ, by rw [q.2]; exact sp0⟩⟩)
  obtain ⟨q24e, p27⟩ := q24
  rw [q24e]
  obtain ⟨e28, f29, n_30, r_31, c_32, go_33, so_34, v_35, rd_36, rf_37, t_38, rfl, k39, k40, k41, k42, k43, k44, k45, k46⟩ := sp0.1 r26 2 p27 (by decide)
  refine tw_getN (v := .ref v_35) rfl in_4 3 dX5_mine_5 w_508 rfl (by decide) f29 rfl ?_
  refine tw_astore [(4, .ref v_35), (0, .ref x), (1, .int a), (2, .int m), (3, .int gr)] dX5_mine_8 (by decide) rfl ?_
  refine tw_iload_n 3 dX5_mine_10 rfl rfl ?_
  refine tw_bv (tw_callS (M := mX5_mine) (pc := 11) okX5_needMetal dX5_mine_11 w_573 [.int m] [] rfl rfl ⟨by decide, by decide⟩ (Nat.le_of_ble_eq_true rfl) (c_X5_needMetal d g τ h sp0.1 m) 18 108 (Nat.le_of_ble_eq_true rfl) (Nat.le_of_ble_eq_true rfl)) (fun h48 q47 => ?_) (fun E h1 q => Or.inr ⟨E, rfl, (Or.inr (Or.inl q.1)), ⟨τ, by rw [q.2]; exact sp0⟩⟩)
  obtain ⟨q47e, p50⟩ := q47
  rw [q47e]
  refine tw_iload_n 4 dX5_mine_14 rfl rfl ?_
  refine tw_iconst (v := 1) dX5_mine_15 (by decide) ?_
  refine tw_ldc (v := 99999) dX5_mine_16 w_470 ?_
  refine tw_bv (tw_callS (M := mX5_mine) (pc := 18) okX5_needRange dX5_mine_18 w_399 [.int gr, .int 1, .int 99999] [] rfl rfl ⟨by decide, by decide⟩ (Nat.le_of_ble_eq_true rfl) (c_X5_needRange d g τ h sp0.1 gr 1 99999) 17 102 (Nat.le_of_ble_eq_true rfl) (Nat.le_of_ble_eq_true rfl)) (fun h52 q51 => ?_) (fun E h1 q => Or.inr ⟨E, rfl, (Or.inr (Or.inl q.1)), ⟨τ, by rw [q.2]; exact sp0⟩⟩)
  obtain ⟨q51e, p54⟩ := q51
  rw [q51e]
  refine tw_aload 0 dX5_mine_21 rfl ?_
  refine tw_iload_n 3 dX5_mine_23 rfl rfl ?_
  obtain ⟨e55, f56, a_57, b_58, rfl⟩ := sp0.1 v_35 1 k39 (by decide)
  refine tw_bi (tw_callVN (M := mX5_mine) (pc := 24) okX3_of dX5_mine_24 w_189 rfl f56 [.int m] [] rfl rfl ⟨by decide, by decide⟩ (Nat.le_of_ble_eq_true rfl) (c_X3_of d g τ h sp0.1 v_35 k39 m) 17 102 (Nat.le_of_ble_eq_true rfl) (Nat.le_of_ble_eq_true rfl)) (fun r61 h60 q59 => ?_) (fun E h1 q => q.elim)
  rw [q59]
  refine tw_ldc (v := 999999) dX5_mine_27 w_614 ?_
  refine tw_iload_n 4 dX5_mine_29 rfl rfl ?_
  refine tw_isub dX5_mine_30 ?_
  refine tw_nmi (fun v62 ev62 => ?_)
  refine tw_icmp_le 44 dX5_mine_31 (by decide) (fun c63 => ?_) (fun c63 => ?_)
  · refine tw_aload 0 dX5_mine_44 rfl ?_
    refine tw_iload_n 3 dX5_mine_46 rfl rfl ?_
    refine tw_iload_n 4 dX5_mine_47 rfl rfl ?_
    refine tw_bv (tw_callVN (M := mX5_mine) (pc := 48) okX3_add dX5_mine_48 w_534 rfl f56 [.int m, .int gr] [] rfl rfl ⟨by decide, by decide⟩ (Nat.le_of_ble_eq_true rfl) (c_X3_add d g τ h sp0.1 v_35 k39 m gr) 17 102 (Nat.le_of_ble_eq_true rfl) (Nat.le_of_ble_eq_true rfl)) (fun h65 q64 => ?_) (fun E h1 q => q.elim)
    have q64s := q64
    have sp67 := sp0.tr q64s
    refine tw_aload_n 1 dX5_mine_51 rfl rfl ?_
    obtain ⟨e69, f70, td_71, ca_72, ha_73, da_74, c1_75, c2_76, c3_77, c4_78, rfl, k79, k80, k81, k82, k83, k84, k85, k86, k87, k88, k89, k90, k91⟩ := sp67.1 x 11 kx (by decide)
    refine tw_get (v := .ref c4_78) rfl in_9 11 dX5_mine_52 w_151 rfl (by decide) f70 rfl ?_
    refine tw_iload_n 3 dX5_mine_55 rfl rfl ?_
    refine tw_iload_n 4 dX5_mine_56 rfl rfl ?_
    obtain ⟨e92, f93, a_94, b_95, rfl⟩ := sp67.1 c4_78 1 k85 (by decide)
    refine tw_bv (tw_callVN (M := mX5_mine) (pc := 57) okX3_add dX5_mine_57 w_534 rfl f93 [.int m, .int gr] [] rfl rfl ⟨by decide, by decide⟩ (Nat.le_of_ble_eq_true rfl) (c_X3_add d g τ h65 sp67.1 c4_78 k85 m gr) 17 102 (Nat.le_of_ble_eq_true rfl) (Nat.le_of_ble_eq_true rfl)) (fun h97 q96 => ?_) (fun E h1 q => q.elim)
    have q96s := q96
    have sp99 := sp67.tr q96s
    refine tw_aload 0 dX5_mine_60 rfl ?_
    refine tw_iload_n 3 dX5_mine_62 rfl rfl ?_
    obtain ⟨e101, f102, a_103, b_104, rfl⟩ := sp99.1 v_35 1 k39 (by decide)
    refine tw_bi (tw_callVN (M := mX5_mine) (pc := 63) okX3_of dX5_mine_63 w_189 rfl f102 [.int m] [] rfl rfl ⟨by decide, by decide⟩ (Nat.le_of_ble_eq_true rfl) (c_X3_of d g τ h97 sp99.1 v_35 k39 m) 17 102 (Nat.le_of_ble_eq_true rfl) (Nat.le_of_ble_eq_true rfl)) (fun r107 h106 q105 => ?_) (fun E h1 q => q.elim)
    rw [q105]
    exact tw_iret dX5_mine_66 rfl (Or.inl ⟨_, rfl, sp99⟩)
  · exact tw_throwS (i := 5) (by decide +kernel) w_471 w_88 rfl at_ISE dX5_mine_34 dX5_mine_37 dX5_mine_38 dX5_mine_40 dX5_mine_43 ⟨by decide, Nat.le_of_ble_eq_true rfl⟩ (Nat.le_of_ble_eq_true rfl) (Nat.le_of_ble_eq_true rfl) (Or.inr ⟨_, rfl, (Or.inr (Or.inr (rfl))), _, sp0⟩)

set_option maxHeartbeats 4000000 in
set_option maxRecDepth 100000 in
theorem c_X5_use (d : tw_D) (g : tw_G) (τ : tw_K) (h : tw_H) (hw : tw_wt d g τ h) (x : Nat) (kx : τ x = 11) (a : Int32) (m : Int32) (gr : Int32) : tw_Ct d mX5_use 20 120 [.ref x, .int a, .int m, .int gr] h (tw_qi (fun r h1 => tw_sp d τ h g τ h1) (fun E h1 => (E = tw_IOE ∨ E = tw_IAE ∨ E = tw_ISE) ∧ ∃ τ1, tw_sp d τ h g τ1 h1)) := by
  refine tw_of (by decide +kernel) (Nat.le_of_ble_eq_true rfl) ?_
  show tw_W d mX5_use _ 0 [(0, .ref x), (1, .int a), (2, .int m), (3, .int gr)] [] h 20 120
  have sp0 := tw_sp.rf hw
  refine tw_aload_n 0 dX5_use_0 rfl rfl ?_
  refine tw_iload_n 1 dX5_use_1 rfl rfl ?_
  obtain ⟨e1, f2, td_3, ca_4, ha_5, da_6, c1_7, c2_8, c3_9, c4_10, rfl, k11, k12, k13, k14, k15, k16, k17, k18, k19, k20, k21, k22, k23⟩ := sp0.1 x 11 kx (by decide)
  refine tw_br (tw_callV (M := mX5_use) (pc := 2) okX5_countryAt dX5_use_2 w_546 rfl f2 [.int a] [] rfl rfl ⟨by decide, by decide⟩ (Nat.le_of_ble_eq_true rfl) (c_X5_countryAt d g τ h sp0.1 x kx a) 19 114 (Nat.le_of_ble_eq_true rfl) (Nat.le_of_ble_eq_true rfl)) (fun r26 h25 q24 => ?_) (fun E h1 q => Or.inr ⟨E, rfl, (Or.inl q.1), ⟨τ, by rw [q.2]; exact sp0⟩⟩)
  obtain ⟨q24e, p27⟩ := q24
  rw [q24e]
  obtain ⟨e28, f29, n_30, r_31, c_32, go_33, so_34, v_35, rd_36, rf_37, t_38, rfl, k39, k40, k41, k42, k43, k44, k45, k46⟩ := sp0.1 r26 2 p27 (by decide)
  refine tw_getN (v := .ref v_35) rfl in_4 3 dX5_use_5 w_508 rfl (by decide) f29 rfl ?_
  refine tw_astore [(4, .ref v_35), (0, .ref x), (1, .int a), (2, .int m), (3, .int gr)] dX5_use_8 (by decide) rfl ?_
  refine tw_iload_n 3 dX5_use_10 rfl rfl ?_
  refine tw_bv (tw_callS (M := mX5_use) (pc := 11) okX5_needMetal dX5_use_11 w_573 [.int m] [] rfl rfl ⟨by decide, by decide⟩ (Nat.le_of_ble_eq_true rfl) (c_X5_needMetal d g τ h sp0.1 m) 18 108 (Nat.le_of_ble_eq_true rfl) (Nat.le_of_ble_eq_true rfl)) (fun h48 q47 => ?_) (fun E h1 q => Or.inr ⟨E, rfl, (Or.inr (Or.inl q.1)), ⟨τ, by rw [q.2]; exact sp0⟩⟩)
  obtain ⟨q47e, p50⟩ := q47
  rw [q47e]
  refine tw_iload_n 4 dX5_use_14 rfl rfl ?_
  refine tw_iconst (v := 1) dX5_use_15 (by decide) ?_
  refine tw_ldc (v := 99999) dX5_use_16 w_470 ?_
  refine tw_bv (tw_callS (M := mX5_use) (pc := 18) okX5_needRange dX5_use_18 w_399 [.int gr, .int 1, .int 99999] [] rfl rfl ⟨by decide, by decide⟩ (Nat.le_of_ble_eq_true rfl) (c_X5_needRange d g τ h sp0.1 gr 1 99999) 17 102 (Nat.le_of_ble_eq_true rfl) (Nat.le_of_ble_eq_true rfl)) (fun h52 q51 => ?_) (fun E h1 q => Or.inr ⟨E, rfl, (Or.inr (Or.inl q.1)), ⟨τ, by rw [q.2]; exact sp0⟩⟩)
  obtain ⟨q51e, p54⟩ := q51
  rw [q51e]
  refine tw_aload 0 dX5_use_21 rfl ?_
  refine tw_iload_n 3 dX5_use_23 rfl rfl ?_
  obtain ⟨e55, f56, a_57, b_58, rfl⟩ := sp0.1 v_35 1 k39 (by decide)
  refine tw_bi (tw_callVN (M := mX5_use) (pc := 24) okX3_of dX5_use_24 w_189 rfl f56 [.int m] [] rfl rfl ⟨by decide, by decide⟩ (Nat.le_of_ble_eq_true rfl) (c_X3_of d g τ h sp0.1 v_35 k39 m) 17 102 (Nat.le_of_ble_eq_true rfl) (Nat.le_of_ble_eq_true rfl)) (fun r61 h60 q59 => ?_) (fun E h1 q => q.elim)
  rw [q59]
  refine tw_iload_n 4 dX5_use_27 rfl rfl ?_
  refine tw_icmp_ge 41 dX5_use_28 (by decide) (fun c62 => ?_) (fun c62 => ?_)
  · refine tw_aload 0 dX5_use_41 rfl ?_
    refine tw_iload_n 3 dX5_use_43 rfl rfl ?_
    refine tw_iload_n 4 dX5_use_44 rfl rfl ?_
    refine tw_ineg dX5_use_45 ?_
    refine tw_nmi (fun v63 ev63 => ?_)
    refine tw_bv (tw_callVN (M := mX5_use) (pc := 46) okX3_add dX5_use_46 w_534 rfl f56 [.int m, .int v63] [] rfl rfl ⟨by decide, by decide⟩ (Nat.le_of_ble_eq_true rfl) (c_X3_add d g τ h sp0.1 v_35 k39 m v63) 17 102 (Nat.le_of_ble_eq_true rfl) (Nat.le_of_ble_eq_true rfl)) (fun h65 q64 => ?_) (fun E h1 q => q.elim)
    have q64s := q64
    have sp67 := sp0.tr q64s
    refine tw_aload_n 1 dX5_use_49 rfl rfl ?_
    obtain ⟨e69, f70, td_71, ca_72, ha_73, da_74, c1_75, c2_76, c3_77, c4_78, rfl, k79, k80, k81, k82, k83, k84, k85, k86, k87, k88, k89, k90, k91⟩ := sp67.1 x 11 kx (by decide)
    refine tw_get (v := .ref c2_76) rfl in_9 9 dX5_use_50 w_149 rfl (by decide) f70 rfl ?_
    refine tw_iload_n 3 dX5_use_53 rfl rfl ?_
    refine tw_iload_n 4 dX5_use_54 rfl rfl ?_
    obtain ⟨e92, f93, a_94, b_95, rfl⟩ := sp67.1 c2_76 1 k83 (by decide)
    refine tw_bv (tw_callVN (M := mX5_use) (pc := 55) okX3_add dX5_use_55 w_534 rfl f93 [.int m, .int gr] [] rfl rfl ⟨by decide, by decide⟩ (Nat.le_of_ble_eq_true rfl) (c_X3_add d g τ h65 sp67.1 c2_76 k83 m gr) 17 102 (Nat.le_of_ble_eq_true rfl) (Nat.le_of_ble_eq_true rfl)) (fun h97 q96 => ?_) (fun E h1 q => q.elim)
    have q96s := q96
    have sp99 := sp67.tr q96s
    refine tw_aload 0 dX5_use_58 rfl ?_
    refine tw_iload_n 3 dX5_use_60 rfl rfl ?_
    obtain ⟨e101, f102, a_103, b_104, rfl⟩ := sp99.1 v_35 1 k39 (by decide)
    refine tw_bi (tw_callVN (M := mX5_use) (pc := 61) okX3_of dX5_use_61 w_189 rfl f102 [.int m] [] rfl rfl ⟨by decide, by decide⟩ (Nat.le_of_ble_eq_true rfl) (c_X3_of d g τ h97 sp99.1 v_35 k39 m) 17 102 (Nat.le_of_ble_eq_true rfl) (Nat.le_of_ble_eq_true rfl)) (fun r107 h106 q105 => ?_) (fun E h1 q => q.elim)
    rw [q105]
    exact tw_iret dX5_use_64 rfl (Or.inl ⟨_, rfl, sp99⟩)
  · exact tw_throwS (i := 6) (by decide +kernel) w_471 w_88 rfl at_ISE dX5_use_31 dX5_use_34 dX5_use_35 dX5_use_37 dX5_use_40 ⟨by decide, Nat.le_of_ble_eq_true rfl⟩ (Nat.le_of_ble_eq_true rfl) (Nat.le_of_ble_eq_true rfl) (Or.inr ⟨_, rfl, (Or.inr (Or.inr (rfl))), _, sp0⟩)

set_option maxHeartbeats 4000000 in
set_option maxRecDepth 100000 in
theorem c_X5_change (d : tw_D) (g : tw_G) (τ : tw_K) (h : tw_H) (hw : tw_wt d g τ h) (x : Nat) (kx : τ x = 11) (a : Int32) (m : Int32) (gr : Int32) : tw_Ct d mX5_change 20 120 [.ref x, .int a, .int m, .int gr] h (tw_qi (fun r h1 => tw_sp d τ h g τ h1) (fun E h1 => (E = tw_IOE ∨ E = tw_IAE ∨ E = tw_ISE) ∧ ∃ τ1, tw_sp d τ h g τ1 h1)) := by
  refine tw_of (by decide +kernel) (Nat.le_of_ble_eq_true rfl) ?_
  show tw_W d mX5_change _ 0 [(0, .ref x), (1, .int a), (2, .int m), (3, .int gr)] [] h 20 120
  have sp0 := tw_sp.rf hw
  refine tw_aload_n 0 dX5_change_0 rfl rfl ?_
  refine tw_iload_n 1 dX5_change_1 rfl rfl ?_
  obtain ⟨e1, f2, td_3, ca_4, ha_5, da_6, c1_7, c2_8, c3_9, c4_10, rfl, k11, k12, k13, k14, k15, k16, k17, k18, k19, k20, k21, k22, k23⟩ := sp0.1 x 11 kx (by decide)
  refine tw_br (tw_callV (M := mX5_change) (pc := 2) okX5_houseAt dX5_change_2 w_664 rfl f2 [.int a] [] rfl rfl ⟨by decide, by decide⟩ (Nat.le_of_ble_eq_true rfl) (c_X5_houseAt d g τ h sp0.1 x kx a) 19 114 (Nat.le_of_ble_eq_true rfl) (Nat.le_of_ble_eq_true rfl)) (fun r26 h25 q24 => ?_) (fun E h1 q => Or.inr ⟨E, rfl, (Or.inl q.1), ⟨τ, by rw [q.2]; exact sp0⟩⟩)
  obtain ⟨q24e, p27⟩ := q24
  rw [q24e]
  refine tw_astore [(4, .ref r26), (0, .ref x), (1, .int a), (2, .int m), (3, .int gr)] dX5_change_5 (by decide) rfl ?_
  refine tw_iload_n 3 dX5_change_7 rfl rfl ?_
  refine tw_bv (tw_callS (M := mX5_change) (pc := 8) okX5_needMetal dX5_change_8 w_573 [.int m] [] rfl rfl ⟨by decide, by decide⟩ (Nat.le_of_ble_eq_true rfl) (c_X5_needMetal d g τ h sp0.1 m) 18 108 (Nat.le_of_ble_eq_true rfl) (Nat.le_of_ble_eq_true rfl)) (fun h29 q28 => ?_) (fun E h1 q => Or.inr ⟨E, rfl, (Or.inr (Or.inl q.1)), ⟨τ, by rw [q.2]; exact sp0⟩⟩)
  obtain ⟨q28e, p31⟩ := q28
  rw [q28e]
  refine tw_iload_n 4 dX5_change_11 rfl rfl ?_
  refine tw_iconst (v := 1) dX5_change_12 (by decide) ?_
  refine tw_ldc (v := 99999) dX5_change_13 w_470 ?_
  refine tw_bv (tw_callS (M := mX5_change) (pc := 15) okX5_needRange dX5_change_15 w_399 [.int gr, .int 1, .int 99999] [] rfl rfl ⟨by decide, by decide⟩ (Nat.le_of_ble_eq_true rfl) (c_X5_needRange d g τ h sp0.1 gr 1 99999) 17 102 (Nat.le_of_ble_eq_true rfl) (Nat.le_of_ble_eq_true rfl)) (fun h33 q32 => ?_) (fun E h1 q => Or.inr ⟨E, rfl, (Or.inr (Or.inl q.1)), ⟨τ, by rw [q.2]; exact sp0⟩⟩)
  obtain ⟨q32e, p35⟩ := q32
  rw [q32e]
  refine tw_aload 0 dX5_change_18 rfl ?_
  obtain ⟨e36, f37, n_38, ar_39, p_40, pl_41, go_42, rfl, k43, k44, k45⟩ := sp0.1 r26 3 p27 (by decide)
  cases pl_41 with
  | none =>
    refine tw_getN (v := .null) rfl in_6 2 dX5_change_20 w_641 rfl (by decide) f37 rfl ?_
    refine tw_astoreN [(5, .null), (4, .ref r26), (0, .ref x), (1, .int a), (2, .int m), (3, .int gr)] dX5_change_23 (by decide) rfl ?_
    refine tw_aloadN 0 dX5_change_25 rfl ?_
    refine tw_ifnullN 43 dX5_change_27 (by decide) ?_
    exact tw_throwS (i := 9) (by decide +kernel) w_471 w_88 rfl at_ISE dX5_change_43 dX5_change_46 dX5_change_47 dX5_change_49 dX5_change_52 ⟨by decide, Nat.le_of_ble_eq_true rfl⟩ (Nat.le_of_ble_eq_true rfl) (Nat.le_of_ble_eq_true rfl) (Or.inr ⟨_, rfl, (Or.inr (Or.inr (rfl))), _, sp0⟩)
  | some q46 =>
    refine tw_getN (v := .ref q46) rfl in_6 2 dX5_change_20 w_641 rfl (by decide) f37 rfl ?_
    refine tw_astore [(5, .ref q46), (4, .ref r26), (0, .ref x), (1, .int a), (2, .int m), (3, .int gr)] dX5_change_23 (by decide) rfl ?_
    refine tw_aload 0 dX5_change_25 rfl ?_
    refine tw_ifnull dX5_change_27 ?_
    refine tw_aload 1 dX5_change_30 rfl ?_
    refine tw_getN (v := .ref p_40) rfl in_6 1 dX5_change_32 w_639 rfl (by decide) f37 rfl ?_
    refine tw_iload_n 4 dX5_change_35 rfl rfl ?_
    obtain ⟨e47, f48, a_49, b_50, rfl⟩ := sp0.1 p_40 1 k43 (by decide)
    refine tw_bi (tw_callVN (M := mX5_change) (pc := 36) okX3_of dX5_change_36 w_189 rfl f48 [.int m] [] rfl rfl ⟨by decide, by decide⟩ (Nat.le_of_ble_eq_true rfl) (c_X3_of d g τ h sp0.1 p_40 k43 m) 17 102 (Nat.le_of_ble_eq_true rfl) (Nat.le_of_ble_eq_true rfl)) (fun r53 h52 q51 => ?_) (fun E h1 q => q.elim)
    rw [q51]
    refine tw_iload_n 5 dX5_change_39 rfl rfl ?_
    refine tw_icmp_ge 53 dX5_change_40 (by decide) (fun c54 => ?_) (fun c54 => ?_)
    · refine tw_aload 0 dX5_change_53 rfl ?_
      refine tw_iload_n 4 dX5_change_55 rfl rfl ?_
      refine tw_iload_n 5 dX5_change_56 rfl rfl ?_
      obtain ⟨e55, f56, n_57, r_58, c_59, go_60, so_61, v_62, rd_63, rf_64, t_65, rfl, k66, k67, k68, k69, k70, k71, k72, k73⟩ := sp0.1 q46 2 (k44 _ rfl) (by decide)
      refine tw_bi (tw_callVN (M := mX5_change) (pc := 57) okX0_minted dX5_change_57 w_299 rfl f56 [.int m, .int gr] [] rfl rfl ⟨by decide, by decide⟩ (Nat.le_of_ble_eq_true rfl) (c_X0_minted d g τ h sp0.1 q46 (k44 _ rfl) m gr) 17 102 (Nat.le_of_ble_eq_true rfl) (Nat.le_of_ble_eq_true rfl)) (fun r76 h75 q74 => ?_) (fun E h1 q => q.elim)
      rw [q74]
      refine tw_istore [(6, .int r76), (5, .ref q46), (4, .ref r26), (0, .ref x), (1, .int a), (2, .int m), (3, .int gr)] dX5_change_60 (by decide) rfl ?_
      refine tw_iload_n 5 dX5_change_62 rfl rfl ?_
      refine tw_bi (tw_callS (M := mX5_change) (pc := 63) okX5_otherMetal dX5_change_63 w_318 [.int m] [] rfl rfl ⟨by decide, by decide⟩ (Nat.le_of_ble_eq_true rfl) (c_X5_otherMetal d g τ h sp0.1 m) 17 102 (Nat.le_of_ble_eq_true rfl) (Nat.le_of_ble_eq_true rfl)) (fun r79 h78 q77 => ?_) (fun E h1 q => q.elim)
      obtain ⟨q77e, p80⟩ := q77
      rw [q77e]
      refine tw_istore [(7, .int r79), (6, .int r76), (5, .ref q46), (4, .ref r26), (0, .ref x), (1, .int a), (2, .int m), (3, .int gr)] dX5_change_66 (by decide) rfl ?_
      refine tw_aload 2 dX5_change_68 rfl ?_
      refine tw_iload_n 6 dX5_change_70 rfl rfl ?_
      refine tw_bi (tw_callVN (M := mX5_change) (pc := 71) okX0_isOpenFor dX5_change_71 w_577 rfl f56 [.int m] [] rfl rfl ⟨by decide, by decide⟩ (Nat.le_of_ble_eq_true rfl) (c_X0_isOpenFor d g τ h sp0.1 q46 (k44 _ rfl) m) 17 102 (Nat.le_of_ble_eq_true rfl) (Nat.le_of_ble_eq_true rfl)) (fun r83 h82 q81 => ?_) (fun E h1 q => q.elim)
      obtain ⟨q81e, p84⟩ := q81
      rw [q81e]
      refine tw_if_eq 92 dX5_change_74 (by decide) (fun c85 => ?_) (fun c85 => ?_)
      · exact tw_throwS (i := 10) (by decide +kernel) w_471 w_88 rfl at_ISE dX5_change_92 dX5_change_95 dX5_change_96 dX5_change_98 dX5_change_101 ⟨by decide, Nat.le_of_ble_eq_true rfl⟩ (Nat.le_of_ble_eq_true rfl) (Nat.le_of_ble_eq_true rfl) (Or.inr ⟨_, rfl, (Or.inr (Or.inr (rfl))), _, sp0⟩)
      · refine tw_aload 2 dX5_change_77 rfl ?_
        refine tw_getN (v := .ref v_62) rfl in_4 3 dX5_change_79 w_508 rfl (by decide) f56 rfl ?_
        refine tw_iload 0 dX5_change_82 rfl ?_
        obtain ⟨e86, f87, a_88, b_89, rfl⟩ := sp0.1 v_62 1 k66 (by decide)
        refine tw_bi (tw_callVN (M := mX5_change) (pc := 84) okX3_of dX5_change_84 w_189 rfl f87 [.int r79] [] rfl rfl ⟨by decide, by decide⟩ (Nat.le_of_ble_eq_true rfl) (c_X3_of d g τ h sp0.1 v_62 k66 r79) 17 102 (Nat.le_of_ble_eq_true rfl) (Nat.le_of_ble_eq_true rfl)) (fun r92 h91 q90 => ?_) (fun E h1 q => q.elim)
        rw [q90]
        refine tw_iload 1 dX5_change_87 rfl ?_
        refine tw_icmp_ge 102 dX5_change_89 (by decide) (fun c93 => ?_) (fun c93 => ?_)
        · refine tw_aload 3 dX5_change_102 rfl ?_
          refine tw_getN (v := .ref p_40) rfl in_6 1 dX5_change_104 w_639 rfl (by decide) f37 rfl ?_
          refine tw_iload_n 6 dX5_change_107 rfl rfl ?_
          refine tw_iload_n 7 dX5_change_108 rfl rfl ?_
          refine tw_ineg dX5_change_109 ?_
          refine tw_nmi (fun v94 ev94 => ?_)
          refine tw_bv (tw_callVN (M := mX5_change) (pc := 110) okX3_add dX5_change_110 w_534 rfl f48 [.int m, .int v94] [] rfl rfl ⟨by decide, by decide⟩ (Nat.le_of_ble_eq_true rfl) (c_X3_add d g τ h sp0.1 p_40 k43 m v94) 17 102 (Nat.le_of_ble_eq_true rfl) (Nat.le_of_ble_eq_true rfl)) (fun h96 q95 => ?_) (fun E h1 q => q.elim)
          have q95s := q95
          have sp98 := sp0.tr q95s
          refine tw_aload 2 dX5_change_113 rfl ?_
          obtain ⟨e100, f101, n_102, r_103, c_104, go_105, so_106, v_107, rd_108, rf_109, t_110, rfl, k111, k112, k113, k114, k115, k116, k117, k118⟩ := sp98.1 q46 2 (k44 _ rfl) (by decide)
          refine tw_getN (v := .ref v_107) rfl in_4 3 dX5_change_115 w_508 rfl (by decide) f101 rfl ?_
          refine tw_iload_n 6 dX5_change_118 rfl rfl ?_
          refine tw_iload_n 7 dX5_change_119 rfl rfl ?_
          obtain ⟨e119, f120, a_121, b_122, rfl⟩ := sp98.1 v_107 1 k111 (by decide)
          refine tw_bv (tw_callVN (M := mX5_change) (pc := 120) okX3_add dX5_change_120 w_534 rfl f120 [.int m, .int gr] [] rfl rfl ⟨by decide, by decide⟩ (Nat.le_of_ble_eq_true rfl) (c_X3_add d g τ h96 sp98.1 v_107 k111 m gr) 17 102 (Nat.le_of_ble_eq_true rfl) (Nat.le_of_ble_eq_true rfl)) (fun h124 q123 => ?_) (fun E h1 q => q.elim)
          have q123s := q123
          have sp126 := sp98.tr q123s
          refine tw_aload 2 dX5_change_123 rfl ?_
          obtain ⟨e128, f129, n_130, r_131, c_132, go_133, so_134, v_135, rd_136, rf_137, t_138, rfl, k139, k140, k141, k142, k143, k144, k145, k146⟩ := sp126.1 q46 2 (k44 _ rfl) (by decide)
          refine tw_getN (v := .ref v_135) rfl in_4 3 dX5_change_125 w_508 rfl (by decide) f129 rfl ?_
          refine tw_iload 0 dX5_change_128 rfl ?_
          refine tw_iload 1 dX5_change_130 rfl ?_
          refine tw_ineg dX5_change_132 ?_
          refine tw_nmi (fun v147 ev147 => ?_)
          obtain ⟨e148, f149, a_150, b_151, rfl⟩ := sp126.1 v_135 1 k139 (by decide)
          refine tw_bv (tw_callVN (M := mX5_change) (pc := 133) okX3_add dX5_change_133 w_534 rfl f149 [.int r79, .int v147] [] rfl rfl ⟨by decide, by decide⟩ (Nat.le_of_ble_eq_true rfl) (c_X3_add d g τ h124 sp126.1 v_135 k139 r79 v147) 17 102 (Nat.le_of_ble_eq_true rfl) (Nat.le_of_ble_eq_true rfl)) (fun h153 q152 => ?_) (fun E h1 q => q.elim)
          have q152s := q152
          have sp155 := sp126.tr q152s
          refine tw_aload 3 dX5_change_136 rfl ?_
          obtain ⟨e157, f158, n_159, ar_160, p_161, pl_162, go_163, rfl, k164, k165, k166⟩ := sp155.1 r26 3 p27 (by decide)
          refine tw_getN (v := .ref p_161) rfl in_6 1 dX5_change_138 w_639 rfl (by decide) f158 rfl ?_
          refine tw_iload 0 dX5_change_141 rfl ?_
          refine tw_iload 1 dX5_change_143 rfl ?_
          obtain ⟨e167, f168, a_169, b_170, rfl⟩ := sp155.1 p_161 1 k164 (by decide)
          refine tw_bv (tw_callVN (M := mX5_change) (pc := 145) okX3_add dX5_change_145 w_534 rfl f168 [.int r79, .int r76] [] rfl rfl ⟨by decide, by decide⟩ (Nat.le_of_ble_eq_true rfl) (c_X3_add d g τ h153 sp155.1 p_161 k164 r79 r76) 17 102 (Nat.le_of_ble_eq_true rfl) (Nat.le_of_ble_eq_true rfl)) (fun h172 q171 => ?_) (fun E h1 q => q.elim)
          have q171s := q171
          have sp174 := sp155.tr q171s
          refine tw_iload 1 dX5_change_148 rfl ?_
          exact tw_iret dX5_change_150 rfl (Or.inl ⟨_, rfl, sp174⟩)
        · exact tw_throwS (i := 10) (by decide +kernel) w_471 w_88 rfl at_ISE dX5_change_92 dX5_change_95 dX5_change_96 dX5_change_98 dX5_change_101 ⟨by decide, Nat.le_of_ble_eq_true rfl⟩ (Nat.le_of_ble_eq_true rfl) (Nat.le_of_ble_eq_true rfl) (Or.inr ⟨_, rfl, (Or.inr (Or.inr (rfl))), _, sp0⟩)
    · exact tw_throwS (i := 9) (by decide +kernel) w_471 w_88 rfl at_ISE dX5_change_43 dX5_change_46 dX5_change_47 dX5_change_49 dX5_change_52 ⟨by decide, Nat.le_of_ble_eq_true rfl⟩ (Nat.le_of_ble_eq_true rfl) (Nat.le_of_ble_eq_true rfl) (Or.inr ⟨_, rfl, (Or.inr (Or.inr (rfl))), _, sp0⟩)

set_option maxHeartbeats 4000000 in
set_option maxRecDepth 100000 in
theorem c_X5_payFreight (d : tw_D) (g : tw_G) (τ : tw_K) (h : tw_H) (hw : tw_wt d g τ h) (x : Nat) (kx : τ x = 11) (p : Nat) (kp : τ p = 1) (m : Int32) (fr : Int32) : tw_Ct d mX5_payFreight 0 0 [.ref x, .ref p, .int m, .int fr] h (tw_qv (fun h1 => tw_sp d τ h g τ h1) tw_nx) := by
  refine tw_of (by decide +kernel) (Nat.le_of_ble_eq_true rfl) ?_
  show tw_W d mX5_payFreight _ 0 [(0, .ref x), (1, .ref p), (2, .int m), (3, .int fr)] [] h 0 0
  have sp0 := tw_sp.rf hw
  refine tw_aload_n 1 dX5_payFreight_0 rfl rfl ?_
  refine tw_iload_n 2 dX5_payFreight_1 rfl rfl ?_
  obtain ⟨e1, f2, a_3, b_4, rfl⟩ := sp0.1 p 1 kp (by decide)
  refine tw_bi (tw_callVN (M := mX5_payFreight) (pc := 2) okX3_of dX5_payFreight_2 w_189 rfl f2 [.int m] [] rfl rfl ⟨by decide, by decide⟩ (Nat.le_of_ble_eq_true rfl) (c_X3_of d g τ h sp0.1 p kp m) 0 0 (Nat.le_of_ble_eq_true rfl) (Nat.le_of_ble_eq_true rfl)) (fun r7 h6 q5 => ?_) (fun E h1 q => q.elim)
  rw [q5]
  refine tw_iload_n 3 dX5_payFreight_5 rfl rfl ?_
  refine tw_bi (tw_callS (M := mX5_payFreight) (pc := 6) okX5_thousandthsRoundedUp dX5_payFreight_6 w_317 [.int r7, .int fr] [] rfl rfl ⟨by decide, by decide⟩ (Nat.le_of_ble_eq_true rfl) (c_X5_thousandthsRoundedUp d g τ h sp0.1 r7 fr) 0 0 (Nat.le_of_ble_eq_true rfl) (Nat.le_of_ble_eq_true rfl)) (fun r10 h9 q8 => ?_) (fun E h1 q => q.elim)
  rw [q8]
  refine tw_istore [(4, .int r10), (0, .ref x), (1, .ref p), (2, .int m), (3, .int fr)] dX5_payFreight_9 (by decide) rfl ?_
  refine tw_aload_n 2 dX5_payFreight_11 rfl rfl ?_
  refine tw_iload_n 3 dX5_payFreight_12 rfl rfl ?_
  refine tw_iload 0 dX5_payFreight_13 rfl ?_
  refine tw_ineg dX5_payFreight_15 ?_
  refine tw_nmi (fun v11 ev11 => ?_)
  refine tw_bv (tw_callVN (M := mX5_payFreight) (pc := 16) okX3_add dX5_payFreight_16 w_534 rfl f2 [.int m, .int v11] [] rfl rfl ⟨by decide, by decide⟩ (Nat.le_of_ble_eq_true rfl) (c_X3_add d g τ h sp0.1 p kp m v11) 0 0 (Nat.le_of_ble_eq_true rfl) (Nat.le_of_ble_eq_true rfl)) (fun h13 q12 => ?_) (fun E h1 q => q.elim)
  have q12s := q12
  have sp15 := sp0.tr q12s
  refine tw_aload_n 1 dX5_payFreight_19 rfl rfl ?_
  obtain ⟨e17, f18, td_19, ca_20, ha_21, da_22, c1_23, c2_24, c3_25, c4_26, rfl, k27, k28, k29, k30, k31, k32, k33, k34, k35, k36, k37, k38, k39⟩ := sp15.1 x 11 kx (by decide)
  refine tw_get (v := .ref c1_23) rfl in_9 8 dX5_payFreight_20 w_148 rfl (by decide) f18 rfl ?_
  refine tw_iload_n 3 dX5_payFreight_23 rfl rfl ?_
  refine tw_iload 0 dX5_payFreight_24 rfl ?_
  obtain ⟨e40, f41, a_42, b_43, rfl⟩ := sp15.1 c1_23 1 k30 (by decide)
  refine tw_bv (tw_callVN (M := mX5_payFreight) (pc := 26) okX3_add dX5_payFreight_26 w_534 rfl f41 [.int m, .int r10] [] rfl rfl ⟨by decide, by decide⟩ (Nat.le_of_ble_eq_true rfl) (c_X3_add d g τ h13 sp15.1 c1_23 k30 m r10) 0 0 (Nat.le_of_ble_eq_true rfl) (Nat.le_of_ble_eq_true rfl)) (fun h45 q44 => ?_) (fun E h1 q => q.elim)
  have q44s := q44
  have sp47 := sp15.tr q44s
  exact tw_vret dX5_payFreight_29 rfl (Or.inl ⟨rfl, sp47⟩)

set_option maxHeartbeats 4000000 in
set_option maxRecDepth 100000 in
theorem c_X5_send (d : tw_D) (g : tw_G) (τ : tw_K) (h : tw_H) (hw : tw_wt d g τ h) (x : Nat) (kx : τ x = 11) (a : Int32) (b : Int32) : tw_Ct d mX5_send 20 120 [.ref x, .int a, .int b] h (tw_qi (fun r h1 => tw_sp d τ h g τ h1) (fun E h1 => (E = tw_IOE ∨ E = tw_ISE) ∧ ∃ τ1, tw_sp d τ h g τ1 h1)) := by
  refine tw_of (by decide +kernel) (Nat.le_of_ble_eq_true rfl) ?_
  show tw_W d mX5_send _ 0 [(0, .ref x), (1, .int a), (2, .int b)] [] h 20 120
  have sp0 := tw_sp.rf hw
  refine tw_aload_n 0 dX5_send_0 rfl rfl ?_
  refine tw_iload_n 1 dX5_send_1 rfl rfl ?_
  obtain ⟨e1, f2, td_3, ca_4, ha_5, da_6, c1_7, c2_8, c3_9, c4_10, rfl, k11, k12, k13, k14, k15, k16, k17, k18, k19, k20, k21, k22, k23⟩ := sp0.1 x 11 kx (by decide)
  refine tw_br (tw_callV (M := mX5_send) (pc := 2) okX5_houseAt dX5_send_2 w_664 rfl f2 [.int a] [] rfl rfl ⟨by decide, by decide⟩ (Nat.le_of_ble_eq_true rfl) (c_X5_houseAt d g τ h sp0.1 x kx a) 19 114 (Nat.le_of_ble_eq_true rfl) (Nat.le_of_ble_eq_true rfl)) (fun r26 h25 q24 => ?_) (fun E h1 q => Or.inr ⟨E, rfl, (Or.inl q.1), ⟨τ, by rw [q.2]; exact sp0⟩⟩)
  obtain ⟨q24e, p27⟩ := q24
  rw [q24e]
  refine tw_astore_n [(3, .ref r26), (0, .ref x), (1, .int a), (2, .int b)] dX5_send_5 rfl (by decide) rfl ?_
  refine tw_aload_n 1 dX5_send_6 rfl rfl ?_
  refine tw_iload_n 3 dX5_send_7 rfl rfl ?_
  refine tw_br (tw_callV (M := mX5_send) (pc := 8) okX5_countryAt dX5_send_8 w_546 rfl f2 [.int b] [] rfl rfl ⟨by decide, by decide⟩ (Nat.le_of_ble_eq_true rfl) (c_X5_countryAt d g τ h sp0.1 x kx b) 18 108 (Nat.le_of_ble_eq_true rfl) (Nat.le_of_ble_eq_true rfl)) (fun r30 h29 q28 => ?_) (fun E h1 q => Or.inr ⟨E, rfl, (Or.inl q.1), ⟨τ, by rw [q.2]; exact sp0⟩⟩)
  obtain ⟨q28e, p31⟩ := q28
  rw [q28e]
  refine tw_astore [(4, .ref r30), (3, .ref r26), (0, .ref x), (1, .int a), (2, .int b)] dX5_send_11 (by decide) rfl ?_
  refine tw_aload_n 1 dX5_send_13 rfl rfl ?_
  obtain ⟨e32, f33, n_34, ar_35, p_36, pl_37, go_38, rfl, k39, k40, k41⟩ := sp0.1 r26 3 p27 (by decide)
  cases pl_37 with
  | none =>
    refine tw_getN (v := .null) rfl in_6 2 dX5_send_14 w_641 rfl (by decide) f33 rfl ?_
    refine tw_astoreN [(5, .null), (4, .ref r30), (3, .ref r26), (0, .ref x), (1, .int a), (2, .int b)] dX5_send_17 (by decide) rfl ?_
    refine tw_aloadN 0 dX5_send_19 rfl ?_
    refine tw_ifnullN 31 dX5_send_21 (by decide) ?_
    exact tw_throwS (i := 11) (by decide +kernel) w_471 w_88 rfl at_ISE dX5_send_31 dX5_send_34 dX5_send_35 dX5_send_37 dX5_send_40 ⟨by decide, Nat.le_of_ble_eq_true rfl⟩ (Nat.le_of_ble_eq_true rfl) (Nat.le_of_ble_eq_true rfl) (Or.inr ⟨_, rfl, (Or.inr (rfl)), _, sp0⟩)
  | some q42 =>
    refine tw_getN (v := .ref q42) rfl in_6 2 dX5_send_14 w_641 rfl (by decide) f33 rfl ?_
    refine tw_astore [(5, .ref q42), (4, .ref r30), (3, .ref r26), (0, .ref x), (1, .int a), (2, .int b)] dX5_send_17 (by decide) rfl ?_
    refine tw_aload 0 dX5_send_19 rfl ?_
    refine tw_ifnull dX5_send_21 ?_
    refine tw_aload 0 dX5_send_24 rfl ?_
    refine tw_aload 1 dX5_send_26 rfl ?_
    refine tw_acmp_ne (rx := (some q42)) (ry := (some r30)) 41 dX5_send_28 (by decide) (fun c43 => ?_) (fun c43 => ?_)
    · refine tw_aload_n 3 dX5_send_41 rfl rfl ?_
      refine tw_aload_n 2 dX5_send_42 rfl rfl ?_
      refine tw_getN (v := .ref p_36) rfl in_6 1 dX5_send_43 w_639 rfl (by decide) f33 rfl ?_
      refine tw_iconst (v := 0) dX5_send_46 (by decide) ?_
      refine tw_aload 0 dX5_send_47 rfl ?_
      refine tw_aload 1 dX5_send_49 rfl ?_
      obtain ⟨e44, f45, n_46, r_47, c_48, go_49, so_50, v_51, rd_52, rf_53, t_54, rfl, k55, k56, k57, k58, k59, k60, k61, k62⟩ := sp0.1 r30 2 p31 (by decide)
      refine tw_getN (v := .int n_46) rfl in_4 0 dX5_send_51 w_502 rfl (by decide) f45 rfl ?_
      obtain ⟨e63, f64, n_65, r_66, c_67, go_68, so_69, v_70, rd_71, rf_72, t_73, rfl, k74, k75, k76, k77, k78, k79, k80, k81⟩ := sp0.1 q42 2 (k40 _ rfl) (by decide)
      refine tw_bi (tw_callVN (M := mX5_send) (pc := 54) okX0_freightTo dX5_send_54 w_231 rfl f64 [.int n_46] [.int 0, .ref p_36, .ref x] rfl rfl ⟨by decide, by decide⟩ (Nat.le_of_ble_eq_true rfl) (c_X0_freightTo d g τ h sp0.1 q42 (k40 _ rfl) n_46) 18 108 (Nat.le_of_ble_eq_true rfl) (Nat.le_of_ble_eq_true rfl)) (fun r84 h83 q82 => ?_) (fun E h1 q => q.elim)
      rw [q82]
      refine tw_bv (tw_callV (M := mX5_send) (pc := 57) okX5_payFreight dX5_send_57 w_679 rfl f2 [.ref p_36, .int 0, .int r84] [] rfl rfl ⟨by decide, by decide⟩ (Nat.le_of_ble_eq_true rfl) (c_X5_payFreight d g τ h sp0.1 x kx p_36 k39 0 r84) 18 108 (Nat.le_of_ble_eq_true rfl) (Nat.le_of_ble_eq_true rfl)) (fun h86 q85 => ?_) (fun E h1 q => q.elim)
      have q85s := q85
      have sp88 := sp0.tr q85s
      refine tw_aload_n 3 dX5_send_60 rfl rfl ?_
      refine tw_aload_n 2 dX5_send_61 rfl rfl ?_
      obtain ⟨e90, f91, n_92, ar_93, p_94, pl_95, go_96, rfl, k97, k98, k99⟩ := sp88.1 r26 3 p27 (by decide)
      refine tw_getN (v := .ref p_94) rfl in_6 1 dX5_send_62 w_639 rfl (by decide) f91 rfl ?_
      refine tw_iconst (v := 1) dX5_send_65 (by decide) ?_
      refine tw_aload 0 dX5_send_66 rfl ?_
      refine tw_aload 1 dX5_send_68 rfl ?_
      obtain ⟨e100, f101, n_102, r_103, c_104, go_105, so_106, v_107, rd_108, rf_109, t_110, rfl, k111, k112, k113, k114, k115, k116, k117, k118⟩ := sp88.1 r30 2 p31 (by decide)
      refine tw_getN (v := .int n_102) rfl in_4 0 dX5_send_70 w_502 rfl (by decide) f101 rfl ?_
      obtain ⟨e119, f120, n_121, r_122, c_123, go_124, so_125, v_126, rd_127, rf_128, t_129, rfl, k130, k131, k132, k133, k134, k135, k136, k137⟩ := sp88.1 q42 2 (k40 _ rfl) (by decide)
      refine tw_bi (tw_callVN (M := mX5_send) (pc := 73) okX0_freightTo dX5_send_73 w_231 rfl f120 [.int n_102] [.int 1, .ref p_94, .ref x] rfl rfl ⟨by decide, by decide⟩ (Nat.le_of_ble_eq_true rfl) (c_X0_freightTo d g τ h86 sp88.1 q42 (k40 _ rfl) n_102) 18 108 (Nat.le_of_ble_eq_true rfl) (Nat.le_of_ble_eq_true rfl)) (fun r140 h139 q138 => ?_) (fun E h1 q => q.elim)
      rw [q138]
      obtain ⟨e141, f142, td_143, ca_144, ha_145, da_146, c1_147, c2_148, c3_149, c4_150, rfl, k151, k152, k153, k154, k155, k156, k157, k158, k159, k160, k161, k162, k163⟩ := sp88.1 x 11 kx (by decide)
      refine tw_bv (tw_callV (M := mX5_send) (pc := 76) okX5_payFreight dX5_send_76 w_679 rfl f142 [.ref p_94, .int 1, .int r140] [] rfl rfl ⟨by decide, by decide⟩ (Nat.le_of_ble_eq_true rfl) (c_X5_payFreight d g τ h86 sp88.1 x kx p_94 k97 1 r140) 18 108 (Nat.le_of_ble_eq_true rfl) (Nat.le_of_ble_eq_true rfl)) (fun h165 q164 => ?_) (fun E h1 q => q.elim)
      have q164s := q164
      have sp167 := sp88.tr q164s
      refine tw_aload_n 2 dX5_send_79 rfl rfl ?_
      refine tw_aload 1 dX5_send_80 rfl ?_
      refine tw_aload_n 3 dX5_send_82 rfl rfl ?_
      obtain ⟨e169, f170, td_171, ca_172, ha_173, da_174, c1_175, c2_176, c3_177, c4_178, rfl, k179, k180, k181, k182, k183, k184, k185, k186, k187, k188, k189, k190, k191⟩ := sp167.1 x 11 kx (by decide)
      refine tw_get (v := .int td_171) rfl in_9 0 dX5_send_83 w_140 rfl (by decide) f170 rfl ?_
      refine tw_aload 0 dX5_send_86 rfl ?_
      refine tw_aload 1 dX5_send_88 rfl ?_
      obtain ⟨e192, f193, n_194, r_195, c_196, go_197, so_198, v_199, rd_200, rf_201, t_202, rfl, k203, k204, k205, k206, k207, k208, k209, k210⟩ := sp167.1 r30 2 p31 (by decide)
      refine tw_getN (v := .int n_194) rfl in_4 0 dX5_send_90 w_502 rfl (by decide) f193 rfl ?_
      obtain ⟨e211, f212, n_213, r_214, c_215, go_216, so_217, v_218, rd_219, rf_220, t_221, rfl, k222, k223, k224, k225, k226, k227, k228, k229⟩ := sp167.1 q42 2 (k40 _ rfl) (by decide)
      refine tw_bi (tw_callVN (M := mX5_send) (pc := 93) okX0_daysTo dX5_send_93 w_226 rfl f212 [.int n_194] [.int td_171, .ref r30, .ref r26] rfl rfl ⟨by decide, by decide⟩ (Nat.le_of_ble_eq_true rfl) (c_X0_daysTo d g τ h165 sp167.1 q42 (k40 _ rfl) n_194) 18 108 (Nat.le_of_ble_eq_true rfl) (Nat.le_of_ble_eq_true rfl)) (fun r232 h231 q230 => ?_) (fun E h1 q => q.elim)
      rw [q230]
      refine tw_iadd dX5_send_96 ?_
      refine tw_nmi (fun v233 ev233 => ?_)
      obtain ⟨e234, f235, n_236, ar_237, p_238, pl_239, go_240, rfl, k241, k242, k243⟩ := sp167.1 r26 3 p27 (by decide)
      refine tw_bv (tw_callVN (M := mX5_send) (pc := 97) okX2_leaveFor dX5_send_97 w_683 rfl f235 [.ref r30, .int v233] [] rfl rfl ⟨by decide, by decide⟩ (Nat.le_of_ble_eq_true rfl) (c_X2_leaveFor d g τ h165 sp167.1 r26 p27 r30 p31 v233) 18 108 (Nat.le_of_ble_eq_true rfl) (Nat.le_of_ble_eq_true rfl)) (fun h245 q244 => ?_) (fun E h1 q => q.elim)
      have q244s := q244
      have sp247 := sp167.tr q244s
      refine tw_aload_n 2 dX5_send_100 rfl rfl ?_
      obtain ⟨e249, f250, n_251, ar_252, p_253, pl_254, go_255, rfl, k256, k257, k258⟩ := sp247.1 r26 3 p27 (by decide)
      refine tw_getN (v := .int ar_252) rfl in_6 4 dX5_send_101 w_645 rfl (by decide) f250 rfl ?_
      exact tw_iret dX5_send_104 rfl (Or.inl ⟨_, rfl, sp247⟩)
    · exact tw_throwS (i := 11) (by decide +kernel) w_471 w_88 rfl at_ISE dX5_send_31 dX5_send_34 dX5_send_35 dX5_send_37 dX5_send_40 ⟨by decide, Nat.le_of_ble_eq_true rfl⟩ (Nat.le_of_ble_eq_true rfl) (Nat.le_of_ble_eq_true rfl) (Or.inr ⟨_, rfl, (Or.inr (rfl)), _, sp0⟩)

set_option maxHeartbeats 4000000 in
set_option maxRecDepth 100000 in
theorem c_X5_wearVaults (d : tw_D) (g : tw_G) (τ : tw_K) (h : tw_H) (hw : tw_wt d g τ h) (x : Nat) (kx : τ x = 11) : tw_Ct d mX5_wearVaults 0 0 [.ref x] h (tw_qv (fun h1 => ∃ τ1, tw_sp d τ h g τ1 h1) tw_nx) := by
  refine tw_of (by decide +kernel) (Nat.le_of_ble_eq_true rfl) ?_
  show tw_W d mX5_wearVaults _ 0 [(0, .ref x)] [] h 0 0
  have sp0 := tw_sp.rf hw
  refine tw_aload_n 0 dX5_wearVaults_0 rfl rfl ?_
  obtain ⟨e1, f2, td_3, ca_4, ha_5, da_6, c1_7, c2_8, c3_9, c4_10, rfl, k11, k12, k13, k14, k15, k16, k17, k18, k19, k20, k21, k22, k23⟩ := sp0.1 x 11 kx (by decide)
  refine tw_get (v := .ref ca_4) rfl in_9 2 dX5_wearVaults_1 w_142 rfl (by decide) f2 rfl ?_
  refine tw_astore_n [(1, .ref ca_4), (0, .ref x)] dX5_wearVaults_4 rfl (by decide) rfl ?_
  refine tw_aload_n 0 dX5_wearVaults_5 rfl rfl ?_
  obtain ⟨e24, f25, F26, rfl, k27, pn28, pb29, px30⟩ := sp0.1 ca_4 8 k11 (by decide)
  refine tw_alen (v := nI 4) 4 rfl dX5_wearVaults_6 f25 rfl ?_
  refine tw_istore_n [(2, .int (nI 4)), (1, .ref ca_4), (0, .ref x)] dX5_wearVaults_7 rfl (by decide) rfl ?_
  refine tw_iconst (v := 0) dX5_wearVaults_8 (by decide) ?_
  refine tw_istore_n [(3, .int 0), (2, .int (nI 4)), (1, .ref ca_4), (0, .ref x)] dX5_wearVaults_9 rfl (by decide) rfl ?_
  have L34 : ∀ (r32 k31 : Nat) (τ35 : tw_K) (h36 : tw_H) (sp37 : tw_sp d τ h g τ35 h36), 4 + 1 ≤ k31 + r32 → k31 ≤ 4 → tw_W d mX5_wearVaults (tw_qv (fun h1 => ∃ τ1, tw_sp d τ h g τ1 h1) tw_nx) 10 [(0, .ref x), (1, .ref ca_4), (2, .int (nI 4)), (3, .int (nI k31))] [] h36 0 0 := by
    intro r32
    induction r32 with
    | zero => intro k31  τ35 h36 sp37 hk38 hk39; exact absurd hk38 (by omega)
    | succ r32 ih33 =>
      intro k31  τ35 h36 sp37 hk38 hk39
      refine tw_iload_n 3 dX5_wearVaults_10 rfl rfl ?_
      refine tw_iload_n 2 dX5_wearVaults_11 rfl rfl ?_
      refine tw_icmp_ge 67 dX5_wearVaults_12 (by decide) (fun c40 => ?_) (fun c40 => ?_)
      · exact tw_vret dX5_wearVaults_67 rfl (Or.inl ⟨rfl, ⟨_, (sp0.tr sp37)⟩⟩)
      · have kl41 := tw_klt (N := 4) c40 hk39 (by decide)
        refine tw_aload_n 1 dX5_wearVaults_15 rfl rfl ?_
        refine tw_iload_n 3 dX5_wearVaults_16 rfl rfl ?_
        obtain ⟨e42, f43, F44, rfl, k45, pn46, pb47, px48⟩ := sp37.1 ca_4 8 (sp37.2.1.k k11 (by decide)) (by decide)
        cases k49 : F44 ((nI k31)).toNatClampNeg with
        | none =>
          refine tw_aald (v := .null) 4 rfl rfl dX5_wearVaults_17 f43 (vp_in_nI (by omega) (by decide)) (by rw [k49]; rfl) ?_
          refine tw_astoreN [(4, .null), (0, .ref x), (1, .ref ca_4), (2, .int (nI 4)), (3, .int (nI k31))] dX5_wearVaults_18 (by decide) rfl ?_
          refine tw_aloadN 0 dX5_wearVaults_20 rfl ?_
          refine tw_ifnullN 61 dX5_wearVaults_22 (by decide) ?_
          obtain ⟨v51, ev51⟩ : ∃ y : Int32, y = (nI k31) + 1 := ⟨_, rfl⟩
          refine tw_iinc [(3, .int v51), (4, .null), (0, .ref x), (1, .ref ca_4), (2, .int (nI 4))] 4 dX5_wearVaults_61 rfl (by rw [ev51]; rfl) (by decide) rfl ?_
          refine tw_goto 10 dX5_wearVaults_64 (by decide) ?_
          have qv51 := tw_nI3 ev51
          rw [qv51]
          refine tw_lv [2, 3, 4, 0] rfl ?_
          exact ih33 (k31 + 1)  _ _ sp37 (by omega) (by omega)
        | some q50 =>
          have k52 := k45 _ _ k49
          refine tw_aald (v := .ref q50) 4 rfl rfl dX5_wearVaults_17 f43 (vp_in_nI (by omega) (by decide)) (by rw [k49]; rfl) ?_
          refine tw_astore [(4, .ref q50), (0, .ref x), (1, .ref ca_4), (2, .int (nI 4)), (3, .int (nI k31))] dX5_wearVaults_18 (by decide) rfl ?_
          refine tw_aload 0 dX5_wearVaults_20 rfl ?_
          refine tw_ifnull dX5_wearVaults_22 ?_
          refine tw_aload 0 dX5_wearVaults_25 rfl ?_
          obtain ⟨e53, f54, n_55, r_56, c_57, go_58, so_59, v_60, rd_61, rf_62, t_63, rfl, k64, k65, k66, k67, k68, k69, k70, k71⟩ := sp37.1 q50 2 k52 (by decide)
          refine tw_getN (v := .ref v_60) rfl in_4 3 dX5_wearVaults_27 w_508 rfl (by decide) f54 rfl ?_
          obtain ⟨e72, f73, a_74, b_75, rfl⟩ := sp37.1 v_60 1 k64 (by decide)
          refine tw_getN (v := .int b_75) rfl in_7 1 dX5_wearVaults_30 w_134 rfl (by decide) f73 rfl ?_
          refine tw_sipush (v := 10000) dX5_wearVaults_33 (by decide) ?_
          refine tw_idiv dX5_wearVaults_36 (by decide) ?_
          refine tw_nmi (fun v76 ev76 => ?_)
          refine tw_istore [(5, .int v76), (4, .ref q50), (0, .ref x), (1, .ref ca_4), (2, .int (nI 4)), (3, .int (nI k31))] dX5_wearVaults_37 (by decide) rfl ?_
          refine tw_aload 1 dX5_wearVaults_39 rfl ?_
          refine tw_getN (v := .ref v_60) rfl in_4 3 dX5_wearVaults_41 w_508 rfl (by decide) f54 rfl ?_
          refine tw_iconst (v := 1) dX5_wearVaults_44 (by decide) ?_
          refine tw_iload 0 dX5_wearVaults_45 rfl ?_
          refine tw_ineg dX5_wearVaults_47 ?_
          refine tw_nmi (fun v77 ev77 => ?_)
          refine tw_bv (tw_callVN (M := mX5_wearVaults) (pc := 48) okX3_add dX5_wearVaults_48 w_534 rfl f73 [.int 1, .int v77] [] rfl rfl ⟨by decide, by decide⟩ (Nat.le_of_ble_eq_true rfl) (c_X3_add d g τ35 h36 sp37.1 v_60 k64 1 v77) 0 0 (Nat.le_of_ble_eq_true rfl) (Nat.le_of_ble_eq_true rfl)) (fun h79 q78 => ?_) (fun E h1 q => q.elim)
          have q78s := q78
          have sp81 := sp37.tr q78s
          refine tw_aload_n 2 dX5_wearVaults_51 rfl rfl ?_
          obtain ⟨e83, f84, td_85, ca_86, ha_87, da_88, c1_89, c2_90, c3_91, c4_92, rfl, k93, k94, k95, k96, k97, k98, k99, k100, k101, k102, k103, k104, k105⟩ := sp81.1 x 11 (sp37.2.1.k kx (by decide)) (by decide)
          refine tw_get (v := .ref c3_91) rfl in_9 10 dX5_wearVaults_52 w_150 rfl (by decide) f84 rfl ?_
          refine tw_iconst (v := 1) dX5_wearVaults_55 (by decide) ?_
          refine tw_iload 0 dX5_wearVaults_56 rfl ?_
          obtain ⟨e106, f107, a_108, b_109, rfl⟩ := sp81.1 c3_91 1 k98 (by decide)
          refine tw_bv (tw_callVN (M := mX5_wearVaults) (pc := 58) okX3_add dX5_wearVaults_58 w_534 rfl f107 [.int 1, .int v76] [] rfl rfl ⟨by decide, by decide⟩ (Nat.le_of_ble_eq_true rfl) (c_X3_add d g τ35 h79 sp81.1 c3_91 k98 1 v76) 0 0 (Nat.le_of_ble_eq_true rfl) (Nat.le_of_ble_eq_true rfl)) (fun h111 q110 => ?_) (fun E h1 q => q.elim)
          have q110s := q110
          have sp113 := sp81.tr q110s
          obtain ⟨v115, ev115⟩ : ∃ y : Int32, y = (nI k31) + 1 := ⟨_, rfl⟩
          refine tw_iinc [(3, .int v115), (5, .int v76), (4, .ref q50), (0, .ref x), (1, .ref ca_4), (2, .int (nI 4))] 5 dX5_wearVaults_61 rfl (by rw [ev115]; rfl) (by decide) rfl ?_
          refine tw_goto 10 dX5_wearVaults_64 (by decide) ?_
          have qv115 := tw_nI3 ev115
          rw [qv115]
          refine tw_lv [3, 4, 5, 0] rfl ?_
          exact ih33 (k31 + 1)  _ _ sp113 (by omega) (by omega)
  refine tw_lv [3, 2, 1, 0] rfl ?_
  exact L34 (4 + 1) 0  _ _ (tw_sp.rf sp0.1) (by omega) (by omega)

set_option maxHeartbeats 4000000 in
set_option maxRecDepth 100000 in
theorem c_X5_settle (d : tw_D) (g : tw_G) (τ : tw_K) (h : tw_H) (hw : tw_wt d g τ h) (x : Nat) (kx : τ x = 11) (a : Int32) (m : Int32) : tw_Ct d mX5_settle 20 120 [.ref x, .int a, .int m] h (tw_qi (fun r h1 => tw_sp d τ h g τ h1) (fun E h1 => (E = tw_IOE ∨ E = tw_IAE ∨ E = tw_ISE) ∧ ∃ τ1, tw_sp d τ h g τ1 h1)) := by
  refine tw_of (by decide +kernel) (Nat.le_of_ble_eq_true rfl) ?_
  show tw_W d mX5_settle _ 0 [(0, .ref x), (1, .int a), (2, .int m)] [] h 20 120
  have sp0 := tw_sp.rf hw
  refine tw_aload_n 0 dX5_settle_0 rfl rfl ?_
  refine tw_iload_n 1 dX5_settle_1 rfl rfl ?_
  obtain ⟨e1, f2, td_3, ca_4, ha_5, da_6, c1_7, c2_8, c3_9, c4_10, rfl, k11, k12, k13, k14, k15, k16, k17, k18, k19, k20, k21, k22, k23⟩ := sp0.1 x 11 kx (by decide)
  refine tw_br (tw_callV (M := mX5_settle) (pc := 2) okX5_debtAt dX5_settle_2 w_747 rfl f2 [.int a] [] rfl rfl ⟨by decide, by decide⟩ (Nat.le_of_ble_eq_true rfl) (c_X5_debtAt d g τ h sp0.1 x kx a) 19 114 (Nat.le_of_ble_eq_true rfl) (Nat.le_of_ble_eq_true rfl)) (fun r26 h25 q24 => ?_) (fun E h1 q => Or.inr ⟨E, rfl, (Or.inl q.1), ⟨τ, by rw [q.2]; exact sp0⟩⟩)
  obtain ⟨q24e, p27⟩ := q24
  rw [q24e]
  refine tw_astore_n [(3, .ref r26), (0, .ref x), (1, .int a), (2, .int m)] dX5_settle_5 rfl (by decide) rfl ?_
  refine tw_iload_n 3 dX5_settle_6 rfl rfl ?_
  refine tw_bv (tw_callS (M := mX5_settle) (pc := 7) okX5_needMetal dX5_settle_7 w_573 [.int m] [] rfl rfl ⟨by decide, by decide⟩ (Nat.le_of_ble_eq_true rfl) (c_X5_needMetal d g τ h sp0.1 m) 18 108 (Nat.le_of_ble_eq_true rfl) (Nat.le_of_ble_eq_true rfl)) (fun h29 q28 => ?_) (fun E h1 q => Or.inr ⟨E, rfl, (Or.inr (Or.inl q.1)), ⟨τ, by rw [q.2]; exact sp0⟩⟩)
  obtain ⟨q28e, p31⟩ := q28
  rw [q28e]
  refine tw_aload_n 0 dX5_settle_10 rfl rfl ?_
  obtain ⟨e32, f33, v_34, dy_35, pd_36, a_37, b_38, rfl, k39, k40, k41⟩ := sp0.1 r26 4 p27 (by decide)
  refine tw_getN (v := .ref a_37) rfl in_5 0 dX5_settle_11 w_720 rfl (by decide) f33 rfl ?_
  obtain ⟨e42, f43, n_44, ar_45, p_46, pl_47, go_48, rfl, k49, k50, k51⟩ := sp0.1 a_37 3 k39 (by decide)
  cases pl_47 with
  | none =>
    refine tw_getN (v := .null) rfl in_6 2 dX5_settle_14 w_641 rfl (by decide) f43 rfl ?_
    refine tw_astoreN [(4, .null), (3, .ref r26), (0, .ref x), (1, .int a), (2, .int m)] dX5_settle_17 (by decide) rfl ?_
    refine tw_aload_n 1 dX5_settle_19 rfl rfl ?_
    refine tw_getN (v := .int pd_36) rfl in_5 4 dX5_settle_20 w_728 rfl (by decide) f33 rfl ?_
    refine tw_if_ne 41 dX5_settle_23 (by decide) (fun c53 => ?_) (fun c53 => ?_)
    · exact tw_throwS (i := 15) (by decide +kernel) w_471 w_88 rfl at_ISE dX5_settle_41 dX5_settle_44 dX5_settle_45 dX5_settle_47 dX5_settle_50 ⟨by decide, Nat.le_of_ble_eq_true rfl⟩ (Nat.le_of_ble_eq_true rfl) (Nat.le_of_ble_eq_true rfl) (Or.inr ⟨_, rfl, (Or.inr (Or.inr (rfl))), _, sp0⟩)
    · refine tw_aloadN 0 dX5_settle_26 rfl ?_
      refine tw_ifnullN 41 dX5_settle_28 (by decide) ?_
      exact tw_throwS (i := 15) (by decide +kernel) w_471 w_88 rfl at_ISE dX5_settle_41 dX5_settle_44 dX5_settle_45 dX5_settle_47 dX5_settle_50 ⟨by decide, Nat.le_of_ble_eq_true rfl⟩ (Nat.le_of_ble_eq_true rfl) (Nat.le_of_ble_eq_true rfl) (Or.inr ⟨_, rfl, (Or.inr (Or.inr (rfl))), _, sp0⟩)
  | some q52 =>
    refine tw_getN (v := .ref q52) rfl in_6 2 dX5_settle_14 w_641 rfl (by decide) f43 rfl ?_
    refine tw_astore [(4, .ref q52), (3, .ref r26), (0, .ref x), (1, .int a), (2, .int m)] dX5_settle_17 (by decide) rfl ?_
    refine tw_aload_n 1 dX5_settle_19 rfl rfl ?_
    refine tw_getN (v := .int pd_36) rfl in_5 4 dX5_settle_20 w_728 rfl (by decide) f33 rfl ?_
    refine tw_if_ne 41 dX5_settle_23 (by decide) (fun c54 => ?_) (fun c54 => ?_)
    · exact tw_throwS (i := 15) (by decide +kernel) w_471 w_88 rfl at_ISE dX5_settle_41 dX5_settle_44 dX5_settle_45 dX5_settle_47 dX5_settle_50 ⟨by decide, Nat.le_of_ble_eq_true rfl⟩ (Nat.le_of_ble_eq_true rfl) (Nat.le_of_ble_eq_true rfl) (Or.inr ⟨_, rfl, (Or.inr (Or.inr (rfl))), _, sp0⟩)
    · refine tw_aload 0 dX5_settle_26 rfl ?_
      refine tw_ifnull dX5_settle_28 ?_
      refine tw_aload_n 1 dX5_settle_31 rfl rfl ?_
      refine tw_getN (v := .ref b_38) rfl in_5 1 dX5_settle_32 w_722 rfl (by decide) f33 rfl ?_
      obtain ⟨e55, f56, n_57, ar_58, p_59, pl_60, go_61, rfl, k62, k63, k64⟩ := sp0.1 b_38 3 k40 (by decide)
      cases pl_60 with
      | none =>
        refine tw_getN (v := .null) rfl in_6 2 dX5_settle_35 w_641 rfl (by decide) f56 rfl ?_
        refine tw_ifnonnullN dX5_settle_38 ?_
        exact tw_throwS (i := 15) (by decide +kernel) w_471 w_88 rfl at_ISE dX5_settle_41 dX5_settle_44 dX5_settle_45 dX5_settle_47 dX5_settle_50 ⟨by decide, Nat.le_of_ble_eq_true rfl⟩ (Nat.le_of_ble_eq_true rfl) (Nat.le_of_ble_eq_true rfl) (Or.inr ⟨_, rfl, (Or.inr (Or.inr (rfl))), _, sp0⟩)
      | some q65 =>
        refine tw_getN (v := .ref q65) rfl in_6 2 dX5_settle_35 w_641 rfl (by decide) f56 rfl ?_
        refine tw_ifnonnull 51 dX5_settle_38 (by decide) ?_
        refine tw_aload_n 1 dX5_settle_51 rfl rfl ?_
        refine tw_aload_n 2 dX5_settle_52 rfl rfl ?_
        refine tw_get (v := .int td_3) rfl in_9 0 dX5_settle_53 w_140 rfl (by decide) f2 rfl ?_
        refine tw_bi (tw_callVN (M := mX5_settle) (pc := 56) okX1_dueOn dX5_settle_56 w_355 rfl f33 [.int td_3] [] rfl rfl ⟨by decide, by decide⟩ (Nat.le_of_ble_eq_true rfl) (c_X1_dueOn d g τ h sp0.1 r26 p27 td_3) 18 108 (Nat.le_of_ble_eq_true rfl) (Nat.le_of_ble_eq_true rfl)) (fun r68 h67 q66 => ?_) (fun E h1 q => q.elim)
        rw [q66]
        refine tw_istore [(5, .int r68), (4, .ref q52), (3, .ref r26), (0, .ref x), (1, .int a), (2, .int m)] dX5_settle_59 (by decide) rfl ?_
        refine tw_iload_n 5 dX5_settle_61 rfl rfl ?_
        refine tw_if_ne 75 dX5_settle_62 (by decide) (fun c69 => ?_) (fun c69 => ?_)
        · refine tw_iload 0 dX5_settle_75 rfl ?_
          refine tw_istore [(6, .int r68), (5, .int r68), (4, .ref q52), (3, .ref r26), (0, .ref x), (1, .int a), (2, .int m)] dX5_settle_77 (by decide) rfl ?_
          refine tw_aload_n 3 dX5_settle_79 rfl rfl ?_
          refine tw_getN (v := .ref a_37) rfl in_5 0 dX5_settle_80 w_720 rfl (by decide) f33 rfl ?_
          refine tw_getN (v := .ref p_46) rfl in_6 1 dX5_settle_83 w_639 rfl (by decide) f43 rfl ?_
          refine tw_iload_n 6 dX5_settle_86 rfl rfl ?_
          obtain ⟨e70, f71, a_72, b_73, rfl⟩ := sp0.1 p_46 1 k49 (by decide)
          refine tw_bi (tw_callVN (M := mX5_settle) (pc := 87) okX3_of dX5_settle_87 w_189 rfl f71 [.int m] [] rfl rfl ⟨by decide, by decide⟩ (Nat.le_of_ble_eq_true rfl) (c_X3_of d g τ h sp0.1 p_46 k49 m) 18 108 (Nat.le_of_ble_eq_true rfl) (Nat.le_of_ble_eq_true rfl)) (fun r76 h75 q74 => ?_) (fun E h1 q => q.elim)
          rw [q74]
          refine tw_iload 0 dX5_settle_90 rfl ?_
          refine tw_icmp_ge 105 dX5_settle_92 (by decide) (fun c77 => ?_) (fun c77 => ?_)
          · refine tw_aload_n 3 dX5_settle_105 rfl rfl ?_
            refine tw_getN (v := .ref a_37) rfl in_5 0 dX5_settle_106 w_720 rfl (by decide) f33 rfl ?_
            refine tw_getN (v := .ref p_46) rfl in_6 1 dX5_settle_109 w_639 rfl (by decide) f43 rfl ?_
            refine tw_iload_n 6 dX5_settle_112 rfl rfl ?_
            refine tw_iload 0 dX5_settle_113 rfl ?_
            refine tw_ineg dX5_settle_115 ?_
            refine tw_nmi (fun v78 ev78 => ?_)
            refine tw_bv (tw_callVN (M := mX5_settle) (pc := 116) okX3_add dX5_settle_116 w_534 rfl f71 [.int m, .int v78] [] rfl rfl ⟨by decide, by decide⟩ (Nat.le_of_ble_eq_true rfl) (c_X3_add d g τ h sp0.1 p_46 k49 m v78) 18 108 (Nat.le_of_ble_eq_true rfl) (Nat.le_of_ble_eq_true rfl)) (fun h80 q79 => ?_) (fun E h1 q => q.elim)
            have q79s := q79
            have sp82 := sp0.tr q79s
            refine tw_aload_n 3 dX5_settle_119 rfl rfl ?_
            obtain ⟨e84, f85, v_86, dy_87, pd_88, a_89, b_90, rfl, k91, k92, k93⟩ := sp82.1 r26 4 p27 (by decide)
            refine tw_getN (v := .ref b_90) rfl in_5 1 dX5_settle_120 w_722 rfl (by decide) f85 rfl ?_
            obtain ⟨e94, f95, n_96, ar_97, p_98, pl_99, go_100, rfl, k101, k102, k103⟩ := sp82.1 b_90 3 k92 (by decide)
            refine tw_getN (v := .ref p_98) rfl in_6 1 dX5_settle_123 w_639 rfl (by decide) f95 rfl ?_
            refine tw_iload_n 6 dX5_settle_126 rfl rfl ?_
            refine tw_iload 0 dX5_settle_127 rfl ?_
            obtain ⟨e104, f105, a_106, b_107, rfl⟩ := sp82.1 p_98 1 k101 (by decide)
            refine tw_bv (tw_callVN (M := mX5_settle) (pc := 129) okX3_add dX5_settle_129 w_534 rfl f105 [.int m, .int r68] [] rfl rfl ⟨by decide, by decide⟩ (Nat.le_of_ble_eq_true rfl) (c_X3_add d g τ h80 sp82.1 p_98 k101 m r68) 18 108 (Nat.le_of_ble_eq_true rfl) (Nat.le_of_ble_eq_true rfl)) (fun h109 q108 => ?_) (fun E h1 q => q.elim)
            have q108s := q108
            have sp111 := sp82.tr q108s
            refine tw_aload_n 3 dX5_settle_132 rfl rfl ?_
            refine tw_iconst (v := 1) dX5_settle_133 (by decide) ?_
            obtain ⟨e113, f114, v_115, dy_116, pd_117, a_118, b_119, rfl, k120, k121, k122⟩ := sp111.1 r26 4 p27 (by decide)
            refine tw_putN rfl in_5 tyX1 tyX1_ok nmX1 4 dX5_settle_134 w_728 rfl (by decide) f114 rfl rfl rfl rfl (Nat.le_of_ble_eq_true rfl) [.ref a_118, .ref b_119, .int v_115, .int dy_116, .int 1] rfl ?_
            obtain ⟨h123, eh123⟩ : ∃ z : tw_H, z = tw_up h109 r26 (.inr (5, [.ref a_118, .ref b_119, .int v_115, .int dy_116, .int 1])) := ⟨_, rfl⟩
            rw [← eh123]
            have sp124 : tw_sp d τ h g τ h123 := by rw [eh123]; exact sp111.set p27 (by decide) ⟨v_115, dy_116, 1, a_118, b_119, rfl, k120, k121, (by unfold tw_01; decide)⟩
            have f125 : h123 r26 = some (.inr (5, [.ref a_118, .ref b_119, .int v_115, .int dy_116, .int 1])) := by rw [eh123]; exact tw_up_s
            refine tw_iload 0 dX5_settle_137 rfl ?_
            exact tw_iret dX5_settle_139 rfl (Or.inl ⟨_, rfl, sp124⟩)
          · exact tw_throwS (i := 16) (by decide +kernel) w_471 w_88 rfl at_ISE dX5_settle_95 dX5_settle_98 dX5_settle_99 dX5_settle_101 dX5_settle_104 ⟨by decide, Nat.le_of_ble_eq_true rfl⟩ (Nat.le_of_ble_eq_true rfl) (Nat.le_of_ble_eq_true rfl) (Or.inr ⟨_, rfl, (Or.inr (Or.inr (rfl))), _, sp0⟩)
        · refine tw_aload 1 dX5_settle_65 rfl ?_
          refine tw_iload 0 dX5_settle_67 rfl ?_
          obtain ⟨e126, f127, n_128, r_129, c_130, go_131, so_132, v_133, rd_134, rf_135, t_136, rfl, k137, k138, k139, k140, k141, k142, k143, k144⟩ := sp0.1 q52 2 (k50 _ rfl) (by decide)
          refine tw_bi (tw_callVN (M := mX5_settle) (pc := 69) okX0_goldFor dX5_settle_69 w_364 rfl f127 [.int r68] [] rfl rfl ⟨by decide, by decide⟩ (Nat.le_of_ble_eq_true rfl) (c_X0_goldFor d g τ h sp0.1 q52 (k50 _ rfl) r68) 18 108 (Nat.le_of_ble_eq_true rfl) (Nat.le_of_ble_eq_true rfl)) (fun r147 h146 q145 => ?_) (fun E h1 q => q.elim)
          rw [q145]
          refine tw_goto 77 dX5_settle_72 (by decide) ?_
          refine tw_istore [(6, .int r147), (5, .int r68), (4, .ref q52), (3, .ref r26), (0, .ref x), (1, .int a), (2, .int m)] dX5_settle_77 (by decide) rfl ?_
          refine tw_aload_n 3 dX5_settle_79 rfl rfl ?_
          refine tw_getN (v := .ref a_37) rfl in_5 0 dX5_settle_80 w_720 rfl (by decide) f33 rfl ?_
          refine tw_getN (v := .ref p_46) rfl in_6 1 dX5_settle_83 w_639 rfl (by decide) f43 rfl ?_
          refine tw_iload_n 6 dX5_settle_86 rfl rfl ?_
          obtain ⟨e148, f149, a_150, b_151, rfl⟩ := sp0.1 p_46 1 k49 (by decide)
          refine tw_bi (tw_callVN (M := mX5_settle) (pc := 87) okX3_of dX5_settle_87 w_189 rfl f149 [.int m] [] rfl rfl ⟨by decide, by decide⟩ (Nat.le_of_ble_eq_true rfl) (c_X3_of d g τ h sp0.1 p_46 k49 m) 18 108 (Nat.le_of_ble_eq_true rfl) (Nat.le_of_ble_eq_true rfl)) (fun r154 h153 q152 => ?_) (fun E h1 q => q.elim)
          rw [q152]
          refine tw_iload 0 dX5_settle_90 rfl ?_
          refine tw_icmp_ge 105 dX5_settle_92 (by decide) (fun c155 => ?_) (fun c155 => ?_)
          · refine tw_aload_n 3 dX5_settle_105 rfl rfl ?_
            refine tw_getN (v := .ref a_37) rfl in_5 0 dX5_settle_106 w_720 rfl (by decide) f33 rfl ?_
            refine tw_getN (v := .ref p_46) rfl in_6 1 dX5_settle_109 w_639 rfl (by decide) f43 rfl ?_
            refine tw_iload_n 6 dX5_settle_112 rfl rfl ?_
            refine tw_iload 0 dX5_settle_113 rfl ?_
            refine tw_ineg dX5_settle_115 ?_
            refine tw_nmi (fun v156 ev156 => ?_)
            refine tw_bv (tw_callVN (M := mX5_settle) (pc := 116) okX3_add dX5_settle_116 w_534 rfl f149 [.int m, .int v156] [] rfl rfl ⟨by decide, by decide⟩ (Nat.le_of_ble_eq_true rfl) (c_X3_add d g τ h sp0.1 p_46 k49 m v156) 18 108 (Nat.le_of_ble_eq_true rfl) (Nat.le_of_ble_eq_true rfl)) (fun h158 q157 => ?_) (fun E h1 q => q.elim)
            have q157s := q157
            have sp160 := sp0.tr q157s
            refine tw_aload_n 3 dX5_settle_119 rfl rfl ?_
            obtain ⟨e162, f163, v_164, dy_165, pd_166, a_167, b_168, rfl, k169, k170, k171⟩ := sp160.1 r26 4 p27 (by decide)
            refine tw_getN (v := .ref b_168) rfl in_5 1 dX5_settle_120 w_722 rfl (by decide) f163 rfl ?_
            obtain ⟨e172, f173, n_174, ar_175, p_176, pl_177, go_178, rfl, k179, k180, k181⟩ := sp160.1 b_168 3 k170 (by decide)
            refine tw_getN (v := .ref p_176) rfl in_6 1 dX5_settle_123 w_639 rfl (by decide) f173 rfl ?_
            refine tw_iload_n 6 dX5_settle_126 rfl rfl ?_
            refine tw_iload 0 dX5_settle_127 rfl ?_
            obtain ⟨e182, f183, a_184, b_185, rfl⟩ := sp160.1 p_176 1 k179 (by decide)
            refine tw_bv (tw_callVN (M := mX5_settle) (pc := 129) okX3_add dX5_settle_129 w_534 rfl f183 [.int m, .int r147] [] rfl rfl ⟨by decide, by decide⟩ (Nat.le_of_ble_eq_true rfl) (c_X3_add d g τ h158 sp160.1 p_176 k179 m r147) 18 108 (Nat.le_of_ble_eq_true rfl) (Nat.le_of_ble_eq_true rfl)) (fun h187 q186 => ?_) (fun E h1 q => q.elim)
            have q186s := q186
            have sp189 := sp160.tr q186s
            refine tw_aload_n 3 dX5_settle_132 rfl rfl ?_
            refine tw_iconst (v := 1) dX5_settle_133 (by decide) ?_
            obtain ⟨e191, f192, v_193, dy_194, pd_195, a_196, b_197, rfl, k198, k199, k200⟩ := sp189.1 r26 4 p27 (by decide)
            refine tw_putN rfl in_5 tyX1 tyX1_ok nmX1 4 dX5_settle_134 w_728 rfl (by decide) f192 rfl rfl rfl rfl (Nat.le_of_ble_eq_true rfl) [.ref a_196, .ref b_197, .int v_193, .int dy_194, .int 1] rfl ?_
            obtain ⟨h201, eh201⟩ : ∃ z : tw_H, z = tw_up h187 r26 (.inr (5, [.ref a_196, .ref b_197, .int v_193, .int dy_194, .int 1])) := ⟨_, rfl⟩
            rw [← eh201]
            have sp202 : tw_sp d τ h g τ h201 := by rw [eh201]; exact sp189.set p27 (by decide) ⟨v_193, dy_194, 1, a_196, b_197, rfl, k198, k199, (by unfold tw_01; decide)⟩
            have f203 : h201 r26 = some (.inr (5, [.ref a_196, .ref b_197, .int v_193, .int dy_194, .int 1])) := by rw [eh201]; exact tw_up_s
            refine tw_iload 0 dX5_settle_137 rfl ?_
            exact tw_iret dX5_settle_139 rfl (Or.inl ⟨_, rfl, sp202⟩)
          · exact tw_throwS (i := 16) (by decide +kernel) w_471 w_88 rfl at_ISE dX5_settle_95 dX5_settle_98 dX5_settle_99 dX5_settle_101 dX5_settle_104 ⟨by decide, Nat.le_of_ble_eq_true rfl⟩ (Nat.le_of_ble_eq_true rfl) (Nat.le_of_ble_eq_true rfl) (Or.inr ⟨_, rfl, (Or.inr (Or.inr (rfl))), _, sp0⟩)

set_option maxHeartbeats 4000000 in
set_option maxRecDepth 100000 in
theorem c_X0_init (d : tw_D) (g : tw_G) (τ : tw_K) (h : tw_H) (hw : tw_wt d g τ h) (x : Nat) (hz : τ x = 0) (hx : h x = some (.inr (4, [.int 0, .int 0, .int 0, .null, .int 0, .int 0, .null, .null, .null]))) (n : Int32) (r : Int32) (ct : Int32) (v : Nat) (kv : τ v = 1) (rlaw : 100 ≤ r ∧ r ≤ 200) : tw_Ct d mX0_init 6 30 [.ref x, .int n, .int r, .int ct, .ref v] h (tw_qv (fun h1 => ∃ τ1, tw_ini d g τ h x 2 τ1 h1) tw_nx) := by
  refine tw_of (by decide +kernel) (Nat.le_of_ble_eq_true rfl) ?_
  show tw_W d mX0_init _ 0 [(0, .ref x), (1, .int n), (2, .int r), (3, .int ct), (4, .ref v)] [] h 6 30
  have sp0 := tw_sp.rm hw x
  refine tw_aload_n 0 dX0_init_0 rfl rfl ?_
  refine tw_objInit dX0_init_1 w_490 w_117 w_118 ⟨by decide, Nat.le_of_ble_eq_true rfl⟩ ?_
  refine tw_aload_n 0 dX0_init_4 rfl rfl ?_
  refine tw_iload_n 1 dX0_init_5 rfl rfl ?_
  refine tw_putF rfl in_4 tyX0 tyX0_ok nmX0 0 dX0_init_6 w_501 rfl (by decide) hx rfl rfl rfl rfl rfl rfl (Nat.le_of_ble_eq_true rfl) [.int n, .int 0, .int 0, .null, .int 0, .int 0, .null, .null, .null] rfl ?_
  obtain ⟨h1, eh1⟩ : ∃ z : tw_H, z = tw_up h x (.inr (4, [.int n, .int 0, .int 0, .null, .int 0, .int 0, .null, .null, .null])) := ⟨_, rfl⟩
  rw [← eh1]
  have sp2 : tw_sp d τ (tw_rm h x) g τ h1 := by rw [eh1]; exact sp0.wl tw_rm_s hz
  have f3 : h1 x = some (.inr (4, [.int n, .int 0, .int 0, .null, .int 0, .int 0, .null, .null, .null])) := by rw [eh1]; exact tw_up_s
  refine tw_aload_n 0 dX0_init_9 rfl rfl ?_
  refine tw_iload_n 2 dX0_init_10 rfl rfl ?_
  refine tw_put rfl in_4 tyX0 tyX0_ok nmX0 1 dX0_init_11 w_503 rfl (by decide) f3 rfl rfl rfl rfl (Nat.le_of_ble_eq_true rfl) [.int n, .int r, .int 0, .null, .int 0, .int 0, .null, .null, .null] rfl ?_
  obtain ⟨h4, eh4⟩ : ∃ z : tw_H, z = tw_up h1 x (.inr (4, [.int n, .int r, .int 0, .null, .int 0, .int 0, .null, .null, .null])) := ⟨_, rfl⟩
  rw [← eh4]
  have sp5 : tw_sp d τ (tw_rm h x) g τ h4 := by rw [eh4]; exact sp2.wl tw_rm_s hz
  have f6 : h4 x = some (.inr (4, [.int n, .int r, .int 0, .null, .int 0, .int 0, .null, .null, .null])) := by rw [eh4]; exact tw_up_s
  refine tw_aload_n 0 dX0_init_14 rfl rfl ?_
  refine tw_iload_n 3 dX0_init_15 rfl rfl ?_
  refine tw_put rfl in_4 tyX0 tyX0_ok nmX0 2 dX0_init_16 w_505 rfl (by decide) f6 rfl rfl rfl rfl (Nat.le_of_ble_eq_true rfl) [.int n, .int r, .int ct, .null, .int 0, .int 0, .null, .null, .null] rfl ?_
  obtain ⟨h7, eh7⟩ : ∃ z : tw_H, z = tw_up h4 x (.inr (4, [.int n, .int r, .int ct, .null, .int 0, .int 0, .null, .null, .null])) := ⟨_, rfl⟩
  rw [← eh7]
  have sp8 : tw_sp d τ (tw_rm h x) g τ h7 := by rw [eh7]; exact sp5.wl tw_rm_s hz
  have f9 : h7 x = some (.inr (4, [.int n, .int r, .int ct, .null, .int 0, .int 0, .null, .null, .null])) := by rw [eh7]; exact tw_up_s
  refine tw_aload_n 0 dX0_init_19 rfl rfl ?_
  refine tw_aload 4 dX0_init_20 rfl ?_
  refine tw_putF rfl in_4 tyX0 tyX0_ok nmX0 3 dX0_init_22 w_507 rfl (by decide) f9 rfl rfl rfl rfl rfl rfl (Nat.le_of_ble_eq_true rfl) [.int n, .int r, .int ct, .ref v, .int 0, .int 0, .null, .null, .null] rfl ?_
  obtain ⟨h10, eh10⟩ : ∃ z : tw_H, z = tw_up h7 x (.inr (4, [.int n, .int r, .int ct, .ref v, .int 0, .int 0, .null, .null, .null])) := ⟨_, rfl⟩
  rw [← eh10]
  have sp11 : tw_sp d τ (tw_rm h x) g τ h10 := by rw [eh10]; exact sp8.wl tw_rm_s hz
  have f12 : h10 x = some (.inr (4, [.int n, .int r, .int ct, .ref v, .int 0, .int 0, .null, .null, .null])) := by rw [eh10]; exact tw_up_s
  refine tw_aload_n 0 dX0_init_25 rfl rfl ?_
  refine tw_iconst (v := 1) dX0_init_26 (by decide) ?_
  refine tw_put rfl in_4 tyX0 tyX0_ok nmX0 4 dX0_init_27 w_509 rfl (by decide) f12 rfl rfl rfl rfl (Nat.le_of_ble_eq_true rfl) [.int n, .int r, .int ct, .ref v, .int 1, .int 0, .null, .null, .null] rfl ?_
  obtain ⟨h13, eh13⟩ : ∃ z : tw_H, z = tw_up h10 x (.inr (4, [.int n, .int r, .int ct, .ref v, .int 1, .int 0, .null, .null, .null])) := ⟨_, rfl⟩
  rw [← eh13]
  have sp14 : tw_sp d τ (tw_rm h x) g τ h13 := by rw [eh13]; exact sp11.wl tw_rm_s hz
  have f15 : h13 x = some (.inr (4, [.int n, .int r, .int ct, .ref v, .int 1, .int 0, .null, .null, .null])) := by rw [eh13]; exact tw_up_s
  refine tw_aload_n 0 dX0_init_30 rfl rfl ?_
  refine tw_iconst (v := 1) dX0_init_31 (by decide) ?_
  refine tw_put rfl in_4 tyX0 tyX0_ok nmX0 5 dX0_init_32 w_510 rfl (by decide) f15 rfl rfl rfl rfl (Nat.le_of_ble_eq_true rfl) [.int n, .int r, .int ct, .ref v, .int 1, .int 1, .null, .null, .null] rfl ?_
  obtain ⟨h16, eh16⟩ : ∃ z : tw_H, z = tw_up h13 x (.inr (4, [.int n, .int r, .int ct, .ref v, .int 1, .int 1, .null, .null, .null])) := ⟨_, rfl⟩
  rw [← eh16]
  have sp17 : tw_sp d τ (tw_rm h x) g τ h16 := by rw [eh16]; exact sp14.wl tw_rm_s hz
  have f18 : h16 x = some (.inr (4, [.int n, .int r, .int ct, .ref v, .int 1, .int 1, .null, .null, .null])) := by rw [eh16]; exact tw_up_s
  refine tw_aload_n 0 dX0_init_35 rfl rfl ?_
  refine tw_iconst (v := 4) dX0_init_36 (by decide) ?_
  refine tw_newa (a0 := (4, .inl (fun _ => 0))) 0 rfl dX0_init_37 rfl w_500 (fun _ => rfl) (by decide) (by decide) (by decide) 5 26 (Nat.le_of_ble_eq_true rfl) (Nat.le_of_ble_eq_true rfl) (fun q19 hq20 hA21 => ?_)
  have n22 := sp17.nn hq20
  have z23 := sp17.1.none hq20
  have ne24 := tw_neF f18 hq20
  obtain ⟨h25, eh25⟩ : ∃ z : tw_H, z = tw_up h16 q19 (.inl (d.2 0, 4, .inl (fun _ => 0))) := ⟨_, rfl⟩
  rw [← eh25]
  have sp26 : tw_sp d τ (tw_rm h x) g τ h25 := by rw [eh25]; exact sp17.mk hq20
  have f27 : h25 x = some (.inr (4, [.int n, .int r, .int ct, .ref v, .int 1, .int 1, .null, .null, .null])) := by rw [eh25, tw_up_n ne24]; exact f18
  have f28 : h25 q19 = some (.inl (d.2 0, 4, .inl (fun _ => 0))) := by rw [eh25]; exact tw_up_s
  obtain ⟨τ29, eτ29⟩ : ∃ z : tw_K, z = tw_ku τ q19 6 := ⟨_, rfl⟩
  have le30 : tw_le τ τ29 := by rw [eτ29]; exact tw_ku_le z23
  have k31 : τ29 v = 1 := le30.k kv (by decide)
  have sp32 : tw_sp d τ (tw_rm h x) g τ29 h25 := by rw [eτ29]; exact sp26.ty n22 z23 f28 (by rw [← eτ29]; exact ⟨_, rfl⟩)
  have k33 : τ29 q19 = 6 := by rw [eτ29]; exact tw_ku_s
  have z34 : τ29 x = 0 := by rw [eτ29, tw_ku_n ne24]; exact hz
  refine tw_putF rfl in_4 tyX0 tyX0_ok nmX0 6 dX0_init_39 w_511 rfl (by decide) f27 rfl rfl rfl rfl rfl rfl (Nat.le_of_ble_eq_true rfl) [.int n, .int r, .int ct, .ref v, .int 1, .int 1, .ref q19, .null, .null] rfl ?_
  obtain ⟨h35, eh35⟩ : ∃ z : tw_H, z = tw_up h25 x (.inr (4, [.int n, .int r, .int ct, .ref v, .int 1, .int 1, .ref q19, .null, .null])) := ⟨_, rfl⟩
  rw [← eh35]
  have sp36 : tw_sp d τ (tw_rm h x) g τ29 h35 := by rw [eh35]; exact sp32.wl tw_rm_s z34
  have f37 : h35 x = some (.inr (4, [.int n, .int r, .int ct, .ref v, .int 1, .int 1, .ref q19, .null, .null])) := by rw [eh35]; exact tw_up_s
  refine tw_aload_n 0 dX0_init_42 rfl rfl ?_
  refine tw_iconst (v := 4) dX0_init_43 (by decide) ?_
  refine tw_newa (a0 := (4, .inl (fun _ => 0))) 0 rfl dX0_init_44 rfl w_500 (fun _ => rfl) (by decide) (by decide) (by decide) 4 22 (Nat.le_of_ble_eq_true rfl) (Nat.le_of_ble_eq_true rfl) (fun q38 hq39 hA40 => ?_)
  have n41 := sp36.nn hq39
  have z42 := sp36.1.none hq39
  have ne43 := tw_neF f37 hq39
  obtain ⟨h44, eh44⟩ : ∃ z : tw_H, z = tw_up h35 q38 (.inl (d.2 0, 4, .inl (fun _ => 0))) := ⟨_, rfl⟩
  rw [← eh44]
  have sp45 : tw_sp d τ (tw_rm h x) g τ29 h44 := by rw [eh44]; exact sp36.mk hq39
  have f46 : h44 x = some (.inr (4, [.int n, .int r, .int ct, .ref v, .int 1, .int 1, .ref q19, .null, .null])) := by rw [eh44, tw_up_n ne43]; exact f37
  have f47 : h44 q38 = some (.inl (d.2 0, 4, .inl (fun _ => 0))) := by rw [eh44]; exact tw_up_s
  obtain ⟨τ48, eτ48⟩ : ∃ z : tw_K, z = tw_ku τ29 q38 6 := ⟨_, rfl⟩
  have le49 : tw_le τ29 τ48 := by rw [eτ48]; exact tw_ku_le z42
  have k50 : τ48 v = 1 := le49.k k31 (by decide)
  have k51 : τ48 q19 = 6 := le49.k k33 (by decide)
  have sp52 : tw_sp d τ (tw_rm h x) g τ48 h44 := by rw [eτ48]; exact sp45.ty n41 z42 f47 (by rw [← eτ48]; exact ⟨_, rfl⟩)
  have k53 : τ48 q38 = 6 := by rw [eτ48]; exact tw_ku_s
  have z54 : τ48 x = 0 := by rw [eτ48, tw_ku_n ne43]; exact z34
  refine tw_putF rfl in_4 tyX0 tyX0_ok nmX0 7 dX0_init_46 w_512 rfl (by decide) f46 rfl rfl rfl rfl rfl rfl (Nat.le_of_ble_eq_true rfl) [.int n, .int r, .int ct, .ref v, .int 1, .int 1, .ref q19, .ref q38, .null] rfl ?_
  obtain ⟨h55, eh55⟩ : ∃ z : tw_H, z = tw_up h44 x (.inr (4, [.int n, .int r, .int ct, .ref v, .int 1, .int 1, .ref q19, .ref q38, .null])) := ⟨_, rfl⟩
  rw [← eh55]
  have sp56 : tw_sp d τ (tw_rm h x) g τ48 h55 := by rw [eh55]; exact sp52.wl tw_rm_s z54
  have f57 : h55 x = some (.inr (4, [.int n, .int r, .int ct, .ref v, .int 1, .int 1, .ref q19, .ref q38, .null])) := by rw [eh55]; exact tw_up_s
  refine tw_iconst (v := 0) dX0_init_49 (by decide) ?_
  refine tw_istore [(5, .int 0), (0, .ref x), (1, .int n), (2, .int r), (3, .int ct), (4, .ref v)] dX0_init_50 (by decide) rfl ?_
  refine tw_iload 0 dX0_init_52 rfl ?_
  refine tw_iconst (v := 4) dX0_init_54 (by decide) ?_
  refine tw_icmp_ge 81 dX0_init_55 (by decide) (fun c58 => absurd c58 (by decide)) (fun _ => ?_)
  refine tw_aload_n 1 dX0_init_58 rfl rfl ?_
  refine tw_get (v := .ref q19) rfl in_4 6 dX0_init_59 w_511 rfl (by decide) f57 rfl ?_
  refine tw_iload 0 dX0_init_62 rfl ?_
  refine tw_iconst (v := 3) dX0_init_64 (by decide) ?_
  obtain ⟨e59, f60, F61, rfl⟩ := sp56.1 q19 6 k51 (by decide)
  refine tw_iast dX0_init_65 f60 (vp_in_nI (n := 0) (by decide) (by decide)) ?_
  obtain ⟨h62, eh62⟩ : ∃ z : tw_H, z = tw_up h55 q19 (.inl (d.2 0, 4, .inl (upd F61 (0 : Int32).toNatClampNeg 3))) := ⟨_, rfl⟩
  rw [← eh62]
  have sp63 : tw_sp d τ (tw_rm h x) g τ48 h62 := by rw [eh62]; exact sp56.set k51 (by decide) ⟨_, rfl⟩
  have f64 : h62 x = some (.inr (4, [.int n, .int r, .int ct, .ref v, .int 1, .int 1, .ref q19, .ref q38, .null])) := by rw [eh62, tw_up_n ne24]; exact f57
  refine tw_aload_n 1 dX0_init_66 rfl rfl ?_
  refine tw_get (v := .ref q38) rfl in_4 7 dX0_init_67 w_512 rfl (by decide) f64 rfl ?_
  refine tw_iload 0 dX0_init_70 rfl ?_
  refine tw_bipush (v := 10) dX0_init_72 (by decide) ?_
  obtain ⟨e65, f66, F67, rfl⟩ := sp63.1 q38 6 k53 (by decide)
  refine tw_iast dX0_init_74 f66 (vp_in_nI (n := 0) (by decide) (by decide)) ?_
  obtain ⟨h68, eh68⟩ : ∃ z : tw_H, z = tw_up h62 q38 (.inl (d.2 0, 4, .inl (upd F67 (0 : Int32).toNatClampNeg 10))) := ⟨_, rfl⟩
  rw [← eh68]
  have sp69 : tw_sp d τ (tw_rm h x) g τ48 h68 := by rw [eh68]; exact sp63.set k53 (by decide) ⟨_, rfl⟩
  have f70 : h68 x = some (.inr (4, [.int n, .int r, .int ct, .ref v, .int 1, .int 1, .ref q19, .ref q38, .null])) := by rw [eh68, tw_up_n ne43]; exact f64
  refine tw_iinc [(5, .int 1), (0, .ref x), (1, .int n), (2, .int r), (3, .int ct), (4, .ref v)] 0 dX0_init_75 rfl (by decide) (by decide) rfl ?_
  refine tw_goto 52 dX0_init_78 (by decide) ?_
  refine tw_iload 0 dX0_init_52 rfl ?_
  refine tw_iconst (v := 4) dX0_init_54 (by decide) ?_
  refine tw_icmp_ge 81 dX0_init_55 (by decide) (fun c71 => absurd c71 (by decide)) (fun _ => ?_)
  refine tw_aload_n 1 dX0_init_58 rfl rfl ?_
  refine tw_get (v := .ref q19) rfl in_4 6 dX0_init_59 w_511 rfl (by decide) f70 rfl ?_
  refine tw_iload 0 dX0_init_62 rfl ?_
  refine tw_iconst (v := 3) dX0_init_64 (by decide) ?_
  obtain ⟨e72, f73, F74, rfl⟩ := sp69.1 q19 6 k51 (by decide)
  refine tw_iast dX0_init_65 f73 (vp_in_nI (n := 1) (by decide) (by decide)) ?_
  obtain ⟨h75, eh75⟩ : ∃ z : tw_H, z = tw_up h68 q19 (.inl (d.2 0, 4, .inl (upd F74 (1 : Int32).toNatClampNeg 3))) := ⟨_, rfl⟩
  rw [← eh75]
  have sp76 : tw_sp d τ (tw_rm h x) g τ48 h75 := by rw [eh75]; exact sp69.set k51 (by decide) ⟨_, rfl⟩
  have f77 : h75 x = some (.inr (4, [.int n, .int r, .int ct, .ref v, .int 1, .int 1, .ref q19, .ref q38, .null])) := by rw [eh75, tw_up_n ne24]; exact f70
  refine tw_aload_n 1 dX0_init_66 rfl rfl ?_
  refine tw_get (v := .ref q38) rfl in_4 7 dX0_init_67 w_512 rfl (by decide) f77 rfl ?_
  refine tw_iload 0 dX0_init_70 rfl ?_
  refine tw_bipush (v := 10) dX0_init_72 (by decide) ?_
  obtain ⟨e78, f79, F80, rfl⟩ := sp76.1 q38 6 k53 (by decide)
  refine tw_iast dX0_init_74 f79 (vp_in_nI (n := 1) (by decide) (by decide)) ?_
  obtain ⟨h81, eh81⟩ : ∃ z : tw_H, z = tw_up h75 q38 (.inl (d.2 0, 4, .inl (upd F80 (1 : Int32).toNatClampNeg 10))) := ⟨_, rfl⟩
  rw [← eh81]
  have sp82 : tw_sp d τ (tw_rm h x) g τ48 h81 := by rw [eh81]; exact sp76.set k53 (by decide) ⟨_, rfl⟩
  have f83 : h81 x = some (.inr (4, [.int n, .int r, .int ct, .ref v, .int 1, .int 1, .ref q19, .ref q38, .null])) := by rw [eh81, tw_up_n ne43]; exact f77
  refine tw_iinc [(5, .int 2), (0, .ref x), (1, .int n), (2, .int r), (3, .int ct), (4, .ref v)] 0 dX0_init_75 rfl (by decide) (by decide) rfl ?_
  refine tw_goto 52 dX0_init_78 (by decide) ?_
  refine tw_iload 0 dX0_init_52 rfl ?_
  refine tw_iconst (v := 4) dX0_init_54 (by decide) ?_
  refine tw_icmp_ge 81 dX0_init_55 (by decide) (fun c84 => absurd c84 (by decide)) (fun _ => ?_)
  refine tw_aload_n 1 dX0_init_58 rfl rfl ?_
  refine tw_get (v := .ref q19) rfl in_4 6 dX0_init_59 w_511 rfl (by decide) f83 rfl ?_
  refine tw_iload 0 dX0_init_62 rfl ?_
  refine tw_iconst (v := 3) dX0_init_64 (by decide) ?_
  obtain ⟨e85, f86, F87, rfl⟩ := sp82.1 q19 6 k51 (by decide)
  refine tw_iast dX0_init_65 f86 (vp_in_nI (n := 2) (by decide) (by decide)) ?_
  obtain ⟨h88, eh88⟩ : ∃ z : tw_H, z = tw_up h81 q19 (.inl (d.2 0, 4, .inl (upd F87 (2 : Int32).toNatClampNeg 3))) := ⟨_, rfl⟩
  rw [← eh88]
  have sp89 : tw_sp d τ (tw_rm h x) g τ48 h88 := by rw [eh88]; exact sp82.set k51 (by decide) ⟨_, rfl⟩
  have f90 : h88 x = some (.inr (4, [.int n, .int r, .int ct, .ref v, .int 1, .int 1, .ref q19, .ref q38, .null])) := by rw [eh88, tw_up_n ne24]; exact f83
  refine tw_aload_n 1 dX0_init_66 rfl rfl ?_
  refine tw_get (v := .ref q38) rfl in_4 7 dX0_init_67 w_512 rfl (by decide) f90 rfl ?_
  refine tw_iload 0 dX0_init_70 rfl ?_
  refine tw_bipush (v := 10) dX0_init_72 (by decide) ?_
  obtain ⟨e91, f92, F93, rfl⟩ := sp89.1 q38 6 k53 (by decide)
  refine tw_iast dX0_init_74 f92 (vp_in_nI (n := 2) (by decide) (by decide)) ?_
  obtain ⟨h94, eh94⟩ : ∃ z : tw_H, z = tw_up h88 q38 (.inl (d.2 0, 4, .inl (upd F93 (2 : Int32).toNatClampNeg 10))) := ⟨_, rfl⟩
  rw [← eh94]
  have sp95 : tw_sp d τ (tw_rm h x) g τ48 h94 := by rw [eh94]; exact sp89.set k53 (by decide) ⟨_, rfl⟩
  have f96 : h94 x = some (.inr (4, [.int n, .int r, .int ct, .ref v, .int 1, .int 1, .ref q19, .ref q38, .null])) := by rw [eh94, tw_up_n ne43]; exact f90
  refine tw_iinc [(5, .int 3), (0, .ref x), (1, .int n), (2, .int r), (3, .int ct), (4, .ref v)] 0 dX0_init_75 rfl (by decide) (by decide) rfl ?_
  refine tw_goto 52 dX0_init_78 (by decide) ?_
  refine tw_iload 0 dX0_init_52 rfl ?_
  refine tw_iconst (v := 4) dX0_init_54 (by decide) ?_
  refine tw_icmp_ge 81 dX0_init_55 (by decide) (fun c97 => absurd c97 (by decide)) (fun _ => ?_)
  refine tw_aload_n 1 dX0_init_58 rfl rfl ?_
  refine tw_get (v := .ref q19) rfl in_4 6 dX0_init_59 w_511 rfl (by decide) f96 rfl ?_
  refine tw_iload 0 dX0_init_62 rfl ?_
  refine tw_iconst (v := 3) dX0_init_64 (by decide) ?_
  obtain ⟨e98, f99, F100, rfl⟩ := sp95.1 q19 6 k51 (by decide)
  refine tw_iast dX0_init_65 f99 (vp_in_nI (n := 3) (by decide) (by decide)) ?_
  obtain ⟨h101, eh101⟩ : ∃ z : tw_H, z = tw_up h94 q19 (.inl (d.2 0, 4, .inl (upd F100 (3 : Int32).toNatClampNeg 3))) := ⟨_, rfl⟩
  rw [← eh101]
  have sp102 : tw_sp d τ (tw_rm h x) g τ48 h101 := by rw [eh101]; exact sp95.set k51 (by decide) ⟨_, rfl⟩
  have f103 : h101 x = some (.inr (4, [.int n, .int r, .int ct, .ref v, .int 1, .int 1, .ref q19, .ref q38, .null])) := by rw [eh101, tw_up_n ne24]; exact f96
  refine tw_aload_n 1 dX0_init_66 rfl rfl ?_
  refine tw_get (v := .ref q38) rfl in_4 7 dX0_init_67 w_512 rfl (by decide) f103 rfl ?_
  refine tw_iload 0 dX0_init_70 rfl ?_
  refine tw_bipush (v := 10) dX0_init_72 (by decide) ?_
  obtain ⟨e104, f105, F106, rfl⟩ := sp102.1 q38 6 k53 (by decide)
  refine tw_iast dX0_init_74 f105 (vp_in_nI (n := 3) (by decide) (by decide)) ?_
  obtain ⟨h107, eh107⟩ : ∃ z : tw_H, z = tw_up h101 q38 (.inl (d.2 0, 4, .inl (upd F106 (3 : Int32).toNatClampNeg 10))) := ⟨_, rfl⟩
  rw [← eh107]
  have sp108 : tw_sp d τ (tw_rm h x) g τ48 h107 := by rw [eh107]; exact sp102.set k53 (by decide) ⟨_, rfl⟩
  have f109 : h107 x = some (.inr (4, [.int n, .int r, .int ct, .ref v, .int 1, .int 1, .ref q19, .ref q38, .null])) := by rw [eh107, tw_up_n ne43]; exact f103
  refine tw_iinc [(5, .int 4), (0, .ref x), (1, .int n), (2, .int r), (3, .int ct), (4, .ref v)] 0 dX0_init_75 rfl (by decide) (by decide) rfl ?_
  refine tw_goto 52 dX0_init_78 (by decide) ?_
  refine tw_iload 0 dX0_init_52 rfl ?_
  refine tw_iconst (v := 4) dX0_init_54 (by decide) ?_
  refine tw_icmp_ge 81 dX0_init_55 (by decide) (fun _ => ?_) (fun c110 => absurd (by decide) c110)
  refine tw_aload_n 1 dX0_init_81 rfl rfl ?_
  refine tw_new (ci := 8) rfl in_8 tyX4 tyX4_ok dX0_init_82 w_491 w_208 w_90 (fs := [.null]) (fun j hj => by rcases (show j = 0 by omega) with rfl <;> rfl) 3 21 (Nat.le_of_ble_eq_true rfl) (Nat.le_of_ble_eq_true rfl) (fun q111 hq112 hA113 => ?_)
  have n114 := sp108.nn hq112
  have z115 := sp108.1.none hq112
  have ne116 := tw_neF f109 hq112
  obtain ⟨h117, eh117⟩ : ∃ z : tw_H, z = tw_up h107 q111 (.inr (8, [.null])) := ⟨_, rfl⟩
  rw [← eh117]
  have sp118 : tw_sp d τ (tw_rm h x) g τ48 h117 := by rw [eh117]; exact sp108.mk hq112
  have f119 : h117 x = some (.inr (4, [.int n, .int r, .int ct, .ref v, .int 1, .int 1, .ref q19, .ref q38, .null])) := by rw [eh117, tw_up_n ne116]; exact f109
  have f120 : h117 q111 = some (.inr (8, [.null])) := by rw [eh117]; exact tw_up_s
  refine tw_dup dX0_init_85 rfl ?_
  refine tw_bv (tw_callIN (M := mX0_init) (pc := 86) okX4_init dX0_init_86 w_492 rfl [] [.ref q111, .ref x] rfl rfl ⟨by decide, by decide⟩ (Nat.le_of_ble_eq_true rfl) (c_X4_init d g τ48 h117 sp118.1 q111 z115 f120) 2 16 (Nat.le_of_ble_eq_true rfl) (Nat.le_of_ble_eq_true rfl)) (fun h122 q121 => ?_) (fun E h1 q => q.elim)
  obtain ⟨τ123, qi124⟩ := q121
  have sp125 := sp118.ini n114 qi124
  have k126 : τ123 v = 1 := qi124.2.1.k k50 (by decide)
  have k127 : τ123 q19 = 6 := qi124.2.1.k k51 (by decide)
  have k128 : τ123 q38 = 6 := qi124.2.1.k k53 (by decide)
  have k129 : τ123 q111 = 5 := qi124.2.2.1
  have f130 := (qi124.2.2.2 _ _ ne116 f119 z54).1
  have z131 := (qi124.2.2.2 _ _ ne116 f119 z54).2
  refine tw_putF rfl in_4 tyX0 tyX0_ok nmX0 8 dX0_init_89 w_513 rfl (by decide) f130 rfl rfl rfl rfl rfl rfl (Nat.le_of_ble_eq_true rfl) [.int n, .int r, .int ct, .ref v, .int 1, .int 1, .ref q19, .ref q38, .ref q111] rfl ?_
  obtain ⟨h132, eh132⟩ : ∃ z : tw_H, z = tw_up h122 x (.inr (4, [.int n, .int r, .int ct, .ref v, .int 1, .int 1, .ref q19, .ref q38, .ref q111])) := ⟨_, rfl⟩
  rw [← eh132]
  have sp133 : tw_sp d τ (tw_rm h x) g τ123 h132 := by rw [eh132]; exact sp125.wl tw_rm_s z131
  have f134 : h132 x = some (.inr (4, [.int n, .int r, .int ct, .ref v, .int 1, .int 1, .ref q19, .ref q38, .ref q111])) := by rw [eh132]; exact tw_up_s
  obtain ⟨τ135, eτ135⟩ : ∃ z : tw_K, z = tw_ku τ123 x 2 := ⟨_, rfl⟩
  have le136 : tw_le τ123 τ135 := by rw [eτ135]; exact tw_ku_le z131
  have k137 : τ135 v = 1 := le136.k k126 (by decide)
  have k138 : τ135 q19 = 6 := le136.k k127 (by decide)
  have k139 : τ135 q38 = 6 := le136.k k128 (by decide)
  have k140 : τ135 q111 = 5 := le136.k k129 (by decide)
  have sp141 : tw_sp d τ (tw_rm h x) g τ135 h132 := by rw [eτ135]; exact sp133.ty tw_rm_s z131 f134 (by rw [← eτ135]; exact ⟨n, r, ct, 1, 1, v, q19, q38, q111, rfl, k137, k138, k139, k140, (by unfold tw_01; decide), (by unfold tw_01; decide), rlaw.1, rlaw.2⟩)
  have k142 : τ135 x = 2 := by rw [eτ135]; exact tw_ku_s
  exact tw_vret dX0_init_92 rfl (Or.inl ⟨rfl, _, sp141.toini k142⟩)

set_option maxHeartbeats 4000000 in
set_option maxRecDepth 100000 in
theorem c2_X5_needRange (d : tw_D) (g : tw_G) (τ : tw_K) (h : tw_H) (hw : tw_wt d g τ h) (v : Int32) (lo : Int32) (hi : Int32) : tw_Ct d mX5_needRange 1 6 [.int v, .int lo, .int hi] h (tw_qv (fun h1 => h1 = h ∧ lo ≤ v ∧ v ≤ hi) (fun E h1 => (E = tw_IAE) ∧ h1 = h ∧ ¬ (lo ≤ v ∧ v ≤ hi))) := by
  refine tw_of (by decide +kernel) (Nat.le_of_ble_eq_true rfl) ?_
  show tw_W d mX5_needRange _ 0 [(0, .int v), (1, .int lo), (2, .int hi)] [] h 1 6
  have sp0 := tw_sp.rf hw
  refine tw_iload_n 0 dX5_needRange_0 rfl rfl ?_
  refine tw_iload_n 1 dX5_needRange_1 rfl rfl ?_
  refine tw_icmp_lt 10 dX5_needRange_2 (by decide) (fun c1 => ?_) (fun c1 => ?_)
  · exact tw_throwSW (i := 0) (by decide +kernel) w_402 w_87 rfl at_IAE dX5_needRange_10 dX5_needRange_13 dX5_needRange_14 dX5_needRange_17 dX5_needRange_20 ⟨by decide, Nat.le_of_ble_eq_true rfl⟩ (Nat.le_of_ble_eq_true rfl) (Nat.le_of_ble_eq_true rfl) (Or.inr ⟨_, rfl, (rfl), rfl, (fun q => absurd c1 (Int32.not_lt.mpr q.1))⟩)
  · refine tw_iload_n 0 dX5_needRange_5 rfl rfl ?_
    refine tw_iload_n 2 dX5_needRange_6 rfl rfl ?_
    refine tw_icmp_le 21 dX5_needRange_7 (by decide) (fun c2 => ?_) (fun c2 => ?_)
    · exact tw_vret dX5_needRange_21 rfl (Or.inl ⟨rfl, ⟨rfl, (Int32.not_lt.mp c1), c2⟩⟩)
    · exact tw_throwSW (i := 0) (by decide +kernel) w_402 w_87 rfl at_IAE dX5_needRange_10 dX5_needRange_13 dX5_needRange_14 dX5_needRange_17 dX5_needRange_20 ⟨by decide, Nat.le_of_ble_eq_true rfl⟩ (Nat.le_of_ble_eq_true rfl) (Nat.le_of_ble_eq_true rfl) (Or.inr ⟨_, rfl, (rfl), rfl, (fun q => c2 q.2)⟩)

set_option maxHeartbeats 4000000 in
set_option maxRecDepth 100000 in
theorem c_X5_market (d : tw_D) (g : tw_G) (τ : tw_K) (h : tw_H) (hw : tw_wt d g τ h) (x : Nat) (kx : τ x = 11) (m : Int32) : tw_Ct d mX5_market 20 120 [.ref x, .int m] h (tw_qi (fun r h1 => r = g.1 0 ∧ (100 ≤ m ∧ m ≤ 200) ∧ tw_sp d τ h (tw_g1 g 0 m) τ h1) (fun E h1 => E = tw_IAE ∧ ¬ (100 ≤ m ∧ m ≤ 200) ∧ h1 = h)) := by
  refine tw_of (by decide +kernel) (Nat.le_of_ble_eq_true rfl) ?_
  show tw_W d mX5_market _ 0 [(0, .ref x), (1, .int m)] [] h 20 120
  have sp0 := tw_sp.rf hw
  refine tw_iload_n 1 dX5_market_0 rfl rfl ?_
  refine tw_bipush (v := 100) dX5_market_1 (by decide) ?_
  refine tw_sipush (v := 200) dX5_market_3 (by decide) ?_
  refine tw_bv (tw_callS (M := mX5_market) (pc := 6) okX5_needRange dX5_market_6 w_399 [.int m, .int 100, .int 200] [] rfl rfl ⟨by decide, by decide⟩ (Nat.le_of_ble_eq_true rfl) (c2_X5_needRange d g τ h sp0.1 m 100 200) 19 114 (Nat.le_of_ble_eq_true rfl) (Nat.le_of_ble_eq_true rfl)) (fun h2 q => ?_) (fun E h2 q => Or.inr ⟨E, rfl, q.1, q.2.2, q.2.1⟩)
  obtain ⟨qe, ql⟩ := q
  rw [qe]
  refine tw_aload_n 0 dX5_market_9 rfl rfl ?_
  obtain ⟨e1, f2, td_3, ca_4, ha_5, da_6, c1_7, c2_8, c3_9, c4_10, rfl, k11, k12, k13, k14, k15, k16, k17, k18, k19, k20, k21, k22, k23⟩ := sp0.1 x 11 kx (by decide)
  refine tw_get (v := .int (g.1 0)) rfl in_9 1 dX5_market_10 w_141 rfl (by decide) f2 rfl ?_
  refine tw_istore_n [(2, .int (g.1 0)), (0, .ref x), (1, .int m)] dX5_market_13 rfl (by decide) rfl ?_
  refine tw_aload_n 1 dX5_market_14 rfl rfl ?_
  refine tw_iload_n 2 dX5_market_15 rfl rfl ?_
  obtain ⟨g5, eg5⟩ : ∃ z : tw_G, z = tw_g1 g 0 m := ⟨_, rfl⟩
  have qm : m = g5.1 0 := by rw [eg5]; rfl
  refine tw_put rfl in_9 tyX5 tyX5_ok nmX5 1 dX5_market_16 w_141 rfl (by decide) f2 rfl rfl rfl rfl (Nat.le_of_ble_eq_true rfl) [.int td_3, .int m, .ref ca_4, .int (nI (g.2 0)), .ref ha_5, .int (nI (g.2 1)), .ref da_6, .int (nI (g.2 2)), .ref c1_7, .ref c2_8, .ref c3_9, .ref c4_10] rfl ?_
  obtain ⟨h24, eh24⟩ : ∃ z : tw_H, z = tw_up h x (.inr (9, [.int td_3, .int m, .ref ca_4, .int (nI (g.2 0)), .ref ha_5, .int (nI (g.2 1)), .ref da_6, .int (nI (g.2 2)), .ref c1_7, .ref c2_8, .ref c3_9, .ref c4_10])) := ⟨_, rfl⟩
  rw [← eh24]
  have sp25 : tw_sp d τ h g5 τ h24 := by rw [eh24]; exact sp0.g11 kx ⟨td_3, ca_4, ha_5, da_6, c1_7, c2_8, c3_9, c4_10, (by rw [eg5]; rfl), k11, k12, k13, k14, k15, k16, k17, (by rw [eg5]; exact k18), (by rw [eg5]; exact k19), (by rw [eg5]; exact k20), (by rw [eg5]; exact k21), (by rw [eg5]; exact k22), (by rw [eg5]; exact k23)⟩ (by rw [eg5]; intro i hi; exact if_neg hi) (by rw [eg5]; intro i hi hj; rfl)
  refine tw_iload_n 0 dX5_market_19 rfl rfl ?_
  exact tw_iret dX5_market_20 rfl (Or.inl ⟨_, rfl, rfl, ql, by rw [← eg5]; exact sp25⟩)
